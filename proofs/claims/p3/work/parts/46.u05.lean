/-! what methods do (own work, written by wip/gen3/sx3.py) -/
/-! StrikeAwakeModel.readPerson()V k -/
abbrev uq_187_k (r0 : Nat) (rp : Nat) (rb : Nat) (B : Nat → Int) (n : Int) (q : Int) (d : xD) (T : wq_T) (H : wq_H) : Option Value → wq_T → wq_H → Prop := fun r T' H' => T = T' ∧ WT T H' ∧ wfr [(54, 3), (42, 8), (42, 9), (42, 10), (42, 11), (42, 12), (42, 13), (42, 14), (42, 15), (56, 999), (57, 999), (60, 999), (63, 999), (58, 999), (59, 999), (55, 999), (61, 999), (62, 999)] T H H' ∧ none = r ∧ ((((xl1 B n q d).1 = 0) ∧ (q ≤ (xl1 B n q d).2.2) ∧ (∀ a, a ≠ rp → T.2.2.2 a = some 54 → H' a 3 = H a 3) ∧ RC T H' r0 B n (xl1 B n q d).2.2 ∧ DM T H' rp r0 (xdper B n (xN B n q) d)) ∨ (((xl1 B n q d).1 ≠ 0) ∧ (∀ a, a ≠ rp → T.2.2.2 a = some 54 → H' a 3 = H a 3) ∧ RO T H' r0 ((xl1 B n q d).1) ((xl1 B n q d).2.1)))
set_option maxHeartbeats 60000000 in
theorem u_187_k {kt : Nat → Option mc_E} {T : wq_T} {H : wq_H} {r0 : Nat} {rp : Nat} {rb : Nat} {B : Nat → Int} {n : Int} {q : Int} {d : xD} (hW : WT T H) (g0 : T.2.2.2 r0 = some 42) (qrp : H r0 4 = (rp : Int)) (grp : T.2.2.2 rp = some 54) (qrb : H r0 5 = (rb : Int)) (grb : T.2.2.2 rb = some 43) (p0 : xK B n q = 1) (hRC_r0 : RC T H r0 B n q) (hDM_rp : DM T H rp r0 d) : wpc kt 5 187 [.ref r0] T H (uq_187_k r0 rp rb B n q d T H) := by
  refine wp_enter e187 (Nat.le_of_ble_eq_true rfl) rfl ?_
  have f0 : wfr [(54, 3), (42, 8), (42, 9), (42, 10), (42, 11), (42, 12), (42, 13), (42, 14), (42, 15), (56, 999), (57, 999), (60, 999), (63, 999), (58, 999), (59, 999), (55, 999), (61, 999), (62, 999)] T H H := wfr.rf
  show wp _ _ 187 0 [(0, .ref r0)] [] _ H _
  have u264282 := RC_k hRC_r0
  have u264283 := DM_k hDM_rp
  have h264284 : MA9 T H rp (d 1) := hDM_rp.2.2.2.1
  have h264285 : MA10 T H rp (d 2) := hDM_rp.2.2.2.2.1
  have h264286 : MA11 T H rp (d 3) := hDM_rp.2.2.2.2.2.1
  have h264287 : MA12 T H rp (d 4) := hDM_rp.2.2.2.2.2.2.1
  have h264288 : MA13 T H rp (d 5) := hDM_rp.2.2.2.2.2.2.2.1
  have h264289 : MA14 T H rp (d 6) := hDM_rp.2.2.2.2.2.2.2.2.1
  have h264290 : MA15 T H rp (d 7) := hDM_rp.2.2.2.2.2.2.2.2.2.1
  have h264291 : MA16 T H rp (d 8) := hDM_rp.2.2.2.2.2.2.2.2.2.2.1
  have h264292 : MA17 T H rp (d 9) := hDM_rp.2.2.2.2.2.2.2.2.2.2.2.1
  have h264293 : MA18 T H rp (d 10) := hDM_rp.2.2.2.2.2.2.2.2.2.2.2.2.1
  have h264294 : MA19 T H rp (d 11) := hDM_rp.2.2.2.2.2.2.2.2.2.2.2.2.2.1
  have h264295 : MA20 T H rp (d 12) := hDM_rp.2.2.2.2.2.2.2.2.2.2.2.2.2.2.1
  have h264296 : MA21 T H rp (d 13) := hDM_rp.2.2.2.2.2.2.2.2.2.2.2.2.2.2.2.1
  have h264297 : MA22 T H rp (d 14) := hDM_rp.2.2.2.2.2.2.2.2.2.2.2.2.2.2.2.2.1
  have h264298 : MA23 T H rp (d 15) := hDM_rp.2.2.2.2.2.2.2.2.2.2.2.2.2.2.2.2.2.1
  have h264299 : MA25 T H rp (d 17) := hDM_rp.2.2.2.2.2.2.2.2.2.2.2.2.2.2.2.2.2.2.1
  have h264300 : MA26 T H rp (d 16) := hDM_rp.2.2.2.2.2.2.2.2.2.2.2.2.2.2.2.2.2.2.2
  have tl264313 : ∀ (v264301 : Int) (v264302 : Int) (v264303 : Int) (v264304 : Int) (v264305 : Int) (v264306 : Int) (v264307 : Int) (v264308 : Int) (v264309 : Int) (H264310 : wq_H), WT T H264310 → wfr [(42, 8), (42, 9), (42, 10), (42, 11), (42, 12), (42, 13), (42, 14), (42, 15)] T H H264310 → ((-9223372036854775808) ≤ v264301 ∧ v264301 ≤ 9223372036854775807) → (0 ≤ v264302 ∧ v264302 ≤ 23) → (0 ≤ v264303 ∧ v264303 ≤ 30) → (0 ≤ v264304 ∧ v264304 ≤ 12) → (0 ≤ v264305 ∧ v264305 ≤ 16) → ((-1) ≤ v264306 ∧ v264306 ≤ 23) → (0 ≤ v264307 ∧ v264307 ≤ 23) → (0 ≤ v264308 ∧ v264308 ≤ 24) → (0 ≤ v264309 ∧ v264309 ≤ 1) → RC T H264310 r0 B n (xl1 B n q d).2.2 → DM T H264310 rp r0 d → ((xl1 B n q d).1 = 0) → (q ≤ (xl1 B n q d).2.2) → (v264301 = xY B n (xN B n q)) → (v264302 = xV B n (xN B n (xN B n (xN B n q)))) → (v264303 = xV B n (xN B n (xN B n (xN B n (xN B n (xN B n q)))))) → (v264304 = xV B n (xN B n (xN B n (xN B n (xN B n (xN B n (xN B n (xN B n q)))))))) → (v264305 = xV B n (xN B n (xN B n (xN B n (xN B n (xN B n (xN B n (xN B n (xN B n (xN B n q)))))))))) → (v264302 ≤ v264303 ∧ v264303 ≤ v264302 + 7 ∧ v264303 ≤ 23) → (v264304 ≤ v264305 ∧ v264305 ≤ v264304 + 4 ∧ v264305 ≤ 12) → (v264307 ≤ v264308) → (xhb B n (xN B n (xN B n (xN B n (xN B n (xN B n (xN B n (xN B n (xN B n (xN B n (xN B n q)))))))))) = v264306) → (xnf B n (xqa B n (xN B n (xN B n (xN B n (xN B n (xN B n (xN B n (xN B n (xN B n (xN B n (xN B n q))))))))))) = v264307) → (xnt B n (xqa B n (xN B n (xN B n (xN B n (xN B n (xN B n (xN B n (xN B n (xN B n (xN B n (xN B n q))))))))))) = v264308) → (xaw B n (xqb B n (xqa B n (xN B n (xN B n (xN B n (xN B n (xN B n (xN B n (xN B n (xN B n (xN B n (xN B n q)))))))))))) = v264309) → (d 0 3 ≤ 5) → wp kt 4 187 200 [(0, .ref r0), (1, vL v264301), (3, vI v264302), (4, vI v264303), (5, vI v264304), (6, vI v264305), (7, vI v264306), (9, vI v264307), (10, vI v264308), (11, vI v264309)] [] T H264310 (uq_187_k r0 rp rb B n q d T H) := by
    intro v264301 v264302 v264303 v264304 v264305 v264306 v264307 v264308 v264309 H264310 w264311 f264312 b264314 b264315 b264316 b264317 b264318 b264319 b264320 b264321 b264322 h264323 h264324 x264325 x264326 x264327 x264328 x264329 x264330 x264331 x264332 x264333 x264334 x264335 x264336 x264337 x264338 x264339
    have f264340 : wfr [(54, 3), (42, 8), (42, 9), (42, 10), (42, 11), (42, 12), (42, 13), (42, 14), (42, 15), (56, 999), (57, 999), (60, 999), (63, 999), (58, 999), (59, 999), (55, 999), (61, 999), (62, 999)] T H H264310 := wfr.rf.tr f264312 rfl
    have u264341 := RC_k h264323
    have u264342 := DM_k h264324
    refine wp_of e187 c187_200 (rw_aload_n (pc' := 201) (v := .ref r0) rfl rfl rfl ?_)
    have k264343 : H264310 r0 4 = H r0 4 := (f264312 r0 4 _ g0 rfl)
    have q264344 : H264310 r0 4 = (rp : Int) := k264343.trans qrp
    refine wp_of e187 c187_201 (xg_K (pc' := 204) lf_9_166 w264311 g0 sh_42 (by decide) (by decide) rfl q264344 rfl ?_)
    refine wp_of e187 c187_204 (xg_I (pc' := 207) lf_9_188 w264311 grp sh_54 (by decide) (by decide) ty_54_3 rfl rfl (fun b264345 b264346 => ?_))
    refine wp_of e187 c187_207 (rw_istore (pc' := 209) (z := H264310 rp 3) (L' := [(12, vI (H264310 rp 3)), (0, .ref r0), (1, vL v264301), (3, vI v264302), (4, vI v264303), (5, vI v264304), (6, vI v264305), (7, vI v264306), (9, vI v264307), (10, vI v264308), (11, vI v264309)]) rfl rfl rfl ?_)
    have _k := @xdper_k ((H264310 rp 3)).toNat d B n (xN B n q) (by omega)
    refine wp_of e187 c187_209 (rw_aload_n (pc' := 210) (v := .ref r0) rfl rfl rfl ?_)
    refine wp_of e187 c187_210 (xg_K (pc' := 213) lf_9_166 w264311 g0 sh_42 (by decide) (by decide) rfl q264344 rfl ?_)
    refine wp_of e187 c187_213 (xg_R (pc' := 216) lf_9_243 w264311 grp sh_54 (by decide) (by decide) ty_54_9 rfl rfl (fun r264347 q264348 g264349 => ?_))
    refine wp_of e187 c187_216 (rw_iload (pc' := 218) (z := H264310 rp 3) rfl rfl ?_)
    refine wp_of e187 c187_218 (rw_lload_n (pc' := 219) (z := v264301) rfl rfl ?_)
    have h264350 : MA9 T H264310 rp (d 1) := (MA9_fr hW grp f264312 rfl h264284)
    refine wp_of e187 c187_219 (xs_L (pc' := 220) w264311 g264349 (by decide) sh_55 (by decide) (ty_55 _) (by omega) (by omega) ⟨by omega, by omega⟩ (by omega) (by omega) rfl (fun H264351 e264352 w264353 => ?_))
    have f264354 := f264340.put' e264352 g264349 rfl
    have h264355 : MA9 T H264351 rp (xdper B n (xN B n q) d 1) := MA_put h264350 q264348 grp g264349 (by decide) e264352 (by omega) (fun j hj => xdper_n (k := ((H264310 rp 3).toNat)) (by omega) (by omega) hj)
    refine wp_of e187 c187_220 (rw_aload_n (pc' := 221) (v := .ref r0) rfl rfl rfl ?_)
    have k264356 : H264351 r0 4 = H264310 r0 4 := (wq_u_t e264352 g264349 g0 rfl 4)
    have q264357 : H264351 r0 4 = (rp : Int) := k264356.trans q264344
    refine wp_of e187 c187_221 (xg_K (pc' := 224) lf_9_166 w264353 g0 sh_42 (by decide) (by decide) rfl q264357 rfl ?_)
    refine wp_of e187 c187_224 (xg_R (pc' := 227) lf_9_247 w264353 grp sh_54 (by decide) (by decide) ty_54_10 rfl rfl (fun r264358 q264359 g264360 => ?_))
    refine wp_of e187 c187_227 (rw_iload (pc' := 229) (z := H264310 rp 3) rfl rfl ?_)
    refine wp_of e187 c187_229 (rw_iload_n (pc' := 230) (z := v264302) rfl rfl ?_)
    have h264361 : MA10 T H264351 rp (d 2) := (MA10_fr w264311 grp ((wfr.rf (l := [(55, 999)])).put' e264352 g264349 rfl) rfl (MA10_fr hW grp f264312 rfl h264285))
    refine wp_of e187 c187_230 (xs_I (pc' := 231) w264353 g264360 (by decide) sh_56 (by decide) (ty_56 _) (by omega) (by omega) ⟨by omega, by omega⟩ (by omega) (by omega) rfl (fun H264362 e264363 w264364 => ?_))
    have f264365 := f264354.put' e264363 g264360 rfl
    have h264366 : MA10 T H264362 rp (xdper B n (xN B n q) d 2) := MA_put h264361 q264359 grp g264360 (by decide) e264363 (by omega) (fun j hj => xdper_n (k := ((H264310 rp 3).toNat)) (by omega) (by omega) hj)
    refine wp_of e187 c187_231 (rw_aload_n (pc' := 232) (v := .ref r0) rfl rfl rfl ?_)
    have k264367 : H264362 r0 4 = H264351 r0 4 := (wq_u_t e264363 g264360 g0 rfl 4)
    have q264368 : H264362 r0 4 = (rp : Int) := k264367.trans q264357
    refine wp_of e187 c187_232 (xg_K (pc' := 235) lf_9_166 w264364 g0 sh_42 (by decide) (by decide) rfl q264368 rfl ?_)
    refine wp_of e187 c187_235 (xg_R (pc' := 238) lf_9_250 w264364 grp sh_54 (by decide) (by decide) ty_54_11 rfl rfl (fun r264369 q264370 g264371 => ?_))
    refine wp_of e187 c187_238 (rw_iload (pc' := 240) (z := H264310 rp 3) rfl rfl ?_)
    refine wp_of e187 c187_240 (rw_iload (pc' := 242) (z := v264303) rfl rfl ?_)
    have h264372 : MA11 T H264362 rp (d 3) := (MA11_fr w264353 grp ((wfr.rf (l := [(56, 999)])).put' e264363 g264360 rfl) rfl (MA11_fr w264311 grp ((wfr.rf (l := [(55, 999)])).put' e264352 g264349 rfl) rfl (MA11_fr hW grp f264312 rfl h264286)))
    refine wp_of e187 c187_242 (xs_I (pc' := 243) w264364 g264371 (by decide) sh_57 (by decide) (ty_57 _) (by omega) (by omega) ⟨by omega, by omega⟩ (by omega) (by omega) rfl (fun H264373 e264374 w264375 => ?_))
    have f264376 := f264365.put' e264374 g264371 rfl
    have h264377 : MA11 T H264373 rp (xdper B n (xN B n q) d 3) := MA_put h264372 q264370 grp g264371 (by decide) e264374 (by omega) (fun j hj => xdper_n (k := ((H264310 rp 3).toNat)) (by omega) (by omega) hj)
    refine wp_of e187 c187_243 (rw_aload_n (pc' := 244) (v := .ref r0) rfl rfl rfl ?_)
    have k264378 : H264373 r0 4 = H264362 r0 4 := (wq_u_t e264374 g264371 g0 rfl 4)
    have q264379 : H264373 r0 4 = (rp : Int) := k264378.trans q264368
    refine wp_of e187 c187_244 (xg_K (pc' := 247) lf_9_166 w264375 g0 sh_42 (by decide) (by decide) rfl q264379 rfl ?_)
    refine wp_of e187 c187_247 (xg_R (pc' := 250) lf_9_253 w264375 grp sh_54 (by decide) (by decide) ty_54_12 rfl rfl (fun r264380 q264381 g264382 => ?_))
    refine wp_of e187 c187_250 (rw_iload (pc' := 252) (z := H264310 rp 3) rfl rfl ?_)
    refine wp_of e187 c187_252 (rw_iload (pc' := 254) (z := v264304) rfl rfl ?_)
    have h264383 : MA12 T H264373 rp (d 4) := (MA12_fr w264364 grp ((wfr.rf (l := [(57, 999)])).put' e264374 g264371 rfl) rfl (MA12_fr w264353 grp ((wfr.rf (l := [(56, 999)])).put' e264363 g264360 rfl) rfl (MA12_fr w264311 grp ((wfr.rf (l := [(55, 999)])).put' e264352 g264349 rfl) rfl (MA12_fr hW grp f264312 rfl h264287))))
    refine wp_of e187 c187_254 (xs_I (pc' := 255) w264375 g264382 (by decide) sh_58 (by decide) (ty_58 _) (by omega) (by omega) ⟨by omega, by omega⟩ (by omega) (by omega) rfl (fun H264384 e264385 w264386 => ?_))
    have f264387 := f264376.put' e264385 g264382 rfl
    have h264388 : MA12 T H264384 rp (xdper B n (xN B n q) d 4) := MA_put h264383 q264381 grp g264382 (by decide) e264385 (by omega) (fun j hj => xdper_n (k := ((H264310 rp 3).toNat)) (by omega) (by omega) hj)
    refine wp_of e187 c187_255 (rw_aload_n (pc' := 256) (v := .ref r0) rfl rfl rfl ?_)
    have k264389 : H264384 r0 4 = H264373 r0 4 := (wq_u_t e264385 g264382 g0 rfl 4)
    have q264390 : H264384 r0 4 = (rp : Int) := k264389.trans q264379
    refine wp_of e187 c187_256 (xg_K (pc' := 259) lf_9_166 w264386 g0 sh_42 (by decide) (by decide) rfl q264390 rfl ?_)
    refine wp_of e187 c187_259 (xg_R (pc' := 262) lf_9_256 w264386 grp sh_54 (by decide) (by decide) ty_54_13 rfl rfl (fun r264391 q264392 g264393 => ?_))
    refine wp_of e187 c187_262 (rw_iload (pc' := 264) (z := H264310 rp 3) rfl rfl ?_)
    refine wp_of e187 c187_264 (rw_iload (pc' := 266) (z := v264305) rfl rfl ?_)
    have h264394 : MA13 T H264384 rp (d 5) := (MA13_fr w264375 grp ((wfr.rf (l := [(58, 999)])).put' e264385 g264382 rfl) rfl (MA13_fr w264364 grp ((wfr.rf (l := [(57, 999)])).put' e264374 g264371 rfl) rfl (MA13_fr w264353 grp ((wfr.rf (l := [(56, 999)])).put' e264363 g264360 rfl) rfl (MA13_fr w264311 grp ((wfr.rf (l := [(55, 999)])).put' e264352 g264349 rfl) rfl (MA13_fr hW grp f264312 rfl h264288)))))
    refine wp_of e187 c187_266 (xs_I (pc' := 267) w264386 g264393 (by decide) sh_59 (by decide) (ty_59 _) (by omega) (by omega) ⟨by omega, by omega⟩ (by omega) (by omega) rfl (fun H264395 e264396 w264397 => ?_))
    have f264398 := f264387.put' e264396 g264393 rfl
    have h264399 : MA13 T H264395 rp (xdper B n (xN B n q) d 5) := MA_put h264394 q264392 grp g264393 (by decide) e264396 (by omega) (fun j hj => xdper_n (k := ((H264310 rp 3).toNat)) (by omega) (by omega) hj)
    refine wp_of e187 c187_267 (rw_aload_n (pc' := 268) (v := .ref r0) rfl rfl rfl ?_)
    have k264400 : H264395 r0 4 = H264384 r0 4 := (wq_u_t e264396 g264393 g0 rfl 4)
    have q264401 : H264395 r0 4 = (rp : Int) := k264400.trans q264390
    refine wp_of e187 c187_268 (xg_K (pc' := 271) lf_9_166 w264397 g0 sh_42 (by decide) (by decide) rfl q264401 rfl ?_)
    refine wp_of e187 c187_271 (xg_R (pc' := 274) lf_9_259 w264397 grp sh_54 (by decide) (by decide) ty_54_14 rfl rfl (fun r264402 q264403 g264404 => ?_))
    refine wp_of e187 c187_274 (rw_iload (pc' := 276) (z := H264310 rp 3) rfl rfl ?_)
    refine wp_of e187 c187_276 (rw_iload (pc' := 278) (z := v264306) rfl rfl ?_)
    have h264405 : MA14 T H264395 rp (d 6) := (MA14_fr w264386 grp ((wfr.rf (l := [(59, 999)])).put' e264396 g264393 rfl) rfl (MA14_fr w264375 grp ((wfr.rf (l := [(58, 999)])).put' e264385 g264382 rfl) rfl (MA14_fr w264364 grp ((wfr.rf (l := [(57, 999)])).put' e264374 g264371 rfl) rfl (MA14_fr w264353 grp ((wfr.rf (l := [(56, 999)])).put' e264363 g264360 rfl) rfl (MA14_fr w264311 grp ((wfr.rf (l := [(55, 999)])).put' e264352 g264349 rfl) rfl (MA14_fr hW grp f264312 rfl h264289))))))
    refine wp_of e187 c187_278 (xs_I (pc' := 279) w264397 g264404 (by decide) sh_60 (by decide) (ty_60 _) (by omega) (by omega) ⟨by omega, by omega⟩ (by omega) (by omega) rfl (fun H264406 e264407 w264408 => ?_))
    have f264409 := f264398.put' e264407 g264404 rfl
    have h264410 : MA14 T H264406 rp (xdper B n (xN B n q) d 6) := MA_put h264405 q264403 grp g264404 (by decide) e264407 (by omega) (fun j hj => xdper_n (k := ((H264310 rp 3).toNat)) (by omega) (by omega) hj)
    refine wp_of e187 c187_279 (rw_aload_n (pc' := 280) (v := .ref r0) rfl rfl rfl ?_)
    have k264411 : H264406 r0 4 = H264395 r0 4 := (wq_u_t e264407 g264404 g0 rfl 4)
    have q264412 : H264406 r0 4 = (rp : Int) := k264411.trans q264401
    refine wp_of e187 c187_280 (xg_K (pc' := 283) lf_9_166 w264408 g0 sh_42 (by decide) (by decide) rfl q264412 rfl ?_)
    refine wp_of e187 c187_283 (xg_R (pc' := 286) lf_9_261 w264408 grp sh_54 (by decide) (by decide) ty_54_15 rfl rfl (fun r264413 q264414 g264415 => ?_))
    refine wp_of e187 c187_286 (rw_iload (pc' := 288) (z := H264310 rp 3) rfl rfl ?_)
    refine wp_of e187 c187_288 (rw_iload (pc' := 290) (z := v264307) rfl rfl ?_)
    have h264416 : MA15 T H264406 rp (d 7) := (MA15_fr w264397 grp ((wfr.rf (l := [(60, 999)])).put' e264407 g264404 rfl) rfl (MA15_fr w264386 grp ((wfr.rf (l := [(59, 999)])).put' e264396 g264393 rfl) rfl (MA15_fr w264375 grp ((wfr.rf (l := [(58, 999)])).put' e264385 g264382 rfl) rfl (MA15_fr w264364 grp ((wfr.rf (l := [(57, 999)])).put' e264374 g264371 rfl) rfl (MA15_fr w264353 grp ((wfr.rf (l := [(56, 999)])).put' e264363 g264360 rfl) rfl (MA15_fr w264311 grp ((wfr.rf (l := [(55, 999)])).put' e264352 g264349 rfl) rfl (MA15_fr hW grp f264312 rfl h264290)))))))
    refine wp_of e187 c187_290 (xs_I (pc' := 291) w264408 g264415 (by decide) sh_61 (by decide) (ty_61 _) (by omega) (by omega) ⟨by omega, by omega⟩ (by omega) (by omega) rfl (fun H264417 e264418 w264419 => ?_))
    have f264420 := f264409.put' e264418 g264415 rfl
    have h264421 : MA15 T H264417 rp (xdper B n (xN B n q) d 7) := MA_put h264416 q264414 grp g264415 (by decide) e264418 (by omega) (fun j hj => xdper_n (k := ((H264310 rp 3).toNat)) (by omega) (by omega) hj)
    refine wp_of e187 c187_291 (rw_aload_n (pc' := 292) (v := .ref r0) rfl rfl rfl ?_)
    have k264422 : H264417 r0 4 = H264406 r0 4 := (wq_u_t e264418 g264415 g0 rfl 4)
    have q264423 : H264417 r0 4 = (rp : Int) := k264422.trans q264412
    refine wp_of e187 c187_292 (xg_K (pc' := 295) lf_9_166 w264419 g0 sh_42 (by decide) (by decide) rfl q264423 rfl ?_)
    refine wp_of e187 c187_295 (xg_R (pc' := 298) lf_9_264 w264419 grp sh_54 (by decide) (by decide) ty_54_16 rfl rfl (fun r264424 q264425 g264426 => ?_))
    refine wp_of e187 c187_298 (rw_iload (pc' := 300) (z := H264310 rp 3) rfl rfl ?_)
    refine wp_of e187 c187_300 (rw_iload (pc' := 302) (z := v264308) rfl rfl ?_)
    have h264427 : MA16 T H264417 rp (d 8) := (MA16_fr w264408 grp ((wfr.rf (l := [(61, 999)])).put' e264418 g264415 rfl) rfl (MA16_fr w264397 grp ((wfr.rf (l := [(60, 999)])).put' e264407 g264404 rfl) rfl (MA16_fr w264386 grp ((wfr.rf (l := [(59, 999)])).put' e264396 g264393 rfl) rfl (MA16_fr w264375 grp ((wfr.rf (l := [(58, 999)])).put' e264385 g264382 rfl) rfl (MA16_fr w264364 grp ((wfr.rf (l := [(57, 999)])).put' e264374 g264371 rfl) rfl (MA16_fr w264353 grp ((wfr.rf (l := [(56, 999)])).put' e264363 g264360 rfl) rfl (MA16_fr w264311 grp ((wfr.rf (l := [(55, 999)])).put' e264352 g264349 rfl) rfl (MA16_fr hW grp f264312 rfl h264291))))))))
    refine wp_of e187 c187_302 (xs_I (pc' := 303) w264419 g264426 (by decide) sh_62 (by decide) (ty_62 _) (by omega) (by omega) ⟨by omega, by omega⟩ (by omega) (by omega) rfl (fun H264428 e264429 w264430 => ?_))
    have f264431 := f264420.put' e264429 g264426 rfl
    have h264432 : MA16 T H264428 rp (xdper B n (xN B n q) d 8) := MA_put h264427 q264425 grp g264426 (by decide) e264429 (by omega) (fun j hj => xdper_n (k := ((H264310 rp 3).toNat)) (by omega) (by omega) hj)
    refine wp_of e187 c187_303 (rw_aload_n (pc' := 304) (v := .ref r0) rfl rfl rfl ?_)
    have k264433 : H264428 r0 4 = H264417 r0 4 := (wq_u_t e264429 g264426 g0 rfl 4)
    have q264434 : H264428 r0 4 = (rp : Int) := k264433.trans q264423
    refine wp_of e187 c187_304 (xg_K (pc' := 307) lf_9_166 w264430 g0 sh_42 (by decide) (by decide) rfl q264434 rfl ?_)
    refine wp_of e187 c187_307 (xg_R (pc' := 310) lf_9_267 w264430 grp sh_54 (by decide) (by decide) ty_54_17 rfl rfl (fun r264435 q264436 g264437 => ?_))
    refine wp_of e187 c187_310 (rw_iload (pc' := 312) (z := H264310 rp 3) rfl rfl ?_)
    refine wp_of e187 c187_312 (rw_iload (pc' := 314) (z := v264309) rfl rfl ?_)
    have h264438 : MA17 T H264428 rp (d 9) := (MA17_fr w264419 grp ((wfr.rf (l := [(62, 999)])).put' e264429 g264426 rfl) rfl (MA17_fr w264408 grp ((wfr.rf (l := [(61, 999)])).put' e264418 g264415 rfl) rfl (MA17_fr w264397 grp ((wfr.rf (l := [(60, 999)])).put' e264407 g264404 rfl) rfl (MA17_fr w264386 grp ((wfr.rf (l := [(59, 999)])).put' e264396 g264393 rfl) rfl (MA17_fr w264375 grp ((wfr.rf (l := [(58, 999)])).put' e264385 g264382 rfl) rfl (MA17_fr w264364 grp ((wfr.rf (l := [(57, 999)])).put' e264374 g264371 rfl) rfl (MA17_fr w264353 grp ((wfr.rf (l := [(56, 999)])).put' e264363 g264360 rfl) rfl (MA17_fr w264311 grp ((wfr.rf (l := [(55, 999)])).put' e264352 g264349 rfl) rfl (MA17_fr hW grp f264312 rfl h264292)))))))))
    refine wp_of e187 c187_314 (xs_Z (pc' := 315) w264430 g264437 (by decide) sh_63 (by decide) (ty_63 _) (by omega) (by omega) ⟨by omega, by omega⟩ (by omega) (by omega) rfl (fun H264439 e264440 w264441 => ?_))
    have f264442 := f264431.put' e264440 g264437 rfl
    have h264443 : MA17 T H264439 rp (xdper B n (xN B n q) d 9) := MA_put h264438 q264436 grp g264437 (by decide) e264440 (by omega) (fun j hj => xdper_n (k := ((H264310 rp 3).toNat)) (by omega) (by omega) hj)
    refine wp_of e187 c187_315 (rw_aload_n (pc' := 316) (v := .ref r0) rfl rfl rfl ?_)
    have k264444 : H264439 r0 4 = H264428 r0 4 := (wq_u_t e264440 g264437 g0 rfl 4)
    have q264445 : H264439 r0 4 = (rp : Int) := k264444.trans q264434
    refine wp_of e187 c187_316 (xg_K (pc' := 319) lf_9_166 w264441 g0 sh_42 (by decide) (by decide) rfl q264445 rfl ?_)
    refine wp_of e187 c187_319 (rw_dup (pc' := 320) rfl rfl ?_)
    have k264446 : H264439 rp 3 = H264310 rp 3 := ((wq_u_t e264440 g264437 grp rfl 3).trans ((wq_u_t e264429 g264426 grp rfl 3).trans ((wq_u_t e264418 g264415 grp rfl 3).trans ((wq_u_t e264407 g264404 grp rfl 3).trans ((wq_u_t e264396 g264393 grp rfl 3).trans ((wq_u_t e264385 g264382 grp rfl 3).trans ((wq_u_t e264374 g264371 grp rfl 3).trans ((wq_u_t e264363 g264360 grp rfl 3).trans (wq_u_t e264352 g264349 grp rfl 3)))))))))
    refine wp_of e187 c187_320 (xg_I (pc' := 323) lf_9_188 w264441 grp sh_54 (by decide) (by decide) ty_54_3 rfl rfl (fun b264447 b264448 => ?_))
    refine wp_of e187 c187_323 (rw_iconst (pc' := 324) rfl ?_)
    refine wp_of e187 c187_324 (rw_iadd (pc' := 325) rfl ?_)
    refine wp_of e187 c187_325 (xp_I (pc' := 328) lf_9_188 w264441 grp sh_54 (by decide) (by decide) ty_54_3 rfl rfl (by omega) (by omega) ⟨by omega, by omega⟩ rfl (fun H264449 e264450 w264451 => ?_))
    have f264452 := f264442.put' e264450 grp rfl
    have k264453 : H264449 rp 3 = (H264439 rp 3) + 1 := wq_u_s e264450
    have k264454 : H264449 rp 0 = H264310 rp 0 := ((wq_u_j e264450 rfl).trans ((wq_u_t e264440 g264437 grp rfl 0).trans ((wq_u_t e264429 g264426 grp rfl 0).trans ((wq_u_t e264418 g264415 grp rfl 0).trans ((wq_u_t e264407 g264404 grp rfl 0).trans ((wq_u_t e264396 g264393 grp rfl 0).trans ((wq_u_t e264385 g264382 grp rfl 0).trans ((wq_u_t e264374 g264371 grp rfl 0).trans ((wq_u_t e264363 g264360 grp rfl 0).trans (wq_u_t e264352 g264349 grp rfl 0))))))))))
    have k264455 : H264449 rp 1 = H264310 rp 1 := ((wq_u_j e264450 rfl).trans ((wq_u_t e264440 g264437 grp rfl 1).trans ((wq_u_t e264429 g264426 grp rfl 1).trans ((wq_u_t e264418 g264415 grp rfl 1).trans ((wq_u_t e264407 g264404 grp rfl 1).trans ((wq_u_t e264396 g264393 grp rfl 1).trans ((wq_u_t e264385 g264382 grp rfl 1).trans ((wq_u_t e264374 g264371 grp rfl 1).trans ((wq_u_t e264363 g264360 grp rfl 1).trans (wq_u_t e264352 g264349 grp rfl 1))))))))))
    have k264456 : H264449 rp 2 = H264310 rp 2 := ((wq_u_j e264450 rfl).trans ((wq_u_t e264440 g264437 grp rfl 2).trans ((wq_u_t e264429 g264426 grp rfl 2).trans ((wq_u_t e264418 g264415 grp rfl 2).trans ((wq_u_t e264407 g264404 grp rfl 2).trans ((wq_u_t e264396 g264393 grp rfl 2).trans ((wq_u_t e264385 g264382 grp rfl 2).trans ((wq_u_t e264374 g264371 grp rfl 2).trans ((wq_u_t e264363 g264360 grp rfl 2).trans (wq_u_t e264352 g264349 grp rfl 2))))))))))
    have k264457 : H264449 rp 4 = H264310 rp 4 := ((wq_u_j e264450 rfl).trans ((wq_u_t e264440 g264437 grp rfl 4).trans ((wq_u_t e264429 g264426 grp rfl 4).trans ((wq_u_t e264418 g264415 grp rfl 4).trans ((wq_u_t e264407 g264404 grp rfl 4).trans ((wq_u_t e264396 g264393 grp rfl 4).trans ((wq_u_t e264385 g264382 grp rfl 4).trans ((wq_u_t e264374 g264371 grp rfl 4).trans ((wq_u_t e264363 g264360 grp rfl 4).trans (wq_u_t e264352 g264349 grp rfl 4))))))))))
    have k264458 : H264449 rp 5 = H264310 rp 5 := ((wq_u_j e264450 rfl).trans ((wq_u_t e264440 g264437 grp rfl 5).trans ((wq_u_t e264429 g264426 grp rfl 5).trans ((wq_u_t e264418 g264415 grp rfl 5).trans ((wq_u_t e264407 g264404 grp rfl 5).trans ((wq_u_t e264396 g264393 grp rfl 5).trans ((wq_u_t e264385 g264382 grp rfl 5).trans ((wq_u_t e264374 g264371 grp rfl 5).trans ((wq_u_t e264363 g264360 grp rfl 5).trans (wq_u_t e264352 g264349 grp rfl 5))))))))))
    have k264459 : H264449 rp 6 = H264310 rp 6 := ((wq_u_j e264450 rfl).trans ((wq_u_t e264440 g264437 grp rfl 6).trans ((wq_u_t e264429 g264426 grp rfl 6).trans ((wq_u_t e264418 g264415 grp rfl 6).trans ((wq_u_t e264407 g264404 grp rfl 6).trans ((wq_u_t e264396 g264393 grp rfl 6).trans ((wq_u_t e264385 g264382 grp rfl 6).trans ((wq_u_t e264374 g264371 grp rfl 6).trans ((wq_u_t e264363 g264360 grp rfl 6).trans (wq_u_t e264352 g264349 grp rfl 6))))))))))
    have k264460 : H264449 rp 7 = H264310 rp 7 := ((wq_u_j e264450 rfl).trans ((wq_u_t e264440 g264437 grp rfl 7).trans ((wq_u_t e264429 g264426 grp rfl 7).trans ((wq_u_t e264418 g264415 grp rfl 7).trans ((wq_u_t e264407 g264404 grp rfl 7).trans ((wq_u_t e264396 g264393 grp rfl 7).trans ((wq_u_t e264385 g264382 grp rfl 7).trans ((wq_u_t e264374 g264371 grp rfl 7).trans ((wq_u_t e264363 g264360 grp rfl 7).trans (wq_u_t e264352 g264349 grp rfl 7))))))))))
    have k264461 : H264449 rp 8 = H264310 rp 8 := ((wq_u_j e264450 rfl).trans ((wq_u_t e264440 g264437 grp rfl 8).trans ((wq_u_t e264429 g264426 grp rfl 8).trans ((wq_u_t e264418 g264415 grp rfl 8).trans ((wq_u_t e264407 g264404 grp rfl 8).trans ((wq_u_t e264396 g264393 grp rfl 8).trans ((wq_u_t e264385 g264382 grp rfl 8).trans ((wq_u_t e264374 g264371 grp rfl 8).trans ((wq_u_t e264363 g264360 grp rfl 8).trans (wq_u_t e264352 g264349 grp rfl 8))))))))))
    have k264462 : H264449 r0 16 = H264310 r0 16 := ((wq_u_t e264450 grp g0 rfl 16).trans ((wq_u_t e264440 g264437 g0 rfl 16).trans ((wq_u_t e264429 g264426 g0 rfl 16).trans ((wq_u_t e264418 g264415 g0 rfl 16).trans ((wq_u_t e264407 g264404 g0 rfl 16).trans ((wq_u_t e264396 g264393 g0 rfl 16).trans ((wq_u_t e264385 g264382 g0 rfl 16).trans ((wq_u_t e264374 g264371 g0 rfl 16).trans ((wq_u_t e264363 g264360 g0 rfl 16).trans (wq_u_t e264352 g264349 g0 rfl 16))))))))))
    have _l := @xdper_v B n (xN B n q) d
    have h264463 : RC T H264449 r0 B n (xl1 B n q d).2.2 := (RC_fr w264441 g0 ((wfr.rf (l := [(54, 3)])).put' e264450 grp rfl) rfl (RC_fr w264430 g0 ((wfr.rf (l := [(63, 999)])).put' e264440 g264437 rfl) rfl (RC_fr w264419 g0 ((wfr.rf (l := [(62, 999)])).put' e264429 g264426 rfl) rfl (RC_fr w264408 g0 ((wfr.rf (l := [(61, 999)])).put' e264418 g264415 rfl) rfl (RC_fr w264397 g0 ((wfr.rf (l := [(60, 999)])).put' e264407 g264404 rfl) rfl (RC_fr w264386 g0 ((wfr.rf (l := [(59, 999)])).put' e264396 g264393 rfl) rfl (RC_fr w264375 g0 ((wfr.rf (l := [(58, 999)])).put' e264385 g264382 rfl) rfl (RC_fr w264364 g0 ((wfr.rf (l := [(57, 999)])).put' e264374 g264371 rfl) rfl (RC_fr w264353 g0 ((wfr.rf (l := [(56, 999)])).put' e264363 g264360 rfl) rfl (RC_fr w264311 g0 ((wfr.rf (l := [(55, 999)])).put' e264352 g264349 rfl) rfl h264323))))))))))
    have h264464 : MA9 T H264449 rp (xdper B n (xN B n q) d 1) := (MA9_fr w264441 grp ((wfr.rf (l := [(54, 3)])).put' e264450 grp rfl) rfl (MA9_fr w264430 grp ((wfr.rf (l := [(63, 999)])).put' e264440 g264437 rfl) rfl (MA9_fr w264419 grp ((wfr.rf (l := [(62, 999)])).put' e264429 g264426 rfl) rfl (MA9_fr w264408 grp ((wfr.rf (l := [(61, 999)])).put' e264418 g264415 rfl) rfl (MA9_fr w264397 grp ((wfr.rf (l := [(60, 999)])).put' e264407 g264404 rfl) rfl (MA9_fr w264386 grp ((wfr.rf (l := [(59, 999)])).put' e264396 g264393 rfl) rfl (MA9_fr w264375 grp ((wfr.rf (l := [(58, 999)])).put' e264385 g264382 rfl) rfl (MA9_fr w264364 grp ((wfr.rf (l := [(57, 999)])).put' e264374 g264371 rfl) rfl (MA9_fr w264353 grp ((wfr.rf (l := [(56, 999)])).put' e264363 g264360 rfl) rfl h264355)))))))))
    have h264465 : MA10 T H264449 rp (xdper B n (xN B n q) d 2) := (MA10_fr w264441 grp ((wfr.rf (l := [(54, 3)])).put' e264450 grp rfl) rfl (MA10_fr w264430 grp ((wfr.rf (l := [(63, 999)])).put' e264440 g264437 rfl) rfl (MA10_fr w264419 grp ((wfr.rf (l := [(62, 999)])).put' e264429 g264426 rfl) rfl (MA10_fr w264408 grp ((wfr.rf (l := [(61, 999)])).put' e264418 g264415 rfl) rfl (MA10_fr w264397 grp ((wfr.rf (l := [(60, 999)])).put' e264407 g264404 rfl) rfl (MA10_fr w264386 grp ((wfr.rf (l := [(59, 999)])).put' e264396 g264393 rfl) rfl (MA10_fr w264375 grp ((wfr.rf (l := [(58, 999)])).put' e264385 g264382 rfl) rfl (MA10_fr w264364 grp ((wfr.rf (l := [(57, 999)])).put' e264374 g264371 rfl) rfl h264366))))))))
    have h264466 : MA11 T H264449 rp (xdper B n (xN B n q) d 3) := (MA11_fr w264441 grp ((wfr.rf (l := [(54, 3)])).put' e264450 grp rfl) rfl (MA11_fr w264430 grp ((wfr.rf (l := [(63, 999)])).put' e264440 g264437 rfl) rfl (MA11_fr w264419 grp ((wfr.rf (l := [(62, 999)])).put' e264429 g264426 rfl) rfl (MA11_fr w264408 grp ((wfr.rf (l := [(61, 999)])).put' e264418 g264415 rfl) rfl (MA11_fr w264397 grp ((wfr.rf (l := [(60, 999)])).put' e264407 g264404 rfl) rfl (MA11_fr w264386 grp ((wfr.rf (l := [(59, 999)])).put' e264396 g264393 rfl) rfl (MA11_fr w264375 grp ((wfr.rf (l := [(58, 999)])).put' e264385 g264382 rfl) rfl h264377)))))))
    have h264467 : MA12 T H264449 rp (xdper B n (xN B n q) d 4) := (MA12_fr w264441 grp ((wfr.rf (l := [(54, 3)])).put' e264450 grp rfl) rfl (MA12_fr w264430 grp ((wfr.rf (l := [(63, 999)])).put' e264440 g264437 rfl) rfl (MA12_fr w264419 grp ((wfr.rf (l := [(62, 999)])).put' e264429 g264426 rfl) rfl (MA12_fr w264408 grp ((wfr.rf (l := [(61, 999)])).put' e264418 g264415 rfl) rfl (MA12_fr w264397 grp ((wfr.rf (l := [(60, 999)])).put' e264407 g264404 rfl) rfl (MA12_fr w264386 grp ((wfr.rf (l := [(59, 999)])).put' e264396 g264393 rfl) rfl h264388))))))
    have h264468 : MA13 T H264449 rp (xdper B n (xN B n q) d 5) := (MA13_fr w264441 grp ((wfr.rf (l := [(54, 3)])).put' e264450 grp rfl) rfl (MA13_fr w264430 grp ((wfr.rf (l := [(63, 999)])).put' e264440 g264437 rfl) rfl (MA13_fr w264419 grp ((wfr.rf (l := [(62, 999)])).put' e264429 g264426 rfl) rfl (MA13_fr w264408 grp ((wfr.rf (l := [(61, 999)])).put' e264418 g264415 rfl) rfl (MA13_fr w264397 grp ((wfr.rf (l := [(60, 999)])).put' e264407 g264404 rfl) rfl h264399)))))
    have h264469 : MA14 T H264449 rp (xdper B n (xN B n q) d 6) := (MA14_fr w264441 grp ((wfr.rf (l := [(54, 3)])).put' e264450 grp rfl) rfl (MA14_fr w264430 grp ((wfr.rf (l := [(63, 999)])).put' e264440 g264437 rfl) rfl (MA14_fr w264419 grp ((wfr.rf (l := [(62, 999)])).put' e264429 g264426 rfl) rfl (MA14_fr w264408 grp ((wfr.rf (l := [(61, 999)])).put' e264418 g264415 rfl) rfl h264410))))
    have h264470 : MA15 T H264449 rp (xdper B n (xN B n q) d 7) := (MA15_fr w264441 grp ((wfr.rf (l := [(54, 3)])).put' e264450 grp rfl) rfl (MA15_fr w264430 grp ((wfr.rf (l := [(63, 999)])).put' e264440 g264437 rfl) rfl (MA15_fr w264419 grp ((wfr.rf (l := [(62, 999)])).put' e264429 g264426 rfl) rfl h264421)))
    have h264471 : MA16 T H264449 rp (xdper B n (xN B n q) d 8) := (MA16_fr w264441 grp ((wfr.rf (l := [(54, 3)])).put' e264450 grp rfl) rfl (MA16_fr w264430 grp ((wfr.rf (l := [(63, 999)])).put' e264440 g264437 rfl) rfl h264432))
    have h264472 : MA17 T H264449 rp (xdper B n (xN B n q) d 9) := (MA17_fr w264441 grp ((wfr.rf (l := [(54, 3)])).put' e264450 grp rfl) rfl h264443)
    have h264473 : MA18 T H264449 rp (d 10) := (MA18_fr w264441 grp ((wfr.rf (l := [(54, 3)])).put' e264450 grp rfl) rfl (MA18_fr w264430 grp ((wfr.rf (l := [(63, 999)])).put' e264440 g264437 rfl) rfl (MA18_fr w264419 grp ((wfr.rf (l := [(62, 999)])).put' e264429 g264426 rfl) rfl (MA18_fr w264408 grp ((wfr.rf (l := [(61, 999)])).put' e264418 g264415 rfl) rfl (MA18_fr w264397 grp ((wfr.rf (l := [(60, 999)])).put' e264407 g264404 rfl) rfl (MA18_fr w264386 grp ((wfr.rf (l := [(59, 999)])).put' e264396 g264393 rfl) rfl (MA18_fr w264375 grp ((wfr.rf (l := [(58, 999)])).put' e264385 g264382 rfl) rfl (MA18_fr w264364 grp ((wfr.rf (l := [(57, 999)])).put' e264374 g264371 rfl) rfl (MA18_fr w264353 grp ((wfr.rf (l := [(56, 999)])).put' e264363 g264360 rfl) rfl (MA18_fr w264311 grp ((wfr.rf (l := [(55, 999)])).put' e264352 g264349 rfl) rfl (MA18_fr hW grp f264312 rfl h264293)))))))))))
    have h264474 : MA19 T H264449 rp (d 11) := (MA19_fr w264441 grp ((wfr.rf (l := [(54, 3)])).put' e264450 grp rfl) rfl (MA19_fr w264430 grp ((wfr.rf (l := [(63, 999)])).put' e264440 g264437 rfl) rfl (MA19_fr w264419 grp ((wfr.rf (l := [(62, 999)])).put' e264429 g264426 rfl) rfl (MA19_fr w264408 grp ((wfr.rf (l := [(61, 999)])).put' e264418 g264415 rfl) rfl (MA19_fr w264397 grp ((wfr.rf (l := [(60, 999)])).put' e264407 g264404 rfl) rfl (MA19_fr w264386 grp ((wfr.rf (l := [(59, 999)])).put' e264396 g264393 rfl) rfl (MA19_fr w264375 grp ((wfr.rf (l := [(58, 999)])).put' e264385 g264382 rfl) rfl (MA19_fr w264364 grp ((wfr.rf (l := [(57, 999)])).put' e264374 g264371 rfl) rfl (MA19_fr w264353 grp ((wfr.rf (l := [(56, 999)])).put' e264363 g264360 rfl) rfl (MA19_fr w264311 grp ((wfr.rf (l := [(55, 999)])).put' e264352 g264349 rfl) rfl (MA19_fr hW grp f264312 rfl h264294)))))))))))
    have h264475 : MA20 T H264449 rp (d 12) := (MA20_fr w264441 grp ((wfr.rf (l := [(54, 3)])).put' e264450 grp rfl) rfl (MA20_fr w264430 grp ((wfr.rf (l := [(63, 999)])).put' e264440 g264437 rfl) rfl (MA20_fr w264419 grp ((wfr.rf (l := [(62, 999)])).put' e264429 g264426 rfl) rfl (MA20_fr w264408 grp ((wfr.rf (l := [(61, 999)])).put' e264418 g264415 rfl) rfl (MA20_fr w264397 grp ((wfr.rf (l := [(60, 999)])).put' e264407 g264404 rfl) rfl (MA20_fr w264386 grp ((wfr.rf (l := [(59, 999)])).put' e264396 g264393 rfl) rfl (MA20_fr w264375 grp ((wfr.rf (l := [(58, 999)])).put' e264385 g264382 rfl) rfl (MA20_fr w264364 grp ((wfr.rf (l := [(57, 999)])).put' e264374 g264371 rfl) rfl (MA20_fr w264353 grp ((wfr.rf (l := [(56, 999)])).put' e264363 g264360 rfl) rfl (MA20_fr w264311 grp ((wfr.rf (l := [(55, 999)])).put' e264352 g264349 rfl) rfl (MA20_fr hW grp f264312 rfl h264295)))))))))))
    have h264476 : MA21 T H264449 rp (d 13) := (MA21_fr w264441 grp ((wfr.rf (l := [(54, 3)])).put' e264450 grp rfl) rfl (MA21_fr w264430 grp ((wfr.rf (l := [(63, 999)])).put' e264440 g264437 rfl) rfl (MA21_fr w264419 grp ((wfr.rf (l := [(62, 999)])).put' e264429 g264426 rfl) rfl (MA21_fr w264408 grp ((wfr.rf (l := [(61, 999)])).put' e264418 g264415 rfl) rfl (MA21_fr w264397 grp ((wfr.rf (l := [(60, 999)])).put' e264407 g264404 rfl) rfl (MA21_fr w264386 grp ((wfr.rf (l := [(59, 999)])).put' e264396 g264393 rfl) rfl (MA21_fr w264375 grp ((wfr.rf (l := [(58, 999)])).put' e264385 g264382 rfl) rfl (MA21_fr w264364 grp ((wfr.rf (l := [(57, 999)])).put' e264374 g264371 rfl) rfl (MA21_fr w264353 grp ((wfr.rf (l := [(56, 999)])).put' e264363 g264360 rfl) rfl (MA21_fr w264311 grp ((wfr.rf (l := [(55, 999)])).put' e264352 g264349 rfl) rfl (MA21_fr hW grp f264312 rfl h264296)))))))))))
    have h264477 : MA22 T H264449 rp (d 14) := (MA22_fr w264441 grp ((wfr.rf (l := [(54, 3)])).put' e264450 grp rfl) rfl (MA22_fr w264430 grp ((wfr.rf (l := [(63, 999)])).put' e264440 g264437 rfl) rfl (MA22_fr w264419 grp ((wfr.rf (l := [(62, 999)])).put' e264429 g264426 rfl) rfl (MA22_fr w264408 grp ((wfr.rf (l := [(61, 999)])).put' e264418 g264415 rfl) rfl (MA22_fr w264397 grp ((wfr.rf (l := [(60, 999)])).put' e264407 g264404 rfl) rfl (MA22_fr w264386 grp ((wfr.rf (l := [(59, 999)])).put' e264396 g264393 rfl) rfl (MA22_fr w264375 grp ((wfr.rf (l := [(58, 999)])).put' e264385 g264382 rfl) rfl (MA22_fr w264364 grp ((wfr.rf (l := [(57, 999)])).put' e264374 g264371 rfl) rfl (MA22_fr w264353 grp ((wfr.rf (l := [(56, 999)])).put' e264363 g264360 rfl) rfl (MA22_fr w264311 grp ((wfr.rf (l := [(55, 999)])).put' e264352 g264349 rfl) rfl (MA22_fr hW grp f264312 rfl h264297)))))))))))
    have h264478 : MA23 T H264449 rp (d 15) := (MA23_fr w264441 grp ((wfr.rf (l := [(54, 3)])).put' e264450 grp rfl) rfl (MA23_fr w264430 grp ((wfr.rf (l := [(63, 999)])).put' e264440 g264437 rfl) rfl (MA23_fr w264419 grp ((wfr.rf (l := [(62, 999)])).put' e264429 g264426 rfl) rfl (MA23_fr w264408 grp ((wfr.rf (l := [(61, 999)])).put' e264418 g264415 rfl) rfl (MA23_fr w264397 grp ((wfr.rf (l := [(60, 999)])).put' e264407 g264404 rfl) rfl (MA23_fr w264386 grp ((wfr.rf (l := [(59, 999)])).put' e264396 g264393 rfl) rfl (MA23_fr w264375 grp ((wfr.rf (l := [(58, 999)])).put' e264385 g264382 rfl) rfl (MA23_fr w264364 grp ((wfr.rf (l := [(57, 999)])).put' e264374 g264371 rfl) rfl (MA23_fr w264353 grp ((wfr.rf (l := [(56, 999)])).put' e264363 g264360 rfl) rfl (MA23_fr w264311 grp ((wfr.rf (l := [(55, 999)])).put' e264352 g264349 rfl) rfl (MA23_fr hW grp f264312 rfl h264298)))))))))))
    have h264479 : MA25 T H264449 rp (d 17) := (MA25_fr w264441 grp ((wfr.rf (l := [(54, 3)])).put' e264450 grp rfl) rfl (MA25_fr w264430 grp ((wfr.rf (l := [(63, 999)])).put' e264440 g264437 rfl) rfl (MA25_fr w264419 grp ((wfr.rf (l := [(62, 999)])).put' e264429 g264426 rfl) rfl (MA25_fr w264408 grp ((wfr.rf (l := [(61, 999)])).put' e264418 g264415 rfl) rfl (MA25_fr w264397 grp ((wfr.rf (l := [(60, 999)])).put' e264407 g264404 rfl) rfl (MA25_fr w264386 grp ((wfr.rf (l := [(59, 999)])).put' e264396 g264393 rfl) rfl (MA25_fr w264375 grp ((wfr.rf (l := [(58, 999)])).put' e264385 g264382 rfl) rfl (MA25_fr w264364 grp ((wfr.rf (l := [(57, 999)])).put' e264374 g264371 rfl) rfl (MA25_fr w264353 grp ((wfr.rf (l := [(56, 999)])).put' e264363 g264360 rfl) rfl (MA25_fr w264311 grp ((wfr.rf (l := [(55, 999)])).put' e264352 g264349 rfl) rfl (MA25_fr hW grp f264312 rfl h264299)))))))))))
    have h264480 : MA26 T H264449 rp (d 16) := (MA26_fr w264441 grp ((wfr.rf (l := [(54, 3)])).put' e264450 grp rfl) rfl (MA26_fr w264430 grp ((wfr.rf (l := [(63, 999)])).put' e264440 g264437 rfl) rfl (MA26_fr w264419 grp ((wfr.rf (l := [(62, 999)])).put' e264429 g264426 rfl) rfl (MA26_fr w264408 grp ((wfr.rf (l := [(61, 999)])).put' e264418 g264415 rfl) rfl (MA26_fr w264397 grp ((wfr.rf (l := [(60, 999)])).put' e264407 g264404 rfl) rfl (MA26_fr w264386 grp ((wfr.rf (l := [(59, 999)])).put' e264396 g264393 rfl) rfl (MA26_fr w264375 grp ((wfr.rf (l := [(58, 999)])).put' e264385 g264382 rfl) rfl (MA26_fr w264364 grp ((wfr.rf (l := [(57, 999)])).put' e264374 g264371 rfl) rfl (MA26_fr w264353 grp ((wfr.rf (l := [(56, 999)])).put' e264363 g264360 rfl) rfl (MA26_fr w264311 grp ((wfr.rf (l := [(55, 999)])).put' e264352 g264349 rfl) rfl (MA26_fr hW grp f264312 rfl h264300)))))))))))
    exact wp_return e187 c187_328 rfl ⟨rfl, w264451, f264452, rfl, (Or.inl ⟨by omega, by omega, (fun a ha ga => ((wq_u_a e264450 ha 3).trans ((wq_u_t e264440 g264437 ga rfl 3).trans ((wq_u_t e264429 g264426 ga rfl 3).trans ((wq_u_t e264418 g264415 ga rfl 3).trans ((wq_u_t e264407 g264404 ga rfl 3).trans ((wq_u_t e264396 g264393 ga rfl 3).trans ((wq_u_t e264385 g264382 ga rfl 3).trans ((wq_u_t e264374 g264371 ga rfl 3).trans ((wq_u_t e264363 g264360 ga rfl 3).trans ((wq_u_t e264352 g264349 ga rfl 3).trans (f264312 a 3 _ ga rfl)))))))))))), h264463, DM_mk hDM_rp.1 ⟨by omega, by omega, by omega, by omega, by omega, by omega, by omega, by omega, by omega, by omega, by omega, by omega⟩ (xdP_per hDM_rp.2.2.1 (k := ((H264310 rp 3)).toNat) (by omega) ⟨by omega, by omega, by omega, by omega, by omega, by omega, by omega, by omega, by omega, by omega, by omega, by omega, by omega, by omega, by omega⟩) h264464 h264465 h264466 h264467 h264468 h264469 h264470 h264471 h264472 h264473 h264474 h264475 h264476 h264477 h264478 h264479 h264480 ⟨rfl, rfl, rfl, rfl, rfl, rfl, rfl, rfl, rfl, (by unfold xdper; rw [wq_u_row (by decide), wq_u_row (by decide), wq_u_row (by decide), wq_u_row (by decide), wq_u_row (by decide), wq_u_row (by decide), wq_u_row (by decide), wq_u_row (by decide), wq_u_row (by decide), wq_u_row (by decide)]), (by unfold xdper; rw [wq_u_row (by decide), wq_u_row (by decide), wq_u_row (by decide), wq_u_row (by decide), wq_u_row (by decide), wq_u_row (by decide), wq_u_row (by decide), wq_u_row (by decide), wq_u_row (by decide), wq_u_row (by decide)]), (by unfold xdper; rw [wq_u_row (by decide), wq_u_row (by decide), wq_u_row (by decide), wq_u_row (by decide), wq_u_row (by decide), wq_u_row (by decide), wq_u_row (by decide), wq_u_row (by decide), wq_u_row (by decide), wq_u_row (by decide)]), (by unfold xdper; rw [wq_u_row (by decide), wq_u_row (by decide), wq_u_row (by decide), wq_u_row (by decide), wq_u_row (by decide), wq_u_row (by decide), wq_u_row (by decide), wq_u_row (by decide), wq_u_row (by decide), wq_u_row (by decide)]), (by unfold xdper; rw [wq_u_row (by decide), wq_u_row (by decide), wq_u_row (by decide), wq_u_row (by decide), wq_u_row (by decide), wq_u_row (by decide), wq_u_row (by decide), wq_u_row (by decide), wq_u_row (by decide), wq_u_row (by decide)]), (by unfold xdper; rw [wq_u_row (by decide), wq_u_row (by decide), wq_u_row (by decide), wq_u_row (by decide), wq_u_row (by decide), wq_u_row (by decide), wq_u_row (by decide), wq_u_row (by decide), wq_u_row (by decide), wq_u_row (by decide)]), (by unfold xdper; rw [wq_u_row (by decide), wq_u_row (by decide), wq_u_row (by decide), wq_u_row (by decide), wq_u_row (by decide), wq_u_row (by decide), wq_u_row (by decide), wq_u_row (by decide), wq_u_row (by decide), wq_u_row (by decide)]), (by unfold xdper; rw [wq_u_row (by decide), wq_u_row (by decide), wq_u_row (by decide), wq_u_row (by decide), wq_u_row (by decide), wq_u_row (by decide), wq_u_row (by decide), wq_u_row (by decide), wq_u_row (by decide), wq_u_row (by decide)])⟩⟩)⟩
  have tl264492 : ∀ (v264481 : Int) (v264482 : Int) (v264483 : Int) (v264484 : Int) (v264485 : Int) (v264486 : Int) (v264487 : Int) (v264488 : Int) (H264489 : wq_H) (fo264493 : Int) (po264494 : Int), WT T H264489 → wfr [(42, 8), (42, 9), (42, 10), (42, 11), (42, 12), (42, 13), (42, 14), (42, 15)] T H H264489 → ((-9223372036854775808) ≤ v264481 ∧ v264481 ≤ 9223372036854775807) → (0 ≤ v264482 ∧ v264482 ≤ 23) → (0 ≤ v264483 ∧ v264483 ≤ 30) → (0 ≤ v264484 ∧ v264484 ≤ 12) → (0 ≤ v264485 ∧ v264485 ≤ 16) → ((-1) ≤ v264486 ∧ v264486 ≤ 23) → (0 ≤ v264487 ∧ v264487 ≤ 23) → (0 ≤ v264488 ∧ v264488 ≤ 24) → RO T H264489 r0 fo264493 po264494 → ((xl1 B n q d).1 = fo264493) → ((xl1 B n q d).2.1 = po264494) → wp kt 4 187 183 [(0, .ref r0), (1, vL v264481), (3, vI v264482), (4, vI v264483), (5, vI v264484), (6, vI v264485), (7, vI v264486), (9, vI v264487), (10, vI v264488)] [] T H264489 (uq_187_k r0 rp rb B n q d T H) := by
    intro v264481 v264482 v264483 v264484 v264485 v264486 v264487 v264488 H264489 fo264493 po264494 w264490 f264491 b264495 b264496 b264497 b264498 b264499 b264500 b264501 b264502 h264503 x264504 x264505
    have f264506 : wfr [(54, 3), (42, 8), (42, 9), (42, 10), (42, 11), (42, 12), (42, 13), (42, 14), (42, 15), (56, 999), (57, 999), (60, 999), (63, 999), (58, 999), (59, 999), (55, 999), (61, 999), (62, 999)] T H H264489 := wfr.rf.tr f264491 rfl
    have u264507 := RO_k h264503
    refine wp_of e187 c187_183 (rw_aload_n (pc' := 184) (v := .ref r0) rfl rfl rfl ?_)
    refine wp_of e187 c187_184 (rw_ldcS (pc' := 186) (k := 85) rfl rfl rfl rfl ?_)
    have k264508 : H264489 r0 5 = H r0 5 := (f264491 r0 5 _ g0 rfl)
    have q264509 : H264489 r0 5 = (rb : Int) := k264508.trans qrb
    refine wp_of e187 c187_186 (xc_V (pc' := 189) (r := r0) (as := [.ref 85]) (st := []) (lm_9_240) rfl rfl (Nat.le_of_ble_eq_true rfl) w264490 g0 sh_42 (by decide) rfl (by decide) (u_192_o (fo := fo264493) (po := po264494) (kk := 56377) w264490 g0 rfl q264509 grb (by decide +kernel) h264503) (fun R264510 T264511 H264512 p264513 => ?_))
    obtain ⟨e264514, e264516, z264517, e264515, b264518, p264519⟩ := p264513
    subst e264514
    subst e264515
    subst e264516
    obtain ⟨a264520, a264521⟩ := p264519
    show wp _ _ 187 189 [(0, .ref r0), (1, vL v264481), (3, vI v264482), (4, vI v264483), (5, vI v264484), (6, vI v264485), (7, vI v264486), (9, vI v264487), (10, vI v264488)] [vI z264517] _ H264489 _
    have u264522 := RO_k a264521
    refine wp_of e187 c187_189 (rw_istore (pc' := 191) (z := z264517) (L' := [(11, vI z264517), (0, .ref r0), (1, vL v264481), (3, vI v264482), (4, vI v264483), (5, vI v264484), (6, vI v264485), (7, vI v264486), (9, vI v264487), (10, vI v264488)]) rfl rfl rfl ?_)
    refine wp_of e187 c187_191 (rw_aload_n (pc' := 192) (v := .ref r0) rfl rfl rfl ?_)
    refine wp_of e187 c187_192 (xg_I (pc' := 195) lf_9_75 w264490 g0 sh_42 (by decide) (by decide) ty_42_9 rfl rfl (fun b264523 b264524 => ?_))
    refine wp_of e187 c187_195 (rw_iconst (pc' := 196) rfl ?_)
    refine wp_of e187 c187_196 (rw_icmp_ne (p1 := 200) (p2 := 199) (by decide) rfl ⟨by omega, by omega⟩ ⟨by omega, by omega⟩ (fun c264525 => ?_) (fun c264525 => ?_))
    · exfalso
      omega
    · exact wp_return e187 c187_199 rfl ⟨rfl, w264490, f264506, rfl, (Or.inr ⟨by omega, (fun a ha ga => (f264491 a 3 _ ga rfl)), RO_eq a264521 (by omega) (by omega)⟩)⟩
  have tl264535 : ∀ (v264526 : Int) (v264527 : Int) (v264528 : Int) (v264529 : Int) (v264530 : Int) (v264531 : Int) (H264532 : wq_H) (fo264536 : Int) (po264537 : Int), WT T H264532 → wfr [(42, 8), (42, 9), (42, 10), (42, 11), (42, 12), (42, 13), (42, 14), (42, 15)] T H H264532 → ((-9223372036854775808) ≤ v264526 ∧ v264526 ≤ 9223372036854775807) → (0 ≤ v264527 ∧ v264527 ≤ 23) → (0 ≤ v264528 ∧ v264528 ≤ 30) → (0 ≤ v264529 ∧ v264529 ≤ 12) → (0 ≤ v264530 ∧ v264530 ≤ 16) → ((-1) ≤ v264531 ∧ v264531 ≤ 23) → RO T H264532 r0 fo264536 po264537 → ((xl1 B n q d).1 = fo264536) → ((xl1 B n q d).2.1 = po264537) → wp kt 4 187 134 [(0, .ref r0), (1, vL v264526), (3, vI v264527), (4, vI v264528), (5, vI v264529), (6, vI v264530), (7, vI v264531)] [] T H264532 (uq_187_k r0 rp rb B n q d T H) := by
    intro v264526 v264527 v264528 v264529 v264530 v264531 H264532 fo264536 po264537 w264533 f264534 b264538 b264539 b264540 b264541 b264542 b264543 h264544 x264545 x264546
    have f264547 : wfr [(54, 3), (42, 8), (42, 9), (42, 10), (42, 11), (42, 12), (42, 13), (42, 14), (42, 15), (56, 999), (57, 999), (60, 999), (63, 999), (58, 999), (59, 999), (55, 999), (61, 999), (62, 999)] T H H264532 := wfr.rf.tr f264534 rfl
    have u264548 := RO_k h264544
    refine wp_of e187 c187_134 (rw_aload_n (pc' := 135) (v := .ref r0) rfl rfl rfl ?_)
    refine wp_of e187 c187_135 (rw_ldcS (pc' := 137) (k := 84) rfl rfl rfl rfl ?_)
    have k264549 : H264532 r0 5 = H r0 5 := (f264534 r0 5 _ g0 rfl)
    have q264550 : H264532 r0 5 = (rb : Int) := k264549.trans qrb
    refine wp_of e187 c187_137 (xc_V (pc' := 140) (r := r0) (as := [.ref 84]) (st := []) (lm_9_240) rfl rfl (Nat.le_of_ble_eq_true rfl) w264533 g0 sh_42 (by decide) rfl (by decide) (u_192_o (fo := fo264536) (po := po264537) (kk := 14384) w264533 g0 rfl q264550 grb (by decide +kernel) h264544) (fun R264551 T264552 H264553 p264554 => ?_))
    obtain ⟨e264555, e264557, z264558, e264556, b264559, p264560⟩ := p264554
    subst e264555
    subst e264556
    subst e264557
    obtain ⟨a264561, a264562⟩ := p264560
    show wp _ _ 187 140 [(0, .ref r0), (1, vL v264526), (3, vI v264527), (4, vI v264528), (5, vI v264529), (6, vI v264530), (7, vI v264531)] [vI z264558] _ H264532 _
    have u264563 := RO_k a264562
    refine wp_of e187 c187_140 (rw_istore (pc' := 142) (z := z264558) (L' := [(8, vI z264558), (0, .ref r0), (1, vL v264526), (3, vI v264527), (4, vI v264528), (5, vI v264529), (6, vI v264530), (7, vI v264531)]) rfl rfl rfl ?_)
    refine wp_of e187 c187_142 (rw_iload (pc' := 144) (z := z264558) rfl rfl ?_)
    refine wp_of e187 c187_144 (rw_if_eq (p1 := 157) (p2 := 147) (by decide) rfl ⟨by omega, by omega⟩ (fun c264564 => ?_) (fun c264564 => ?_))
    · refine wp_of e187 c187_157 (rw_iconst (pc' := 158) rfl ?_)
      refine wp_of e187 c187_158 (rw_istore (pc' := 160) (z := 0) (L' := [(9, vI 0), (8, vI z264558), (0, .ref r0), (1, vL v264526), (3, vI v264527), (4, vI v264528), (5, vI v264529), (6, vI v264530), (7, vI v264531)]) rfl rfl rfl ?_)
      refine wp_of e187 c187_160 (rw_iload (pc' := 162) (z := z264558) rfl rfl ?_)
      refine wp_of e187 c187_162 (rw_if_eq (p1 := 180) (p2 := 165) (by decide) rfl ⟨by omega, by omega⟩ (fun c264565 => ?_) (fun c264565 => ?_))
      · refine wp_of e187 c187_180 (rw_iconst (pc' := 181) rfl ?_)
        refine wp_of e187 c187_181 (rw_istore (pc' := 183) (z := 0) (L' := [(10, vI 0), (9, vI 0), (8, vI z264558), (0, .ref r0), (1, vL v264526), (3, vI v264527), (4, vI v264528), (5, vI v264529), (6, vI v264530), (7, vI v264531)]) rfl rfl rfl ?_)
        exact wp_lc (ks := [10, 9, 8, 0, 1, 3, 4, 5, 6, 7]) (wl_c rfl (wl_c rfl (wl_c rfl (wl_c rfl (wl_c rfl (wl_c rfl (wl_c rfl (wl_c rfl (wl_c rfl wl_n))))))))) rfl (by decide) (tl264492 v264526 v264527 v264528 v264529 v264530 v264531 0 0 H264532 fo264536 po264537 w264533 f264534 ⟨by omega, by omega⟩ ⟨by omega, by omega⟩ ⟨by omega, by omega⟩ ⟨by omega, by omega⟩ ⟨by omega, by omega⟩ ⟨by omega, by omega⟩ ⟨by omega, by omega⟩ ⟨by omega, by omega⟩ a264562 (by omega) (by omega))
      · exfalso
        omega
    · exfalso
      omega
  have tl264574 : ∀ (v264566 : Int) (v264567 : Int) (v264568 : Int) (v264569 : Int) (v264570 : Int) (H264571 : wq_H) (fo264575 : Int) (po264576 : Int), WT T H264571 → wfr [(42, 8), (42, 9), (42, 10), (42, 11), (42, 12), (42, 13), (42, 14), (42, 15)] T H H264571 → ((-9223372036854775808) ≤ v264566 ∧ v264566 ≤ 9223372036854775807) → (0 ≤ v264567 ∧ v264567 ≤ 23) → (0 ≤ v264568 ∧ v264568 ≤ 30) → (0 ≤ v264569 ∧ v264569 ≤ 12) → (0 ≤ v264570 ∧ v264570 ≤ 16) → RO T H264571 r0 fo264575 po264576 → ((xl1 B n q d).1 = fo264575) → ((xl1 B n q d).2.1 = po264576) → wp kt 4 187 112 [(0, .ref r0), (1, vL v264566), (3, vI v264567), (4, vI v264568), (5, vI v264569), (6, vI v264570)] [] T H264571 (uq_187_k r0 rp rb B n q d T H) := by
    intro v264566 v264567 v264568 v264569 v264570 H264571 fo264575 po264576 w264572 f264573 b264577 b264578 b264579 b264580 b264581 h264582 x264583 x264584
    have f264585 : wfr [(54, 3), (42, 8), (42, 9), (42, 10), (42, 11), (42, 12), (42, 13), (42, 14), (42, 15), (56, 999), (57, 999), (60, 999), (63, 999), (58, 999), (59, 999), (55, 999), (61, 999), (62, 999)] T H H264571 := wfr.rf.tr f264573 rfl
    have u264586 := RO_k h264582
    refine wp_of e187 c187_112 (rw_aload_n (pc' := 113) (v := .ref r0) rfl rfl rfl ?_)
    refine wp_of e187 c187_113 (rw_ldcS (pc' := 115) (k := 83) rfl rfl rfl rfl ?_)
    have k264587 : H264571 r0 5 = H r0 5 := (f264573 r0 5 _ g0 rfl)
    have q264588 : H264571 r0 5 = (rb : Int) := k264587.trans qrb
    refine wp_of e187 c187_115 (xc_V (pc' := 118) (r := r0) (as := [.ref 83]) (st := []) (lm_9_240) rfl rfl (Nat.le_of_ble_eq_true rfl) w264572 g0 sh_42 (by decide) rfl (by decide) (u_192_o (fo := fo264575) (po := po264576) (kk := 8423732) w264572 g0 rfl q264588 grb (by decide +kernel) h264582) (fun R264589 T264590 H264591 p264592 => ?_))
    obtain ⟨e264593, e264595, z264596, e264594, b264597, p264598⟩ := p264592
    subst e264593
    subst e264594
    subst e264595
    obtain ⟨a264599, a264600⟩ := p264598
    show wp _ _ 187 118 [(0, .ref r0), (1, vL v264566), (3, vI v264567), (4, vI v264568), (5, vI v264569), (6, vI v264570)] [vI z264596] _ H264571 _
    have u264601 := RO_k a264600
    refine wp_of e187 c187_118 (rw_if_eq (p1 := 131) (p2 := 121) (by decide) rfl ⟨by omega, by omega⟩ (fun c264602 => ?_) (fun c264602 => ?_))
    · refine wp_of e187 c187_131 (rw_iconst (pc' := 132) rfl ?_)
      refine wp_of e187 c187_132 (rw_istore (pc' := 134) (z := -1) (L' := [(7, vI (-1)), (0, .ref r0), (1, vL v264566), (3, vI v264567), (4, vI v264568), (5, vI v264569), (6, vI v264570)]) rfl rfl rfl ?_)
      exact wp_lc (ks := [7, 0, 1, 3, 4, 5, 6]) (wl_c rfl (wl_c rfl (wl_c rfl (wl_c rfl (wl_c rfl (wl_c rfl (wl_c rfl wl_n))))))) rfl (by decide) (tl264535 v264566 v264567 v264568 v264569 v264570 (-1) H264571 fo264575 po264576 w264572 f264573 ⟨by omega, by omega⟩ ⟨by omega, by omega⟩ ⟨by omega, by omega⟩ ⟨by omega, by omega⟩ ⟨by omega, by omega⟩ ⟨by omega, by omega⟩ a264600 (by omega) (by omega))
    · exfalso
      omega
  have tl264610 : ∀ (v264603 : Int) (v264604 : Int) (v264605 : Int) (v264606 : Int) (H264607 : wq_H) (fo264611 : Int) (po264612 : Int), WT T H264607 → wfr [(42, 8), (42, 9), (42, 10), (42, 11), (42, 12), (42, 13), (42, 14), (42, 15)] T H H264607 → ((-9223372036854775808) ≤ v264603 ∧ v264603 ≤ 9223372036854775807) → (0 ≤ v264604 ∧ v264604 ≤ 23) → (0 ≤ v264605 ∧ v264605 ≤ 30) → (0 ≤ v264606 ∧ v264606 ≤ 12) → RO T H264607 r0 fo264611 po264612 → ((xl1 B n q d).1 = fo264611) → ((xl1 B n q d).2.1 = po264612) → wp kt 4 187 93 [(0, .ref r0), (1, vL v264603), (3, vI v264604), (4, vI v264605), (5, vI v264606)] [] T H264607 (uq_187_k r0 rp rb B n q d T H) := by
    intro v264603 v264604 v264605 v264606 H264607 fo264611 po264612 w264608 f264609 b264613 b264614 b264615 b264616 h264617 x264618 x264619
    have f264620 : wfr [(54, 3), (42, 8), (42, 9), (42, 10), (42, 11), (42, 12), (42, 13), (42, 14), (42, 15), (56, 999), (57, 999), (60, 999), (63, 999), (58, 999), (59, 999), (55, 999), (61, 999), (62, 999)] T H H264607 := wfr.rf.tr f264609 rfl
    have u264621 := RO_k h264617
    refine wp_of e187 c187_93 (rw_aload_n (pc' := 94) (v := .ref r0) rfl rfl rfl ?_)
    refine wp_of e187 c187_94 (rw_ldcS (pc' := 96) (k := 87) rfl rfl rfl rfl ?_)
    refine wp_of e187 c187_96 (rw_iload (pc' := 98) (z := v264606) rfl rfl ?_)
    refine wp_of e187 c187_98 (rw_bipush (pc' := 100) (z := 12) rfl (by decide) ?_)
    refine wp_of e187 c187_100 (rw_iload (pc' := 102) (z := v264606) rfl rfl ?_)
    refine wp_of e187 c187_102 (rw_iconst (pc' := 103) rfl ?_)
    refine wp_of e187 c187_103 (rw_iadd (pc' := 104) rfl ?_)
    refine wp_of e187 c187_104 (xc_S (pc' := 107) (as := [vI 12, vI (v264606 + 4)]) (st := [vI v264606, .ref 87, .ref r0]) (lm_9_235) rfl rfl (Nat.le_of_ble_eq_true rfl) rfl (by decide) (u_191  w264608 ⟨by omega, by omega⟩ ⟨by omega, by omega⟩) (fun R264622 T264623 H264624 p264625 => ?_))
    obtain ⟨e264626, e264628, z264629, e264627, b264630, p264631⟩ := p264625
    subst e264626
    subst e264627
    subst e264628
    show wp _ _ 187 107 [(0, .ref r0), (1, vL v264603), (3, vI v264604), (4, vI v264605), (5, vI v264606)] [vI z264629, vI v264606, .ref 87, .ref r0] _ H264607 _
    have k264633 : H264607 r0 5 = H r0 5 := (f264609 r0 5 _ g0 rfl)
    have q264634 : H264607 r0 5 = (rb : Int) := k264633.trans qrb
    refine wp_of e187 c187_107 (xc_V (pc' := 110) (r := r0) (as := [.ref 87, vI v264606, vI z264629]) (st := []) (lm_9_216) rfl rfl (Nat.le_of_ble_eq_true rfl) w264608 g0 sh_42 (by decide) rfl (by decide) (u_182_o (fo := fo264611) (po := po264612) (kk := 655) w264608 g0 rfl ⟨by omega, by omega⟩ ⟨by omega, by omega⟩ q264634 grb (by decide +kernel) h264617) (fun R264635 T264636 H264637 p264638 => ?_))
    obtain ⟨e264639, e264641, z264642, e264640, b264643, p264644⟩ := p264638
    subst e264639
    subst e264640
    subst e264641
    obtain ⟨a264645, a264646⟩ := p264644
    show wp _ _ 187 110 [(0, .ref r0), (1, vL v264603), (3, vI v264604), (4, vI v264605), (5, vI v264606)] [vI z264642] _ H264607 _
    have u264647 := RO_k a264646
    refine wp_of e187 c187_110 (rw_istore (pc' := 112) (z := z264642) (L' := [(6, vI z264642), (0, .ref r0), (1, vL v264603), (3, vI v264604), (4, vI v264605), (5, vI v264606)]) rfl rfl rfl ?_)
    exact wp_lc (ks := [6, 0, 1, 3, 4, 5]) (wl_c rfl (wl_c rfl (wl_c rfl (wl_c rfl (wl_c rfl (wl_c rfl wl_n)))))) rfl (by decide) (tl264574 v264603 v264604 v264605 v264606 z264642 H264607 fo264611 po264612 w264608 f264609 ⟨by omega, by omega⟩ ⟨by omega, by omega⟩ ⟨by omega, by omega⟩ ⟨by omega, by omega⟩ ⟨by omega, by omega⟩ a264646 (by omega) (by omega))
  have tl264654 : ∀ (v264648 : Int) (v264649 : Int) (v264650 : Int) (H264651 : wq_H) (fo264655 : Int) (po264656 : Int), WT T H264651 → wfr [(42, 8), (42, 9), (42, 10), (42, 11), (42, 12), (42, 13), (42, 14), (42, 15)] T H H264651 → ((-9223372036854775808) ≤ v264648 ∧ v264648 ≤ 9223372036854775807) → (0 ≤ v264649 ∧ v264649 ≤ 23) → (0 ≤ v264650 ∧ v264650 ≤ 30) → RO T H264651 r0 fo264655 po264656 → ((xl1 B n q d).1 = fo264655) → ((xl1 B n q d).2.1 = po264656) → wp kt 4 187 82 [(0, .ref r0), (1, vL v264648), (3, vI v264649), (4, vI v264650)] [] T H264651 (uq_187_k r0 rp rb B n q d T H) := by
    intro v264648 v264649 v264650 H264651 fo264655 po264656 w264652 f264653 b264657 b264658 b264659 h264660 x264661 x264662
    have f264663 : wfr [(54, 3), (42, 8), (42, 9), (42, 10), (42, 11), (42, 12), (42, 13), (42, 14), (42, 15), (56, 999), (57, 999), (60, 999), (63, 999), (58, 999), (59, 999), (55, 999), (61, 999), (62, 999)] T H H264651 := wfr.rf.tr f264653 rfl
    have u264664 := RO_k h264660
    refine wp_of e187 c187_82 (rw_aload_n (pc' := 83) (v := .ref r0) rfl rfl rfl ?_)
    refine wp_of e187 c187_83 (rw_ldcS (pc' := 85) (k := 88) rfl rfl rfl rfl ?_)
    refine wp_of e187 c187_85 (rw_iconst (pc' := 86) rfl ?_)
    refine wp_of e187 c187_86 (rw_bipush (pc' := 88) (z := 12) rfl (by decide) ?_)
    have k264665 : H264651 r0 5 = H r0 5 := (f264653 r0 5 _ g0 rfl)
    have q264666 : H264651 r0 5 = (rb : Int) := k264665.trans qrb
    refine wp_of e187 c187_88 (xc_V (pc' := 91) (r := r0) (as := [.ref 88, vI 0, vI 12]) (st := []) (lm_9_216) rfl rfl (Nat.le_of_ble_eq_true rfl) w264652 g0 sh_42 (by decide) rfl (by decide) (u_182_o (fo := fo264655) (po := po264656) (kk := 409031) w264652 g0 rfl ⟨by omega, by omega⟩ ⟨by omega, by omega⟩ q264666 grb (by decide +kernel) h264660) (fun R264667 T264668 H264669 p264670 => ?_))
    obtain ⟨e264671, e264673, z264674, e264672, b264675, p264676⟩ := p264670
    subst e264671
    subst e264672
    subst e264673
    obtain ⟨a264677, a264678⟩ := p264676
    show wp _ _ 187 91 [(0, .ref r0), (1, vL v264648), (3, vI v264649), (4, vI v264650)] [vI z264674] _ H264651 _
    have u264679 := RO_k a264678
    refine wp_of e187 c187_91 (rw_istore (pc' := 93) (z := z264674) (L' := [(5, vI z264674), (0, .ref r0), (1, vL v264648), (3, vI v264649), (4, vI v264650)]) rfl rfl rfl ?_)
    exact wp_lc (ks := [5, 0, 1, 3, 4]) (wl_c rfl (wl_c rfl (wl_c rfl (wl_c rfl (wl_c rfl wl_n))))) rfl (by decide) (tl264610 v264648 v264649 v264650 z264674 H264651 fo264655 po264656 w264652 f264653 ⟨by omega, by omega⟩ ⟨by omega, by omega⟩ ⟨by omega, by omega⟩ ⟨by omega, by omega⟩ a264678 (by omega) (by omega))
  have tl264685 : ∀ (v264680 : Int) (v264681 : Int) (H264682 : wq_H) (fo264686 : Int) (po264687 : Int), WT T H264682 → wfr [(42, 8), (42, 9), (42, 10), (42, 11), (42, 12), (42, 13), (42, 14), (42, 15)] T H H264682 → ((-9223372036854775808) ≤ v264680 ∧ v264680 ≤ 9223372036854775807) → (0 ≤ v264681 ∧ v264681 ≤ 23) → RO T H264682 r0 fo264686 po264687 → ((xl1 B n q d).1 = fo264686) → ((xl1 B n q d).2.1 = po264687) → wp kt 4 187 64 [(0, .ref r0), (1, vL v264680), (3, vI v264681)] [] T H264682 (uq_187_k r0 rp rb B n q d T H) := by
    intro v264680 v264681 H264682 fo264686 po264687 w264683 f264684 b264688 b264689 h264690 x264691 x264692
    have f264693 : wfr [(54, 3), (42, 8), (42, 9), (42, 10), (42, 11), (42, 12), (42, 13), (42, 14), (42, 15), (56, 999), (57, 999), (60, 999), (63, 999), (58, 999), (59, 999), (55, 999), (61, 999), (62, 999)] T H H264682 := wfr.rf.tr f264684 rfl
    have u264694 := RO_k h264690
    refine wp_of e187 c187_64 (rw_aload_n (pc' := 65) (v := .ref r0) rfl rfl rfl ?_)
    refine wp_of e187 c187_65 (rw_ldcS (pc' := 67) (k := 87) rfl rfl rfl rfl ?_)
    refine wp_of e187 c187_67 (rw_iload_n (pc' := 68) (z := v264681) rfl rfl ?_)
    refine wp_of e187 c187_68 (rw_bipush (pc' := 70) (z := 23) rfl (by decide) ?_)
    refine wp_of e187 c187_70 (rw_iload_n (pc' := 71) (z := v264681) rfl rfl ?_)
    refine wp_of e187 c187_71 (rw_bipush (pc' := 73) (z := 7) rfl (by decide) ?_)
    refine wp_of e187 c187_73 (rw_iadd (pc' := 74) rfl ?_)
    refine wp_of e187 c187_74 (xc_S (pc' := 77) (as := [vI 23, vI (v264681 + 7)]) (st := [vI v264681, .ref 87, .ref r0]) (lm_9_235) rfl rfl (Nat.le_of_ble_eq_true rfl) rfl (by decide) (u_191  w264683 ⟨by omega, by omega⟩ ⟨by omega, by omega⟩) (fun R264695 T264696 H264697 p264698 => ?_))
    obtain ⟨e264699, e264701, z264702, e264700, b264703, p264704⟩ := p264698
    subst e264699
    subst e264700
    subst e264701
    show wp _ _ 187 77 [(0, .ref r0), (1, vL v264680), (3, vI v264681)] [vI z264702, vI v264681, .ref 87, .ref r0] _ H264682 _
    have k264706 : H264682 r0 5 = H r0 5 := (f264684 r0 5 _ g0 rfl)
    have q264707 : H264682 r0 5 = (rb : Int) := k264706.trans qrb
    refine wp_of e187 c187_77 (xc_V (pc' := 80) (r := r0) (as := [.ref 87, vI v264681, vI z264702]) (st := []) (lm_9_216) rfl rfl (Nat.le_of_ble_eq_true rfl) w264683 g0 sh_42 (by decide) rfl (by decide) (u_182_o (fo := fo264686) (po := po264687) (kk := 655) w264683 g0 rfl ⟨by omega, by omega⟩ ⟨by omega, by omega⟩ q264707 grb (by decide +kernel) h264690) (fun R264708 T264709 H264710 p264711 => ?_))
    obtain ⟨e264712, e264714, z264715, e264713, b264716, p264717⟩ := p264711
    subst e264712
    subst e264713
    subst e264714
    obtain ⟨a264718, a264719⟩ := p264717
    show wp _ _ 187 80 [(0, .ref r0), (1, vL v264680), (3, vI v264681)] [vI z264715] _ H264682 _
    have u264720 := RO_k a264719
    refine wp_of e187 c187_80 (rw_istore (pc' := 82) (z := z264715) (L' := [(4, vI z264715), (0, .ref r0), (1, vL v264680), (3, vI v264681)]) rfl rfl rfl ?_)
    exact wp_lc (ks := [4, 0, 1, 3]) (wl_c rfl (wl_c rfl (wl_c rfl (wl_c rfl wl_n)))) rfl (by decide) (tl264654 v264680 v264681 z264715 H264682 fo264686 po264687 w264683 f264684 ⟨by omega, by omega⟩ ⟨by omega, by omega⟩ ⟨by omega, by omega⟩ a264719 (by omega) (by omega))
  have tl264725 : ∀ (v264721 : Int) (H264722 : wq_H) (fo264726 : Int) (po264727 : Int), WT T H264722 → wfr [(42, 8), (42, 9), (42, 10), (42, 11), (42, 12), (42, 13), (42, 14), (42, 15)] T H H264722 → ((-9223372036854775808) ≤ v264721 ∧ v264721 ≤ 9223372036854775807) → RO T H264722 r0 fo264726 po264727 → ((xl1 B n q d).1 = fo264726) → ((xl1 B n q d).2.1 = po264727) → wp kt 4 187 54 [(0, .ref r0), (1, vL v264721)] [] T H264722 (uq_187_k r0 rp rb B n q d T H) := by
    intro v264721 H264722 fo264726 po264727 w264723 f264724 b264728 h264729 x264730 x264731
    have f264732 : wfr [(54, 3), (42, 8), (42, 9), (42, 10), (42, 11), (42, 12), (42, 13), (42, 14), (42, 15), (56, 999), (57, 999), (60, 999), (63, 999), (58, 999), (59, 999), (55, 999), (61, 999), (62, 999)] T H H264722 := wfr.rf.tr f264724 rfl
    have u264733 := RO_k h264729
    refine wp_of e187 c187_54 (rw_aload_n (pc' := 55) (v := .ref r0) rfl rfl rfl ?_)
    refine wp_of e187 c187_55 (rw_ldcS (pc' := 57) (k := 86) rfl rfl rfl rfl ?_)
    refine wp_of e187 c187_57 (rw_iconst (pc' := 58) rfl ?_)
    refine wp_of e187 c187_58 (rw_bipush (pc' := 60) (z := 23) rfl (by decide) ?_)
    have k264734 : H264722 r0 5 = H r0 5 := (f264724 r0 5 _ g0 rfl)
    have q264735 : H264722 r0 5 = (rb : Int) := k264734.trans qrb
    refine wp_of e187 c187_60 (xc_V (pc' := 63) (r := r0) (as := [.ref 86, vI 0, vI 23]) (st := []) (lm_9_216) rfl rfl (Nat.le_of_ble_eq_true rfl) w264723 g0 sh_42 (by decide) rfl (by decide) (u_182_o (fo := fo264726) (po := po264727) (kk := 2212) w264723 g0 rfl ⟨by omega, by omega⟩ ⟨by omega, by omega⟩ q264735 grb (by decide +kernel) h264729) (fun R264736 T264737 H264738 p264739 => ?_))
    obtain ⟨e264740, e264742, z264743, e264741, b264744, p264745⟩ := p264739
    subst e264740
    subst e264741
    subst e264742
    obtain ⟨a264746, a264747⟩ := p264745
    show wp _ _ 187 63 [(0, .ref r0), (1, vL v264721)] [vI z264743] _ H264722 _
    have u264748 := RO_k a264747
    refine wp_of e187 c187_63 (rw_istore_n (pc' := 64) (z := z264743) (L' := [(3, vI z264743), (0, .ref r0), (1, vL v264721)]) rfl rfl rfl ?_)
    exact wp_lc (ks := [3, 0, 1]) (wl_c rfl (wl_c rfl (wl_c rfl wl_n))) rfl (by decide) (tl264685 v264721 z264743 H264722 fo264726 po264727 w264723 f264724 ⟨by omega, by omega⟩ ⟨by omega, by omega⟩ a264747 (by omega) (by omega))
  have tl264752 : ∀  (H264749 : wq_H) (fo264753 : Int) (po264754 : Int), WT T H264749 → wfr [(42, 8), (42, 9), (42, 10), (42, 11), (42, 12), (42, 13), (42, 14), (42, 15)] T H H264749 → RO T H264749 r0 fo264753 po264754 → ((xl1 B n q d).1 = fo264753) → ((xl1 B n q d).2.1 = po264754) → wp kt 4 187 45 [(0, .ref r0)] [] T H264749 (uq_187_k r0 rp rb B n q d T H) := by
    intro H264749 fo264753 po264754 w264750 f264751 h264755 x264756 x264757
    have f264758 : wfr [(54, 3), (42, 8), (42, 9), (42, 10), (42, 11), (42, 12), (42, 13), (42, 14), (42, 15), (56, 999), (57, 999), (60, 999), (63, 999), (58, 999), (59, 999), (55, 999), (61, 999), (62, 999)] T H H264749 := wfr.rf.tr f264751 rfl
    have u264759 := RO_k h264755
    refine wp_of e187 c187_45 (rw_aload_n (pc' := 46) (v := .ref r0) rfl rfl rfl ?_)
    refine wp_of e187 c187_46 (xg_L (pc' := 49) lf_9_94 w264750 g0 sh_42 (by decide) (by decide) ty_42_15 rfl rfl (fun b264760 b264761 => ?_))
    refine wp_of e187 c187_49 (rw_lstore_n (pc' := 50) (z := H264749 r0 15) (L' := [(1, vL (H264749 r0 15)), (0, .ref r0)]) rfl rfl rfl ?_)
    refine wp_of e187 c187_50 (rw_aload_n (pc' := 51) (v := .ref r0) rfl rfl rfl ?_)
    refine wp_of e187 c187_51 (xc_V (pc' := 54) (r := r0) (as := []) (st := []) (lm_9_118) rfl rfl (Nat.le_of_ble_eq_true rfl) w264750 g0 sh_42 (by decide) rfl (by decide) (u_172_o (fo := fo264753) (po := po264754) w264750 g0 h264755) (fun R264762 T264763 H264764 p264765 => ?_))
    obtain ⟨e264766, e264768, e264767, p264769⟩ := p264765
    subst e264766
    subst e264767
    subst e264768
    show wp _ _ 187 54 [(1, vL (H264749 r0 15)), (0, .ref r0)] [] _ H264749 _
    have u264771 := RO_k p264769
    exact wp_lc (ks := [1, 0]) (wl_c rfl (wl_c rfl wl_n)) rfl (by decide) (tl264725 (H264749 r0 15) H264749 fo264753 po264754 w264750 f264751 ⟨by omega, by omega⟩ p264769 (by omega) (by omega))
  have tl264775 : ∀  (H264772 : wq_H) (fo264776 : Int) (po264777 : Int), WT T H264772 → wfr [(42, 8), (42, 9), (42, 10), (42, 11), (42, 12), (42, 13), (42, 14), (42, 15)] T H H264772 → RO T H264772 r0 fo264776 po264777 → ((xl1 B n q d).1 = fo264776) → ((xl1 B n q d).2.1 = po264777) → wp kt 4 187 25 [(0, .ref r0)] [] T H264772 (uq_187_k r0 rp rb B n q d T H) := by
    intro H264772 fo264776 po264777 w264773 f264774 h264778 x264779 x264780
    have f264781 : wfr [(54, 3), (42, 8), (42, 9), (42, 10), (42, 11), (42, 12), (42, 13), (42, 14), (42, 15), (56, 999), (57, 999), (60, 999), (63, 999), (58, 999), (59, 999), (55, 999), (61, 999), (62, 999)] T H H264772 := wfr.rf.tr f264774 rfl
    have u264782 := RO_k h264778
    refine wp_of e187 c187_25 (rw_aload_n (pc' := 26) (v := .ref r0) rfl rfl rfl ?_)
    have k264783 : H264772 r0 4 = H r0 4 := (f264774 r0 4 _ g0 rfl)
    have q264784 : H264772 r0 4 = (rp : Int) := k264783.trans qrp
    refine wp_of e187 c187_26 (xg_K (pc' := 29) lf_9_166 w264773 g0 sh_42 (by decide) (by decide) rfl q264784 rfl ?_)
    refine wp_of e187 c187_29 (rw_aload_n (pc' := 30) (v := .ref r0) rfl rfl rfl ?_)
    refine wp_of e187 c187_30 (xg_L (pc' := 33) lf_9_94 w264773 g0 sh_42 (by decide) (by decide) ty_42_15 rfl rfl (fun b264785 b264786 => ?_))
    refine wp_of e187 c187_33 (xc_V (pc' := 36) (r := rp) (as := [vL (H264772 r0 15)]) (st := []) (lm_9_170) rfl rfl (Nat.le_of_ble_eq_true rfl) w264773 grp sh_54 (by decide) rfl (by decide) (u_190_o  w264773 grp ⟨by omega, by omega⟩) (fun R264787 T264788 H264789 p264790 => ?_))
    obtain ⟨e264791, e264793, z264794, e264792, b264795, p264796⟩ := p264790
    subst e264791
    subst e264792
    subst e264793
    show wp _ _ 187 36 [(0, .ref r0)] [vI z264794] _ H264772 _
    refine wp_of e187 c187_36 (rw_iconst (pc' := 37) rfl ?_)
    refine wp_of e187 c187_37 (rw_icmp_eq (p1 := 45) (p2 := 40) (by decide) rfl ⟨by omega, by omega⟩ ⟨by omega, by omega⟩ (fun c264798 => ?_) (fun c264798 => ?_))
    · exact wp_lc (ks := [0]) (wl_c rfl wl_n) rfl (by decide) (tl264752 H264772 fo264776 po264777 w264773 f264774 h264778 (by omega) (by omega))
    · refine wp_of e187 c187_40 (rw_aload_n (pc' := 41) (v := .ref r0) rfl rfl rfl ?_)
      refine wp_of e187 c187_41 (rw_iconst (pc' := 42) rfl ?_)
      refine wp_of e187 c187_42 (xc_V (pc' := 45) (r := r0) (as := [vI 3]) (st := []) (lm_9_121) rfl rfl (Nat.le_of_ble_eq_true rfl) w264773 g0 sh_42 (by decide) rfl (by decide) (u_181_o (fo := fo264776) (po := po264777) w264773 g0 ⟨by omega, by omega⟩ h264778) (fun R264799 T264800 H264801 p264802 => ?_))
      obtain ⟨e264803, e264805, e264804, p264806⟩ := p264802
      subst e264803
      subst e264804
      subst e264805
      show wp _ _ 187 45 [(0, .ref r0)] [] _ H264772 _
      have u264808 := RO_k p264806
      exact wp_lc (ks := [0]) (wl_c rfl wl_n) rfl (by decide) (tl264752 H264772 fo264776 po264777 w264773 f264774 p264806 (by omega) (by omega))
  have f0s : wfr [(42, 8), (42, 9), (42, 10), (42, 11), (42, 12), (42, 13), (42, 14), (42, 15)] T H H := wfr.rf
  refine wp_of e187 c187_0 (rw_aload_n (pc' := 1) (v := .ref r0) rfl rfl rfl ?_)
  refine wp_of e187 c187_1 (rw_aload_n (pc' := 2) (v := .ref r0) rfl rfl rfl ?_)
  refine wp_of e187 c187_2 (xg_K (pc' := 5) lf_9_166 hW g0 sh_42 (by decide) (by decide) rfl qrp rfl ?_)
  refine wp_of e187 c187_5 (xg_I (pc' := 8) lf_9_188 hW grp sh_54 (by decide) (by decide) ty_54_3 rfl rfl (fun b264809 b264810 => ?_))
  refine wp_of e187 c187_8 (rw_bipush (pc' := 10) (z := 6) rfl (by decide) ?_)
  refine wp_of e187 c187_10 (xc_V (pc' := 13) (r := r0) (as := [vI (H rp 3), vI 6]) (st := []) (lm_9_228) rfl rfl (Nat.le_of_ble_eq_true rfl) hW g0 sh_42 (by decide) rfl (by decide) (u_188_k (B := B) (n := n) (q := q) hW g0 ⟨by omega, by omega⟩ ⟨by omega, by omega⟩ qrb grb (by omega) hRC_r0) (fun R264811 T264812 H264813 p264814 => ?_))
  obtain ⟨e264815, w264817, f264818, e264816, p264819⟩ := p264814
  subst e264815
  subst e264816
  rcases p264819 with ⟨a264820, a264821⟩ | ⟨a264822, a264823⟩
  · have f264824 := f0.tr f264818 rfl
    have f264825 := f0s.tr f264818 rfl
    show wp _ _ 187 13 [(0, .ref r0)] [] _ H264813 _
    have u264826 := RC_k a264821
    have _m := @xnm_b B n (xN B n q) d
    refine wp_of e187 c187_13 (rw_aload_n (pc' := 14) (v := .ref r0) rfl rfl rfl ?_)
    refine wp_of e187 c187_14 (xc_V (pc' := 17) (r := r0) (as := []) (st := []) (lm_9_162) rfl rfl (Nat.le_of_ble_eq_true rfl) w264817 g0 sh_42 (by decide) rfl (by decide) (u_189_k (B := B) (n := n) (q := ((xN B n q))) w264817 g0 a264821) (fun R264827 T264828 H264829 p264830 => ?_))
    obtain ⟨e264831, e264833, z264834, e264832, b264835, p264836⟩ := p264830
    subst e264831
    subst e264832
    subst e264833
    rcases p264836 with ⟨a264837, a264838, a264839, a264840⟩ | ⟨a264841, a264842⟩
    · show wp _ _ 187 17 [(0, .ref r0)] [vI z264834] _ H264813 _
      refine wp_of e187 c187_17 (rw_if_ne (p1 := 25) (p2 := 20) (by decide) rfl ⟨by omega, by omega⟩ (fun c264843 => ?_) (fun c264843 => ?_))
      · refine wp_of e187 c187_25 (rw_aload_n (pc' := 26) (v := .ref r0) rfl rfl rfl ?_)
        have k264844 : H264813 r0 4 = H r0 4 := (f264818 r0 4 _ g0 rfl)
        have q264845 : H264813 r0 4 = (rp : Int) := k264844.trans qrp
        refine wp_of e187 c187_26 (xg_K (pc' := 29) lf_9_166 w264817 g0 sh_42 (by decide) (by decide) rfl q264845 rfl ?_)
        refine wp_of e187 c187_29 (rw_aload_n (pc' := 30) (v := .ref r0) rfl rfl rfl ?_)
        refine wp_of e187 c187_30 (xg_L (pc' := 33) lf_9_94 w264817 g0 sh_42 (by decide) (by decide) ty_42_15 rfl rfl (fun b264846 b264847 => ?_))
        have h264848 : DM T H264813 rp r0 d := (DM_fr hW grp f264818 rfl hDM_rp)
        refine wp_of e187 c187_33 (xc_V (pc' := 36) (r := rp) (as := [vL (H264813 r0 15)]) (st := []) (lm_9_170) rfl rfl (Nat.le_of_ble_eq_true rfl) w264817 grp sh_54 (by decide) rfl (by decide) (u_190_k (mm := r0) (d := d) (y := (xY B n (xN B n q))) w264817 grp ⟨by omega, by omega⟩ (by omega) h264848) (fun R264849 T264850 H264851 p264852 => ?_))
        obtain ⟨e264853, e264855, z264856, e264854, b264857, p264858⟩ := p264852
        subst e264853
        subst e264854
        subst e264855
        obtain ⟨a264859, a264860⟩ := p264858
        show wp _ _ 187 36 [(0, .ref r0)] [vI z264856] _ H264813 _
        refine wp_of e187 c187_36 (rw_iconst (pc' := 37) rfl ?_)
        refine wp_of e187 c187_37 (rw_icmp_eq (p1 := 45) (p2 := 40) (by decide) rfl ⟨by omega, by omega⟩ ⟨by omega, by omega⟩ (fun c264861 => ?_) (fun c264861 => ?_))
        · refine wp_of e187 c187_45 (rw_aload_n (pc' := 46) (v := .ref r0) rfl rfl rfl ?_)
          refine wp_of e187 c187_46 (xg_L (pc' := 49) lf_9_94 w264817 g0 sh_42 (by decide) (by decide) ty_42_15 rfl rfl (fun b264862 b264863 => ?_))
          refine wp_of e187 c187_49 (rw_lstore_n (pc' := 50) (z := H264813 r0 15) (L' := [(1, vL (H264813 r0 15)), (0, .ref r0)]) rfl rfl rfl ?_)
          refine wp_of e187 c187_50 (rw_aload_n (pc' := 51) (v := .ref r0) rfl rfl rfl ?_)
          have k264864 : H264813 r0 5 = H r0 5 := (f264818 r0 5 _ g0 rfl)
          have q264865 : H264813 r0 5 = (rb : Int) := k264864.trans qrb
          have u264866 := RC_a a264821
          have h264867 : TM T H264813 rb B := RC_tm a264821 q264865
          refine wp_of e187 c187_51 (xc_V (pc' := 54) (r := r0) (as := []) (st := []) (lm_9_118) rfl rfl (Nat.le_of_ble_eq_true rfl) w264817 g0 sh_42 (by decide) rfl (by decide) (u_172_k (B := B) (n := n) (a := (xE B n ((xN B n q)))) (q := (xN B n ((xN B n q)))) w264817 g0 q264865 grb (by omega) (by omega) (by omega) (by omega) (by omega) (rfl) h264867) (fun R264868 T264869 H264870 p264871 => ?_))
          obtain ⟨e264872, w264874, f264875, e264873, p264876⟩ := p264871
          subst e264872
          subst e264873
          have f264878 := f264824.tr f264875 rfl
          have f264879 := f264825.tr f264875 rfl
          show wp _ _ 187 54 [(1, vL (H264813 r0 15)), (0, .ref r0)] [] _ H264870 _
          have u264880 := RC_k p264876
          refine wp_of e187 c187_54 (rw_aload_n (pc' := 55) (v := .ref r0) rfl rfl rfl ?_)
          refine wp_of e187 c187_55 (rw_ldcS (pc' := 57) (k := 86) rfl rfl rfl rfl ?_)
          refine wp_of e187 c187_57 (rw_iconst (pc' := 58) rfl ?_)
          refine wp_of e187 c187_58 (rw_bipush (pc' := 60) (z := 23) rfl (by decide) ?_)
          have k264881 : H264870 r0 5 = H264813 r0 5 := (f264875 r0 5 _ g0 rfl)
          have q264882 : H264870 r0 5 = (rb : Int) := k264881.trans q264865
          refine wp_of e187 c187_60 (xc_V (pc' := 63) (r := r0) (as := [.ref 86, vI 0, vI 23]) (st := []) (lm_9_216) rfl rfl (Nat.le_of_ble_eq_true rfl) w264874 g0 sh_42 (by decide) rfl (by decide) (u_182_k (B := B) (n := n) (q := ((xN B n ((xN B n q))))) (kk := 2212) (lo := 0) (hi := 23) w264874 g0 rfl ⟨by omega, by omega⟩ ⟨by omega, by omega⟩ q264882 grb (by decide +kernel) (by omega) (by omega) p264876) (fun R264883 T264884 H264885 p264886 => ?_))
          obtain ⟨e264887, w264889, f264890, z264891, e264888, b264892, p264893⟩ := p264886
          subst e264887
          subst e264888
          rcases p264893 with ⟨a264894, a264895, a264896, a264897, a264898, a264899⟩ | ⟨a264900, a264901, a264902⟩ | ⟨a264903, a264904, a264905, a264906⟩
          · have f264907 := f264878.tr f264890 rfl
            have f264908 := f264879.tr f264890 rfl
            show wp _ _ 187 63 [(1, vL (H264813 r0 15)), (0, .ref r0)] [vI z264891] _ H264885 _
            have u264909 := RC_k a264899
            refine wp_of e187 c187_63 (rw_istore_n (pc' := 64) (z := z264891) (L' := [(3, vI z264891), (1, vL (H264813 r0 15)), (0, .ref r0)]) rfl rfl rfl ?_)
            refine wp_of e187 c187_64 (rw_aload_n (pc' := 65) (v := .ref r0) rfl rfl rfl ?_)
            refine wp_of e187 c187_65 (rw_ldcS (pc' := 67) (k := 87) rfl rfl rfl rfl ?_)
            refine wp_of e187 c187_67 (rw_iload_n (pc' := 68) (z := z264891) rfl rfl ?_)
            refine wp_of e187 c187_68 (rw_bipush (pc' := 70) (z := 23) rfl (by decide) ?_)
            refine wp_of e187 c187_70 (rw_iload_n (pc' := 71) (z := z264891) rfl rfl ?_)
            refine wp_of e187 c187_71 (rw_bipush (pc' := 73) (z := 7) rfl (by decide) ?_)
            refine wp_of e187 c187_73 (rw_iadd (pc' := 74) rfl ?_)
            refine wp_of e187 c187_74 (xc_S (pc' := 77) (as := [vI 23, vI (z264891 + 7)]) (st := [vI z264891, .ref 87, .ref r0]) (lm_9_235) rfl rfl (Nat.le_of_ble_eq_true rfl) rfl (by decide) (u_191  w264889 ⟨by omega, by omega⟩ ⟨by omega, by omega⟩) (fun R264910 T264911 H264912 p264913 => ?_))
            obtain ⟨e264914, e264916, z264917, e264915, b264918, p264919⟩ := p264913
            subst e264914
            subst e264915
            subst e264916
            show wp _ _ 187 77 [(3, vI z264891), (1, vL (H264813 r0 15)), (0, .ref r0)] [vI z264917, vI z264891, .ref 87, .ref r0] _ H264885 _
            have k264921 : H264885 r0 5 = H264870 r0 5 := (f264890 r0 5 _ g0 rfl)
            have q264922 : H264885 r0 5 = (rb : Int) := k264921.trans q264882
            refine wp_of e187 c187_77 (xc_V (pc' := 80) (r := r0) (as := [.ref 87, vI z264891, vI z264917]) (st := []) (lm_9_216) rfl rfl (Nat.le_of_ble_eq_true rfl) w264889 g0 sh_42 (by decide) rfl (by decide) (u_182_k (B := B) (n := n) (q := ((xN B n (xN B n ((xN B n ((xN B n q)))))))) (kk := 655) (lo := (xV B n (xN B n (xN B n (xN B n q))) + 0)) (hi := (min (xV B n (xN B n (xN B n (xN B n q))) + 7) 23)) w264889 g0 rfl ⟨by omega, by omega⟩ ⟨by omega, by omega⟩ q264922 grb (by decide +kernel) (by omega) (by omega) a264899) (fun R264923 T264924 H264925 p264926 => ?_))
            obtain ⟨e264927, w264929, f264930, z264931, e264928, b264932, p264933⟩ := p264926
            subst e264927
            subst e264928
            rcases p264933 with ⟨a264934, a264935, a264936, a264937, a264938, a264939⟩ | ⟨a264940, a264941, a264942⟩ | ⟨a264943, a264944, a264945, a264946⟩
            · have f264947 := f264907.tr f264930 rfl
              have f264948 := f264908.tr f264930 rfl
              show wp _ _ 187 80 [(3, vI z264891), (1, vL (H264813 r0 15)), (0, .ref r0)] [vI z264931] _ H264925 _
              have u264949 := RC_k a264939
              refine wp_of e187 c187_80 (rw_istore (pc' := 82) (z := z264931) (L' := [(4, vI z264931), (3, vI z264891), (1, vL (H264813 r0 15)), (0, .ref r0)]) rfl rfl rfl ?_)
              refine wp_of e187 c187_82 (rw_aload_n (pc' := 83) (v := .ref r0) rfl rfl rfl ?_)
              refine wp_of e187 c187_83 (rw_ldcS (pc' := 85) (k := 88) rfl rfl rfl rfl ?_)
              refine wp_of e187 c187_85 (rw_iconst (pc' := 86) rfl ?_)
              refine wp_of e187 c187_86 (rw_bipush (pc' := 88) (z := 12) rfl (by decide) ?_)
              have k264950 : H264925 r0 5 = H264885 r0 5 := (f264930 r0 5 _ g0 rfl)
              have q264951 : H264925 r0 5 = (rb : Int) := k264950.trans q264922
              refine wp_of e187 c187_88 (xc_V (pc' := 91) (r := r0) (as := [.ref 88, vI 0, vI 12]) (st := []) (lm_9_216) rfl rfl (Nat.le_of_ble_eq_true rfl) w264929 g0 sh_42 (by decide) rfl (by decide) (u_182_k (B := B) (n := n) (q := ((xN B n (xN B n ((xN B n (xN B n ((xN B n ((xN B n q))))))))))) (kk := 409031) (lo := 0) (hi := 12) w264929 g0 rfl ⟨by omega, by omega⟩ ⟨by omega, by omega⟩ q264951 grb (by decide +kernel) (by omega) (by omega) a264939) (fun R264952 T264953 H264954 p264955 => ?_))
              obtain ⟨e264956, w264958, f264959, z264960, e264957, b264961, p264962⟩ := p264955
              subst e264956
              subst e264957
              rcases p264962 with ⟨a264963, a264964, a264965, a264966, a264967, a264968⟩ | ⟨a264969, a264970, a264971⟩ | ⟨a264972, a264973, a264974, a264975⟩
              · have f264976 := f264947.tr f264959 rfl
                have f264977 := f264948.tr f264959 rfl
                show wp _ _ 187 91 [(4, vI z264931), (3, vI z264891), (1, vL (H264813 r0 15)), (0, .ref r0)] [vI z264960] _ H264954 _
                have u264978 := RC_k a264968
                refine wp_of e187 c187_91 (rw_istore (pc' := 93) (z := z264960) (L' := [(5, vI z264960), (4, vI z264931), (3, vI z264891), (1, vL (H264813 r0 15)), (0, .ref r0)]) rfl rfl rfl ?_)
                refine wp_of e187 c187_93 (rw_aload_n (pc' := 94) (v := .ref r0) rfl rfl rfl ?_)
                refine wp_of e187 c187_94 (rw_ldcS (pc' := 96) (k := 87) rfl rfl rfl rfl ?_)
                refine wp_of e187 c187_96 (rw_iload (pc' := 98) (z := z264960) rfl rfl ?_)
                refine wp_of e187 c187_98 (rw_bipush (pc' := 100) (z := 12) rfl (by decide) ?_)
                refine wp_of e187 c187_100 (rw_iload (pc' := 102) (z := z264960) rfl rfl ?_)
                refine wp_of e187 c187_102 (rw_iconst (pc' := 103) rfl ?_)
                refine wp_of e187 c187_103 (rw_iadd (pc' := 104) rfl ?_)
                refine wp_of e187 c187_104 (xc_S (pc' := 107) (as := [vI 12, vI (z264960 + 4)]) (st := [vI z264960, .ref 87, .ref r0]) (lm_9_235) rfl rfl (Nat.le_of_ble_eq_true rfl) rfl (by decide) (u_191  w264958 ⟨by omega, by omega⟩ ⟨by omega, by omega⟩) (fun R264979 T264980 H264981 p264982 => ?_))
                obtain ⟨e264983, e264985, z264986, e264984, b264987, p264988⟩ := p264982
                subst e264983
                subst e264984
                subst e264985
                show wp _ _ 187 107 [(5, vI z264960), (4, vI z264931), (3, vI z264891), (1, vL (H264813 r0 15)), (0, .ref r0)] [vI z264986, vI z264960, .ref 87, .ref r0] _ H264954 _
                have k264990 : H264954 r0 5 = H264925 r0 5 := (f264959 r0 5 _ g0 rfl)
                have q264991 : H264954 r0 5 = (rb : Int) := k264990.trans q264951
                refine wp_of e187 c187_107 (xc_V (pc' := 110) (r := r0) (as := [.ref 87, vI z264960, vI z264986]) (st := []) (lm_9_216) rfl rfl (Nat.le_of_ble_eq_true rfl) w264958 g0 sh_42 (by decide) rfl (by decide) (u_182_k (B := B) (n := n) (q := ((xN B n (xN B n ((xN B n (xN B n ((xN B n (xN B n ((xN B n ((xN B n q)))))))))))))) (kk := 655) (lo := (xV B n (xN B n (xN B n (xN B n (xN B n (xN B n (xN B n (xN B n q))))))) + 0)) (hi := (min (xV B n (xN B n (xN B n (xN B n (xN B n (xN B n (xN B n (xN B n q))))))) + 4) 12)) w264958 g0 rfl ⟨by omega, by omega⟩ ⟨by omega, by omega⟩ q264991 grb (by decide +kernel) (by omega) (by omega) a264968) (fun R264992 T264993 H264994 p264995 => ?_))
                obtain ⟨e264996, w264998, f264999, z265000, e264997, b265001, p265002⟩ := p264995
                subst e264996
                subst e264997
                rcases p265002 with ⟨a265003, a265004, a265005, a265006, a265007, a265008⟩ | ⟨a265009, a265010, a265011⟩ | ⟨a265012, a265013, a265014, a265015⟩
                · have f265016 := f264976.tr f264999 rfl
                  have f265017 := f264977.tr f264999 rfl
                  show wp _ _ 187 110 [(5, vI z264960), (4, vI z264931), (3, vI z264891), (1, vL (H264813 r0 15)), (0, .ref r0)] [vI z265000] _ H264994 _
                  have u265018 := RC_k a265008
                  refine wp_of e187 c187_110 (rw_istore (pc' := 112) (z := z265000) (L' := [(6, vI z265000), (5, vI z264960), (4, vI z264931), (3, vI z264891), (1, vL (H264813 r0 15)), (0, .ref r0)]) rfl rfl rfl ?_)
                  refine wp_of e187 c187_112 (rw_aload_n (pc' := 113) (v := .ref r0) rfl rfl rfl ?_)
                  refine wp_of e187 c187_113 (rw_ldcS (pc' := 115) (k := 83) rfl rfl rfl rfl ?_)
                  have k265019 : H264994 r0 5 = H264954 r0 5 := (f264999 r0 5 _ g0 rfl)
                  have q265020 : H264994 r0 5 = (rb : Int) := k265019.trans q264991
                  refine wp_of e187 c187_115 (xc_V (pc' := 118) (r := r0) (as := [.ref 83]) (st := []) (lm_9_240) rfl rfl (Nat.le_of_ble_eq_true rfl) w264998 g0 sh_42 (by decide) rfl (by decide) (u_192_k (B := B) (n := n) (q := ((xN B n (xN B n ((xN B n (xN B n ((xN B n (xN B n ((xN B n (xN B n ((xN B n ((xN B n q))))))))))))))))) (kk := 8423732) w264998 g0 rfl q265020 grb (by decide +kernel) a265008) (fun R265021 T265022 H265023 p265024 => ?_))
                  obtain ⟨e265025, w265027, f265028, z265029, e265026, b265030, p265031⟩ := p265024
                  subst e265025
                  subst e265026
                  rcases p265031 with ⟨a265032, a265033, a265034⟩ | ⟨a265035, a265036, a265037⟩
                  · have f265038 := f265016.tr f265028 rfl
                    have f265039 := f265017.tr f265028 rfl
                    show wp _ _ 187 118 [(6, vI z265000), (5, vI z264960), (4, vI z264931), (3, vI z264891), (1, vL (H264813 r0 15)), (0, .ref r0)] [vI z265029] _ H265023 _
                    have u265040 := RC_k a265034
                    refine wp_of e187 c187_118 (rw_if_eq (p1 := 131) (p2 := 121) (by decide) rfl ⟨by omega, by omega⟩ (fun c265041 => ?_) (fun c265041 => ?_))
                    · exfalso
                      omega
                    · refine wp_of e187 c187_121 (rw_aload_n (pc' := 122) (v := .ref r0) rfl rfl rfl ?_)
                      refine wp_of e187 c187_122 (rw_iconst (pc' := 123) rfl ?_)
                      refine wp_of e187 c187_123 (rw_bipush (pc' := 125) (z := 23) rfl (by decide) ?_)
                      have k265042 : H265023 r0 5 = H264994 r0 5 := (f265028 r0 5 _ g0 rfl)
                      have q265043 : H265023 r0 5 = (rb : Int) := k265042.trans q265020
                      refine wp_of e187 c187_125 (xc_V (pc' := 128) (r := r0) (as := [vI 0, vI 23]) (st := []) (lm_9_137) rfl rfl (Nat.le_of_ble_eq_true rfl) w265027 g0 sh_42 (by decide) rfl (by decide) (u_184_k (B := B) (n := n) (q := ((xN B n ((xN B n (xN B n ((xN B n (xN B n ((xN B n (xN B n ((xN B n (xN B n ((xN B n ((xN B n q))))))))))))))))))) (lo := 0) (hi := 23) w265027 g0 ⟨by omega, by omega⟩ ⟨by omega, by omega⟩ q265043 grb (by omega) (by omega) a265034) (fun R265044 T265045 H265046 p265047 => ?_))
                      obtain ⟨e265048, w265050, f265051, z265052, e265049, b265053, p265054⟩ := p265047
                      subst e265048
                      subst e265049
                      rcases p265054 with ⟨a265055, a265056, a265057, a265058⟩ | ⟨a265059, a265060, a265061⟩
                      · have f265062 := f265038.tr f265051 rfl
                        have f265063 := f265039.tr f265051 rfl
                        show wp _ _ 187 128 [(6, vI z265000), (5, vI z264960), (4, vI z264931), (3, vI z264891), (1, vL (H264813 r0 15)), (0, .ref r0)] [vI z265052] _ H265046 _
                        have u265064 := RC_k a265058
                        refine wp_of e187 c187_128 (rw_goto (p1 := 132) (by decide) ?_)
                        refine wp_of e187 c187_132 (rw_istore (pc' := 134) (z := z265052) (L' := [(7, vI z265052), (6, vI z265000), (5, vI z264960), (4, vI z264931), (3, vI z264891), (1, vL (H264813 r0 15)), (0, .ref r0)]) rfl rfl rfl ?_)
                        have _ea : xqa B n ((xN B n (xN B n ((xN B n (xN B n ((xN B n (xN B n ((xN B n (xN B n ((xN B n ((xN B n q)))))))))))))))) = ((xN B n ((xN B n ((xN B n (xN B n ((xN B n (xN B n ((xN B n (xN B n ((xN B n (xN B n ((xN B n ((xN B n q)))))))))))))))))))) := by
                          unfold xqa
                          first | rw [if_pos (by omega)] | rw [if_neg (by omega)]
                        have _eh : xhb B n ((xN B n (xN B n ((xN B n (xN B n ((xN B n (xN B n ((xN B n (xN B n ((xN B n ((xN B n q)))))))))))))))) = z265052 := by
                          unfold xhb
                          first | (rw [if_pos (by omega)] <;> omega) | (rw [if_neg (by omega)] <;> omega)
                        refine wp_of e187 c187_134 (rw_aload_n (pc' := 135) (v := .ref r0) rfl rfl rfl ?_)
                        refine wp_of e187 c187_135 (rw_ldcS (pc' := 137) (k := 84) rfl rfl rfl rfl ?_)
                        have k265065 : H265046 r0 5 = H265023 r0 5 := (f265051 r0 5 _ g0 rfl)
                        have q265066 : H265046 r0 5 = (rb : Int) := k265065.trans q265043
                        refine wp_of e187 c187_137 (xc_V (pc' := 140) (r := r0) (as := [.ref 84]) (st := []) (lm_9_240) rfl rfl (Nat.le_of_ble_eq_true rfl) w265050 g0 sh_42 (by decide) rfl (by decide) (u_192_k (B := B) (n := n) (q := ((xN B n ((xN B n ((xN B n (xN B n ((xN B n (xN B n ((xN B n (xN B n ((xN B n (xN B n ((xN B n ((xN B n q))))))))))))))))))))) (kk := 14384) w265050 g0 rfl q265066 grb (by decide +kernel) a265058) (fun R265067 T265068 H265069 p265070 => ?_))
                        obtain ⟨e265071, w265073, f265074, z265075, e265072, b265076, p265077⟩ := p265070
                        subst e265071
                        subst e265072
                        rcases p265077 with ⟨a265078, a265079, a265080⟩ | ⟨a265081, a265082, a265083⟩
                        · have f265084 := f265062.tr f265074 rfl
                          have f265085 := f265063.tr f265074 rfl
                          show wp _ _ 187 140 [(7, vI z265052), (6, vI z265000), (5, vI z264960), (4, vI z264931), (3, vI z264891), (1, vL (H264813 r0 15)), (0, .ref r0)] [vI z265075] _ H265069 _
                          have u265086 := RC_k a265080
                          refine wp_of e187 c187_140 (rw_istore (pc' := 142) (z := z265075) (L' := [(8, vI z265075), (7, vI z265052), (6, vI z265000), (5, vI z264960), (4, vI z264931), (3, vI z264891), (1, vL (H264813 r0 15)), (0, .ref r0)]) rfl rfl rfl ?_)
                          refine wp_of e187 c187_142 (rw_iload (pc' := 144) (z := z265075) rfl rfl ?_)
                          refine wp_of e187 c187_144 (rw_if_eq (p1 := 157) (p2 := 147) (by decide) rfl ⟨by omega, by omega⟩ (fun c265087 => ?_) (fun c265087 => ?_))
                          · exfalso
                            omega
                          · refine wp_of e187 c187_147 (rw_aload_n (pc' := 148) (v := .ref r0) rfl rfl rfl ?_)
                            refine wp_of e187 c187_148 (rw_iconst (pc' := 149) rfl ?_)
                            refine wp_of e187 c187_149 (rw_bipush (pc' := 151) (z := 23) rfl (by decide) ?_)
                            have k265088 : H265069 r0 5 = H265046 r0 5 := (f265074 r0 5 _ g0 rfl)
                            have q265089 : H265069 r0 5 = (rb : Int) := k265088.trans q265066
                            refine wp_of e187 c187_151 (xc_V (pc' := 154) (r := r0) (as := [vI 0, vI 23]) (st := []) (lm_9_137) rfl rfl (Nat.le_of_ble_eq_true rfl) w265073 g0 sh_42 (by decide) rfl (by decide) (u_184_k (B := B) (n := n) (q := ((xN B n ((xN B n ((xN B n ((xN B n (xN B n ((xN B n (xN B n ((xN B n (xN B n ((xN B n (xN B n ((xN B n ((xN B n q))))))))))))))))))))))) (lo := 0) (hi := 23) w265073 g0 ⟨by omega, by omega⟩ ⟨by omega, by omega⟩ q265089 grb (by omega) (by omega) a265080) (fun R265090 T265091 H265092 p265093 => ?_))
                            obtain ⟨e265094, w265096, f265097, z265098, e265095, b265099, p265100⟩ := p265093
                            subst e265094
                            subst e265095
                            rcases p265100 with ⟨a265101, a265102, a265103, a265104⟩ | ⟨a265105, a265106, a265107⟩
                            · have f265108 := f265084.tr f265097 rfl
                              have f265109 := f265085.tr f265097 rfl
                              show wp _ _ 187 154 [(8, vI z265075), (7, vI z265052), (6, vI z265000), (5, vI z264960), (4, vI z264931), (3, vI z264891), (1, vL (H264813 r0 15)), (0, .ref r0)] [vI z265098] _ H265092 _
                              have u265110 := RC_k a265104
                              refine wp_of e187 c187_154 (rw_goto (p1 := 158) (by decide) ?_)
                              refine wp_of e187 c187_158 (rw_istore (pc' := 160) (z := z265098) (L' := [(9, vI z265098), (8, vI z265075), (7, vI z265052), (6, vI z265000), (5, vI z264960), (4, vI z264931), (3, vI z264891), (1, vL (H264813 r0 15)), (0, .ref r0)]) rfl rfl rfl ?_)
                              refine wp_of e187 c187_160 (rw_iload (pc' := 162) (z := z265075) rfl rfl ?_)
                              refine wp_of e187 c187_162 (rw_if_eq (p1 := 180) (p2 := 165) (by decide) rfl ⟨by omega, by omega⟩ (fun c265111 => ?_) (fun c265111 => ?_))
                              · exfalso
                                omega
                              · refine wp_of e187 c187_165 (rw_aload_n (pc' := 166) (v := .ref r0) rfl rfl rfl ?_)
                                refine wp_of e187 c187_166 (rw_ldcS (pc' := 168) (k := 87) rfl rfl rfl rfl ?_)
                                refine wp_of e187 c187_168 (rw_iload (pc' := 170) (z := z265098) rfl rfl ?_)
                                refine wp_of e187 c187_170 (rw_iconst (pc' := 171) rfl ?_)
                                refine wp_of e187 c187_171 (rw_iadd (pc' := 172) rfl ?_)
                                refine wp_of e187 c187_172 (rw_bipush (pc' := 174) (z := 24) rfl (by decide) ?_)
                                have k265112 : H265092 r0 5 = H265069 r0 5 := (f265097 r0 5 _ g0 rfl)
                                have q265113 : H265092 r0 5 = (rb : Int) := k265112.trans q265089
                                refine wp_of e187 c187_174 (xc_V (pc' := 177) (r := r0) (as := [.ref 87, vI (z265098 + 1), vI 24]) (st := []) (lm_9_216) rfl rfl (Nat.le_of_ble_eq_true rfl) w265096 g0 sh_42 (by decide) rfl (by decide) (u_182_k (B := B) (n := n) (q := ((xN B n ((xN B n ((xN B n ((xN B n ((xN B n (xN B n ((xN B n (xN B n ((xN B n (xN B n ((xN B n (xN B n ((xN B n ((xN B n q))))))))))))))))))))))))) (kk := 655) (lo := (xV B n (xN B n ((xN B n ((xN B n ((xN B n (xN B n ((xN B n (xN B n ((xN B n (xN B n ((xN B n (xN B n ((xN B n ((xN B n q))))))))))))))))))))) + 1)) (hi := (min (xV B n (xN B n ((xN B n ((xN B n ((xN B n (xN B n ((xN B n (xN B n ((xN B n (xN B n ((xN B n (xN B n ((xN B n ((xN B n q))))))))))))))))))))) + 24) 24)) w265096 g0 rfl ⟨by omega, by omega⟩ ⟨by omega, by omega⟩ q265113 grb (by decide +kernel) (by omega) (by omega) a265104) (fun R265114 T265115 H265116 p265117 => ?_))
                                obtain ⟨e265118, w265120, f265121, z265122, e265119, b265123, p265124⟩ := p265117
                                subst e265118
                                subst e265119
                                rcases p265124 with ⟨a265125, a265126, a265127, a265128, a265129, a265130⟩ | ⟨a265131, a265132, a265133⟩ | ⟨a265134, a265135, a265136, a265137⟩
                                · have f265138 := f265108.tr f265121 rfl
                                  have f265139 := f265109.tr f265121 rfl
                                  show wp _ _ 187 177 [(9, vI z265098), (8, vI z265075), (7, vI z265052), (6, vI z265000), (5, vI z264960), (4, vI z264931), (3, vI z264891), (1, vL (H264813 r0 15)), (0, .ref r0)] [vI z265122] _ H265116 _
                                  have u265140 := RC_k a265130
                                  refine wp_of e187 c187_177 (rw_goto (p1 := 181) (by decide) ?_)
                                  refine wp_of e187 c187_181 (rw_istore (pc' := 183) (z := z265122) (L' := [(10, vI z265122), (9, vI z265098), (8, vI z265075), (7, vI z265052), (6, vI z265000), (5, vI z264960), (4, vI z264931), (3, vI z264891), (1, vL (H264813 r0 15)), (0, .ref r0)]) rfl rfl rfl ?_)
                                  have _eb : xqb B n ((xN B n ((xN B n ((xN B n (xN B n ((xN B n (xN B n ((xN B n (xN B n ((xN B n (xN B n ((xN B n ((xN B n q)))))))))))))))))))) = ((xN B n (xN B n ((xN B n ((xN B n ((xN B n ((xN B n ((xN B n (xN B n ((xN B n (xN B n ((xN B n (xN B n ((xN B n (xN B n ((xN B n ((xN B n q))))))))))))))))))))))))))) := by
                                    unfold xqb
                                    first | rw [if_pos (by omega)] | rw [if_neg (by omega)]
                                  have _enf : xnf B n ((xN B n ((xN B n ((xN B n (xN B n ((xN B n (xN B n ((xN B n (xN B n ((xN B n (xN B n ((xN B n ((xN B n q)))))))))))))))))))) = z265098 := by
                                    unfold xnf
                                    first | (rw [if_pos (by omega)] <;> omega) | (rw [if_neg (by omega)] <;> omega)
                                  have _ent : xnt B n ((xN B n ((xN B n ((xN B n (xN B n ((xN B n (xN B n ((xN B n (xN B n ((xN B n (xN B n ((xN B n ((xN B n q)))))))))))))))))))) = z265122 := by
                                    unfold xnt
                                    first | (rw [if_pos (by omega)] <;> omega) | (rw [if_neg (by omega)] <;> omega)
                                  refine wp_of e187 c187_183 (rw_aload_n (pc' := 184) (v := .ref r0) rfl rfl rfl ?_)
                                  refine wp_of e187 c187_184 (rw_ldcS (pc' := 186) (k := 85) rfl rfl rfl rfl ?_)
                                  have k265141 : H265116 r0 5 = H265092 r0 5 := (f265121 r0 5 _ g0 rfl)
                                  have q265142 : H265116 r0 5 = (rb : Int) := k265141.trans q265113
                                  refine wp_of e187 c187_186 (xc_V (pc' := 189) (r := r0) (as := [.ref 85]) (st := []) (lm_9_240) rfl rfl (Nat.le_of_ble_eq_true rfl) w265120 g0 sh_42 (by decide) rfl (by decide) (u_192_k (B := B) (n := n) (q := ((xN B n (xN B n ((xN B n ((xN B n ((xN B n ((xN B n ((xN B n (xN B n ((xN B n (xN B n ((xN B n (xN B n ((xN B n (xN B n ((xN B n ((xN B n q)))))))))))))))))))))))))))) (kk := 56377) w265120 g0 rfl q265142 grb (by decide +kernel) a265130) (fun R265143 T265144 H265145 p265146 => ?_))
                                  obtain ⟨e265147, w265149, f265150, z265151, e265148, b265152, p265153⟩ := p265146
                                  subst e265147
                                  subst e265148
                                  rcases p265153 with ⟨a265154, a265155, a265156⟩ | ⟨a265157, a265158, a265159⟩
                                  · have f265160 := f265138.tr f265150 rfl
                                    have f265161 := f265139.tr f265150 rfl
                                    show wp _ _ 187 189 [(10, vI z265122), (9, vI z265098), (8, vI z265075), (7, vI z265052), (6, vI z265000), (5, vI z264960), (4, vI z264931), (3, vI z264891), (1, vL (H264813 r0 15)), (0, .ref r0)] [vI z265151] _ H265145 _
                                    have u265162 := RC_k a265156
                                    refine wp_of e187 c187_189 (rw_istore (pc' := 191) (z := z265151) (L' := [(11, vI z265151), (10, vI z265122), (9, vI z265098), (8, vI z265075), (7, vI z265052), (6, vI z265000), (5, vI z264960), (4, vI z264931), (3, vI z264891), (1, vL (H264813 r0 15)), (0, .ref r0)]) rfl rfl rfl ?_)
                                    have _ec : xqc B n ((xN B n (xN B n ((xN B n ((xN B n ((xN B n ((xN B n ((xN B n (xN B n ((xN B n (xN B n ((xN B n (xN B n ((xN B n (xN B n ((xN B n ((xN B n q))))))))))))))))))))))))))) = ((xN B n ((xN B n (xN B n ((xN B n ((xN B n ((xN B n ((xN B n ((xN B n (xN B n ((xN B n (xN B n ((xN B n (xN B n ((xN B n (xN B n ((xN B n ((xN B n q))))))))))))))))))))))))))))) := by
                                      unfold xqc
                                      first | rw [if_pos (by omega)] | rw [if_neg (by omega)]
                                    have _ew : xaw B n ((xN B n (xN B n ((xN B n ((xN B n ((xN B n ((xN B n ((xN B n (xN B n ((xN B n (xN B n ((xN B n (xN B n ((xN B n (xN B n ((xN B n ((xN B n q))))))))))))))))))))))))))) = z265151 := by
                                      unfold xaw
                                      first | (rw [if_pos (by omega)] <;> omega) | (rw [if_neg (by omega)] <;> omega)
                                    refine wp_of e187 c187_191 (rw_aload_n (pc' := 192) (v := .ref r0) rfl rfl rfl ?_)
                                    refine wp_of e187 c187_192 (xg_I (pc' := 195) lf_9_75 w265149 g0 sh_42 (by decide) (by decide) ty_42_9 rfl rfl (fun b265163 b265164 => ?_))
                                    refine wp_of e187 c187_195 (rw_iconst (pc' := 196) rfl ?_)
                                    refine wp_of e187 c187_196 (rw_icmp_ne (p1 := 200) (p2 := 199) (by decide) rfl ⟨by omega, by omega⟩ ⟨by omega, by omega⟩ (fun c265165 => ?_) (fun c265165 => ?_))
                                    · have o265166 : (xl1 B n q d) = (0, (xN B n (xN B n (xN B n (xN B n (xN B n (xN B n (xN B n (xN B n (xN B n (xN B n q)))))))))), (xN B n ((xN B n (xN B n ((xN B n ((xN B n ((xN B n ((xN B n ((xN B n (xN B n ((xN B n (xN B n ((xN B n (xN B n ((xN B n (xN B n ((xN B n ((xN B n q))))))))))))))))))))))))))))) := by
                                        unfold xl1 xper xbd xcs xca xcb xrg
                                        try simp only [xs_xs, xs_z]
                                        try rw [_ea]
                                        try rw [_eb]
                                        try rw [_ec]
                                        repeat first | rw [xs_0 (by omega)] | rw [xs_1 (by omega)] | rw [if_pos (by omega)] | rw [if_neg (by omega)]
                                        first | done | rfl | assumption | (exfalso; omega) | (refine Prod.ext ?_ (Prod.ext ?_ ?_) <;> (try dsimp only) <;> omega)
                                      have o265166a : ((xl1 B n q d)).1 = 0 := by rw [o265166]
                                      have o265166b : ((xl1 B n q d)).2.1 = (xN B n (xN B n (xN B n (xN B n (xN B n (xN B n (xN B n (xN B n (xN B n (xN B n q)))))))))) := by rw [o265166]
                                      have o265166c : ((xl1 B n q d)).2.2 = (xN B n ((xN B n (xN B n ((xN B n ((xN B n ((xN B n ((xN B n ((xN B n (xN B n ((xN B n (xN B n ((xN B n (xN B n ((xN B n (xN B n ((xN B n ((xN B n q)))))))))))))))))))))))))))) := by rw [o265166]
                                      have h265167 : DM T H265145 rp r0 d := (DM_fr w265120 grp f265150 rfl (DM_fr w265096 grp f265121 rfl (DM_fr w265073 grp f265097 rfl (DM_fr w265050 grp f265074 rfl (DM_fr w265027 grp f265051 rfl (DM_fr w264998 grp f265028 rfl (DM_fr w264958 grp f264999 rfl (DM_fr w264929 grp f264959 rfl (DM_fr w264889 grp f264930 rfl (DM_fr w264874 grp f264890 rfl (DM_fr w264817 grp f264875 rfl h264848)))))))))))
                                      exact wp_lc (ks := [11, 10, 9, 8, 7, 6, 5, 4, 3, 1, 0]) (wl_c rfl (wl_c rfl (wl_c rfl (wl_c rfl (wl_c rfl (wl_c rfl (wl_c rfl (wl_c rfl (wl_c rfl (wl_c rfl wl_n)))))))))) rfl (by decide) (tl264313 (H264813 r0 15) z264891 z264931 z264960 z265000 z265052 z265098 z265122 z265151 H265145 w265149 f265161 ⟨by omega, by omega⟩ ⟨by omega, by omega⟩ ⟨by omega, by omega⟩ ⟨by omega, by omega⟩ ⟨by omega, by omega⟩ ⟨by omega, by omega⟩ ⟨by omega, by omega⟩ ⟨by omega, by omega⟩ ⟨by omega, by omega⟩ (by rw [show (xl1 B n q d).2.2 = ((xN B n ((xN B n (xN B n ((xN B n ((xN B n ((xN B n ((xN B n ((xN B n (xN B n ((xN B n (xN B n ((xN B n (xN B n ((xN B n (xN B n ((xN B n ((xN B n q))))))))))))))))))))))))))))) by omega]; exact a265156) h265167 (by omega) (by omega) (by omega) (by omega) (by omega) (by omega) (by omega) (by omega) (by omega) (by omega) (by omega) (by rw [_ea]; exact _enf) (by rw [_ea]; exact _ent) (by rw [_ea, _eb]; exact _ew) (by omega))
                                    · exfalso
                                      omega
                                  · have f265168 := f265138.tr f265150 rfl
                                    have f265169 := f265139.tr f265150 rfl
                                    show wp _ _ 187 189 [(10, vI z265122), (9, vI z265098), (8, vI z265075), (7, vI z265052), (6, vI z265000), (5, vI z264960), (4, vI z264931), (3, vI z264891), (1, vL (H264813 r0 15)), (0, .ref r0)] [vI z265151] _ H265145 _
                                    have u265170 := RC_k a265159
                                    refine wp_of e187 c187_189 (rw_istore (pc' := 191) (z := z265151) (L' := [(11, vI z265151), (10, vI z265122), (9, vI z265098), (8, vI z265075), (7, vI z265052), (6, vI z265000), (5, vI z264960), (4, vI z264931), (3, vI z264891), (1, vL (H264813 r0 15)), (0, .ref r0)]) rfl rfl rfl ?_)
                                    have _ec : xqc B n ((xN B n (xN B n ((xN B n ((xN B n ((xN B n ((xN B n ((xN B n (xN B n ((xN B n (xN B n ((xN B n (xN B n ((xN B n (xN B n ((xN B n ((xN B n q))))))))))))))))))))))))))) = ((xN B n (xN B n ((xN B n ((xN B n ((xN B n ((xN B n ((xN B n (xN B n ((xN B n (xN B n ((xN B n (xN B n ((xN B n (xN B n ((xN B n ((xN B n q))))))))))))))))))))))))))) := by
                                      unfold xqc
                                      first | rw [if_pos (by omega)] | rw [if_neg (by omega)]
                                    have _ew : xaw B n ((xN B n (xN B n ((xN B n ((xN B n ((xN B n ((xN B n ((xN B n (xN B n ((xN B n (xN B n ((xN B n (xN B n ((xN B n (xN B n ((xN B n ((xN B n q))))))))))))))))))))))))))) = z265151 := by
                                      unfold xaw
                                      first | (rw [if_pos (by omega)] <;> omega) | (rw [if_neg (by omega)] <;> omega)
                                    refine wp_of e187 c187_191 (rw_aload_n (pc' := 192) (v := .ref r0) rfl rfl rfl ?_)
                                    refine wp_of e187 c187_192 (xg_I (pc' := 195) lf_9_75 w265149 g0 sh_42 (by decide) (by decide) ty_42_9 rfl rfl (fun b265171 b265172 => ?_))
                                    refine wp_of e187 c187_195 (rw_iconst (pc' := 196) rfl ?_)
                                    refine wp_of e187 c187_196 (rw_icmp_ne (p1 := 200) (p2 := 199) (by decide) rfl ⟨by omega, by omega⟩ ⟨by omega, by omega⟩ (fun c265173 => ?_) (fun c265173 => ?_))
                                    · have o265174 : (xl1 B n q d) = (0, (xN B n (xN B n (xN B n (xN B n (xN B n (xN B n (xN B n (xN B n (xN B n (xN B n q)))))))))), (xN B n (xN B n ((xN B n ((xN B n ((xN B n ((xN B n ((xN B n (xN B n ((xN B n (xN B n ((xN B n (xN B n ((xN B n (xN B n ((xN B n ((xN B n q))))))))))))))))))))))))))) := by
                                        unfold xl1 xper xbd xcs xca xcb xrg
                                        try simp only [xs_xs, xs_z]
                                        try rw [_ea]
                                        try rw [_eb]
                                        try rw [_ec]
                                        repeat first | rw [xs_0 (by omega)] | rw [xs_1 (by omega)] | rw [if_pos (by omega)] | rw [if_neg (by omega)]
                                        first | done | rfl | assumption | (exfalso; omega) | (refine Prod.ext ?_ (Prod.ext ?_ ?_) <;> (try dsimp only) <;> omega)
                                      have o265174a : ((xl1 B n q d)).1 = 0 := by rw [o265174]
                                      have o265174b : ((xl1 B n q d)).2.1 = (xN B n (xN B n (xN B n (xN B n (xN B n (xN B n (xN B n (xN B n (xN B n (xN B n q)))))))))) := by rw [o265174]
                                      have o265174c : ((xl1 B n q d)).2.2 = (xN B n (xN B n ((xN B n ((xN B n ((xN B n ((xN B n ((xN B n (xN B n ((xN B n (xN B n ((xN B n (xN B n ((xN B n (xN B n ((xN B n ((xN B n q)))))))))))))))))))))))))) := by rw [o265174]
                                      have h265175 : DM T H265145 rp r0 d := (DM_fr w265120 grp f265150 rfl (DM_fr w265096 grp f265121 rfl (DM_fr w265073 grp f265097 rfl (DM_fr w265050 grp f265074 rfl (DM_fr w265027 grp f265051 rfl (DM_fr w264998 grp f265028 rfl (DM_fr w264958 grp f264999 rfl (DM_fr w264929 grp f264959 rfl (DM_fr w264889 grp f264930 rfl (DM_fr w264874 grp f264890 rfl (DM_fr w264817 grp f264875 rfl h264848)))))))))))
                                      exact wp_lc (ks := [11, 10, 9, 8, 7, 6, 5, 4, 3, 1, 0]) (wl_c rfl (wl_c rfl (wl_c rfl (wl_c rfl (wl_c rfl (wl_c rfl (wl_c rfl (wl_c rfl (wl_c rfl (wl_c rfl wl_n)))))))))) rfl (by decide) (tl264313 (H264813 r0 15) z264891 z264931 z264960 z265000 z265052 z265098 z265122 z265151 H265145 w265149 f265169 ⟨by omega, by omega⟩ ⟨by omega, by omega⟩ ⟨by omega, by omega⟩ ⟨by omega, by omega⟩ ⟨by omega, by omega⟩ ⟨by omega, by omega⟩ ⟨by omega, by omega⟩ ⟨by omega, by omega⟩ ⟨by omega, by omega⟩ (by rw [show (xl1 B n q d).2.2 = ((xN B n (xN B n ((xN B n ((xN B n ((xN B n ((xN B n ((xN B n (xN B n ((xN B n (xN B n ((xN B n (xN B n ((xN B n (xN B n ((xN B n ((xN B n q))))))))))))))))))))))))))) by omega]; exact a265159) h265175 (by omega) (by omega) (by omega) (by omega) (by omega) (by omega) (by omega) (by omega) (by omega) (by omega) (by omega) (by rw [_ea]; exact _enf) (by rw [_ea]; exact _ent) (by rw [_ea, _eb]; exact _ew) (by omega))
                                    · exfalso
                                      omega
                                · have f265176 := f265108.tr f265121 rfl
                                  have f265177 := f265109.tr f265121 rfl
                                  show wp _ _ 187 177 [(9, vI z265098), (8, vI z265075), (7, vI z265052), (6, vI z265000), (5, vI z264960), (4, vI z264931), (3, vI z264891), (1, vL (H264813 r0 15)), (0, .ref r0)] [vI z265122] _ H265116 _
                                  have u265178 := RO_k a265133
                                  refine wp_of e187 c187_177 (rw_goto (p1 := 181) (by decide) ?_)
                                  refine wp_of e187 c187_181 (rw_istore (pc' := 183) (z := z265122) (L' := [(10, vI z265122), (9, vI z265098), (8, vI z265075), (7, vI z265052), (6, vI z265000), (5, vI z264960), (4, vI z264931), (3, vI z264891), (1, vL (H264813 r0 15)), (0, .ref r0)]) rfl rfl rfl ?_)
                                  have o265179 : (xl1 B n q d) = (xw B n ((xN B n ((xN B n ((xN B n ((xN B n ((xN B n (xN B n ((xN B n (xN B n ((xN B n (xN B n ((xN B n (xN B n ((xN B n ((xN B n q)))))))))))))))))))))))) 655, ((xN B n ((xN B n ((xN B n ((xN B n ((xN B n (xN B n ((xN B n (xN B n ((xN B n (xN B n ((xN B n (xN B n ((xN B n ((xN B n q)))))))))))))))))))))))), ((xN B n ((xN B n ((xN B n ((xN B n ((xN B n (xN B n ((xN B n (xN B n ((xN B n (xN B n ((xN B n (xN B n ((xN B n ((xN B n q))))))))))))))))))))))))) := by
                                    unfold xl1 xper xbd xcs xca xcb xrg
                                    try simp only [xs_xs, xs_z]
                                    try rw [_ea]
                                    try rw [_eb]
                                    try rw [_ec]
                                    repeat first | rw [xs_0 (by omega)] | rw [xs_1 (by omega)] | rw [if_pos (by omega)] | rw [if_neg (by omega)]
                                    first | done | rfl | assumption | (exfalso; omega) | (refine Prod.ext ?_ (Prod.ext ?_ ?_) <;> (try dsimp only) <;> omega)
                                  have o265179a : ((xl1 B n q d)).1 = xw B n ((xN B n ((xN B n ((xN B n ((xN B n ((xN B n (xN B n ((xN B n (xN B n ((xN B n (xN B n ((xN B n (xN B n ((xN B n ((xN B n q)))))))))))))))))))))))) 655 := by rw [o265179]
                                  have o265179b : ((xl1 B n q d)).2.1 = ((xN B n ((xN B n ((xN B n ((xN B n ((xN B n (xN B n ((xN B n (xN B n ((xN B n (xN B n ((xN B n (xN B n ((xN B n ((xN B n q)))))))))))))))))))))))) := by rw [o265179]
                                  have o265179c : ((xl1 B n q d)).2.2 = ((xN B n ((xN B n ((xN B n ((xN B n ((xN B n (xN B n ((xN B n (xN B n ((xN B n (xN B n ((xN B n (xN B n ((xN B n ((xN B n q)))))))))))))))))))))))) := by rw [o265179]
                                  exact wp_lc (ks := [10, 9, 8, 7, 6, 5, 4, 3, 1, 0]) (wl_c rfl (wl_c rfl (wl_c rfl (wl_c rfl (wl_c rfl (wl_c rfl (wl_c rfl (wl_c rfl (wl_c rfl wl_n))))))))) rfl (by decide) (tl264492 (H264813 r0 15) z264891 z264931 z264960 z265000 z265052 z265098 z265122 H265116 (xw B n ((xN B n ((xN B n ((xN B n ((xN B n ((xN B n (xN B n ((xN B n (xN B n ((xN B n (xN B n ((xN B n (xN B n ((xN B n ((xN B n q)))))))))))))))))))))))) 655) (((xN B n ((xN B n ((xN B n ((xN B n ((xN B n (xN B n ((xN B n (xN B n ((xN B n (xN B n ((xN B n (xN B n ((xN B n ((xN B n q))))))))))))))))))))))))) w265120 f265177 ⟨by omega, by omega⟩ ⟨by omega, by omega⟩ ⟨by omega, by omega⟩ ⟨by omega, by omega⟩ ⟨by omega, by omega⟩ ⟨by omega, by omega⟩ ⟨by omega, by omega⟩ ⟨by omega, by omega⟩ a265133 (by omega) (by omega))
                                · have f265180 := f265108.tr f265121 rfl
                                  have f265181 := f265109.tr f265121 rfl
                                  show wp _ _ 187 177 [(9, vI z265098), (8, vI z265075), (7, vI z265052), (6, vI z265000), (5, vI z264960), (4, vI z264931), (3, vI z264891), (1, vL (H264813 r0 15)), (0, .ref r0)] [vI z265122] _ H265116 _
                                  have u265182 := RO_k a265137
                                  refine wp_of e187 c187_177 (rw_goto (p1 := 181) (by decide) ?_)
                                  refine wp_of e187 c187_181 (rw_istore (pc' := 183) (z := z265122) (L' := [(10, vI z265122), (9, vI z265098), (8, vI z265075), (7, vI z265052), (6, vI z265000), (5, vI z264960), (4, vI z264931), (3, vI z264891), (1, vL (H264813 r0 15)), (0, .ref r0)]) rfl rfl rfl ?_)
                                  have o265183 : (xl1 B n q d) = (xh B n (xN B n ((xN B n ((xN B n ((xN B n ((xN B n ((xN B n (xN B n ((xN B n (xN B n ((xN B n (xN B n ((xN B n (xN B n ((xN B n ((xN B n q))))))))))))))))))))))))) (xV B n (xN B n ((xN B n ((xN B n ((xN B n (xN B n ((xN B n (xN B n ((xN B n (xN B n ((xN B n (xN B n ((xN B n ((xN B n q))))))))))))))))))))) + 1) (min (xV B n (xN B n ((xN B n ((xN B n ((xN B n (xN B n ((xN B n (xN B n ((xN B n (xN B n ((xN B n (xN B n ((xN B n ((xN B n q))))))))))))))))))))) + 24) 24), (xN B n ((xN B n ((xN B n ((xN B n ((xN B n ((xN B n (xN B n ((xN B n (xN B n ((xN B n (xN B n ((xN B n (xN B n ((xN B n ((xN B n q))))))))))))))))))))))))), (xN B n ((xN B n ((xN B n ((xN B n ((xN B n ((xN B n (xN B n ((xN B n (xN B n ((xN B n (xN B n ((xN B n (xN B n ((xN B n ((xN B n q)))))))))))))))))))))))))) := by
                                    unfold xl1 xper xbd xcs xca xcb xrg
                                    try simp only [xs_xs, xs_z]
                                    try rw [_ea]
                                    try rw [_eb]
                                    try rw [_ec]
                                    repeat first | rw [xs_0 (by omega)] | rw [xs_1 (by omega)] | rw [if_pos (by omega)] | rw [if_neg (by omega)]
                                    first | done | rfl | assumption | (exfalso; omega) | (refine Prod.ext ?_ (Prod.ext ?_ ?_) <;> (try dsimp only) <;> omega)
                                  have o265183a : ((xl1 B n q d)).1 = xh B n (xN B n ((xN B n ((xN B n ((xN B n ((xN B n ((xN B n (xN B n ((xN B n (xN B n ((xN B n (xN B n ((xN B n (xN B n ((xN B n ((xN B n q))))))))))))))))))))))))) (xV B n (xN B n ((xN B n ((xN B n ((xN B n (xN B n ((xN B n (xN B n ((xN B n (xN B n ((xN B n (xN B n ((xN B n ((xN B n q))))))))))))))))))))) + 1) (min (xV B n (xN B n ((xN B n ((xN B n ((xN B n (xN B n ((xN B n (xN B n ((xN B n (xN B n ((xN B n (xN B n ((xN B n ((xN B n q))))))))))))))))))))) + 24) 24) := by rw [o265183]
                                  have o265183b : ((xl1 B n q d)).2.1 = (xN B n ((xN B n ((xN B n ((xN B n ((xN B n ((xN B n (xN B n ((xN B n (xN B n ((xN B n (xN B n ((xN B n (xN B n ((xN B n ((xN B n q))))))))))))))))))))))))) := by rw [o265183]
                                  have o265183c : ((xl1 B n q d)).2.2 = (xN B n ((xN B n ((xN B n ((xN B n ((xN B n ((xN B n (xN B n ((xN B n (xN B n ((xN B n (xN B n ((xN B n (xN B n ((xN B n ((xN B n q))))))))))))))))))))))))) := by rw [o265183]
                                  exact wp_lc (ks := [10, 9, 8, 7, 6, 5, 4, 3, 1, 0]) (wl_c rfl (wl_c rfl (wl_c rfl (wl_c rfl (wl_c rfl (wl_c rfl (wl_c rfl (wl_c rfl (wl_c rfl wl_n))))))))) rfl (by decide) (tl264492 (H264813 r0 15) z264891 z264931 z264960 z265000 z265052 z265098 z265122 H265116 (xh B n (xN B n ((xN B n ((xN B n ((xN B n ((xN B n ((xN B n (xN B n ((xN B n (xN B n ((xN B n (xN B n ((xN B n (xN B n ((xN B n ((xN B n q))))))))))))))))))))))))) (xV B n (xN B n ((xN B n ((xN B n ((xN B n (xN B n ((xN B n (xN B n ((xN B n (xN B n ((xN B n (xN B n ((xN B n ((xN B n q))))))))))))))))))))) + 1) (min (xV B n (xN B n ((xN B n ((xN B n ((xN B n (xN B n ((xN B n (xN B n ((xN B n (xN B n ((xN B n (xN B n ((xN B n ((xN B n q))))))))))))))))))))) + 24) 24)) ((xN B n ((xN B n ((xN B n ((xN B n ((xN B n ((xN B n (xN B n ((xN B n (xN B n ((xN B n (xN B n ((xN B n (xN B n ((xN B n ((xN B n q)))))))))))))))))))))))))) w265120 f265181 ⟨by omega, by omega⟩ ⟨by omega, by omega⟩ ⟨by omega, by omega⟩ ⟨by omega, by omega⟩ ⟨by omega, by omega⟩ ⟨by omega, by omega⟩ ⟨by omega, by omega⟩ ⟨by omega, by omega⟩ a265137 (by omega) (by omega))
                            · have f265184 := f265084.tr f265097 rfl
                              have f265185 := f265085.tr f265097 rfl
                              show wp _ _ 187 154 [(8, vI z265075), (7, vI z265052), (6, vI z265000), (5, vI z264960), (4, vI z264931), (3, vI z264891), (1, vL (H264813 r0 15)), (0, .ref r0)] [vI z265098] _ H265092 _
                              have u265186 := RO_k a265107
                              refine wp_of e187 c187_154 (rw_goto (p1 := 158) (by decide) ?_)
                              refine wp_of e187 c187_158 (rw_istore (pc' := 160) (z := z265098) (L' := [(9, vI z265098), (8, vI z265075), (7, vI z265052), (6, vI z265000), (5, vI z264960), (4, vI z264931), (3, vI z264891), (1, vL (H264813 r0 15)), (0, .ref r0)]) rfl rfl rfl ?_)
                              refine wp_of e187 c187_160 (rw_iload (pc' := 162) (z := z265075) rfl rfl ?_)
                              refine wp_of e187 c187_162 (rw_if_eq (p1 := 180) (p2 := 165) (by decide) rfl ⟨by omega, by omega⟩ (fun c265187 => ?_) (fun c265187 => ?_))
                              · exfalso
                                omega
                              · refine wp_of e187 c187_165 (rw_aload_n (pc' := 166) (v := .ref r0) rfl rfl rfl ?_)
                                refine wp_of e187 c187_166 (rw_ldcS (pc' := 168) (k := 87) rfl rfl rfl rfl ?_)
                                refine wp_of e187 c187_168 (rw_iload (pc' := 170) (z := z265098) rfl rfl ?_)
                                refine wp_of e187 c187_170 (rw_iconst (pc' := 171) rfl ?_)
                                refine wp_of e187 c187_171 (rw_iadd (pc' := 172) rfl ?_)
                                refine wp_of e187 c187_172 (rw_bipush (pc' := 174) (z := 24) rfl (by decide) ?_)
                                have k265188 : H265092 r0 5 = H265069 r0 5 := (f265097 r0 5 _ g0 rfl)
                                have q265189 : H265092 r0 5 = (rb : Int) := k265188.trans q265089
                                refine wp_of e187 c187_174 (xc_V (pc' := 177) (r := r0) (as := [.ref 87, vI (z265098 + 1), vI 24]) (st := []) (lm_9_216) rfl rfl (Nat.le_of_ble_eq_true rfl) w265096 g0 sh_42 (by decide) rfl (by decide) (u_182_o (fo := (xh B n ((xN B n ((xN B n ((xN B n ((xN B n (xN B n ((xN B n (xN B n ((xN B n (xN B n ((xN B n (xN B n ((xN B n ((xN B n q)))))))))))))))))))))) 0 23)) (po := (((xN B n ((xN B n ((xN B n ((xN B n (xN B n ((xN B n (xN B n ((xN B n (xN B n ((xN B n (xN B n ((xN B n ((xN B n q)))))))))))))))))))))))) (kk := 655) w265096 g0 rfl ⟨by omega, by omega⟩ ⟨by omega, by omega⟩ q265189 grb (by decide +kernel) a265107) (fun R265190 T265191 H265192 p265193 => ?_))
                                obtain ⟨e265194, e265196, z265197, e265195, b265198, p265199⟩ := p265193
                                subst e265194
                                subst e265195
                                subst e265196
                                obtain ⟨a265200, a265201⟩ := p265199
                                show wp _ _ 187 177 [(9, vI z265098), (8, vI z265075), (7, vI z265052), (6, vI z265000), (5, vI z264960), (4, vI z264931), (3, vI z264891), (1, vL (H264813 r0 15)), (0, .ref r0)] [vI z265197] _ H265092 _
                                have u265202 := RO_k a265201
                                refine wp_of e187 c187_177 (rw_goto (p1 := 181) (by decide) ?_)
                                refine wp_of e187 c187_181 (rw_istore (pc' := 183) (z := z265197) (L' := [(10, vI z265197), (9, vI z265098), (8, vI z265075), (7, vI z265052), (6, vI z265000), (5, vI z264960), (4, vI z264931), (3, vI z264891), (1, vL (H264813 r0 15)), (0, .ref r0)]) rfl rfl rfl ?_)
                                have o265203 : (xl1 B n q d) = (xh B n ((xN B n ((xN B n ((xN B n ((xN B n (xN B n ((xN B n (xN B n ((xN B n (xN B n ((xN B n (xN B n ((xN B n ((xN B n q)))))))))))))))))))))) 0 23, ((xN B n ((xN B n ((xN B n ((xN B n (xN B n ((xN B n (xN B n ((xN B n (xN B n ((xN B n (xN B n ((xN B n ((xN B n q)))))))))))))))))))))), ((xN B n ((xN B n ((xN B n ((xN B n (xN B n ((xN B n (xN B n ((xN B n (xN B n ((xN B n (xN B n ((xN B n ((xN B n q))))))))))))))))))))))) := by
                                  unfold xl1 xper xbd xcs xca xcb xrg
                                  try simp only [xs_xs, xs_z]
                                  try rw [_ea]
                                  try rw [_eb]
                                  try rw [_ec]
                                  repeat first | rw [xs_0 (by omega)] | rw [xs_1 (by omega)] | rw [if_pos (by omega)] | rw [if_neg (by omega)]
                                  first | done | rfl | assumption | (exfalso; omega) | (refine Prod.ext ?_ (Prod.ext ?_ ?_) <;> (try dsimp only) <;> omega)
                                have o265203a : ((xl1 B n q d)).1 = xh B n ((xN B n ((xN B n ((xN B n ((xN B n (xN B n ((xN B n (xN B n ((xN B n (xN B n ((xN B n (xN B n ((xN B n ((xN B n q)))))))))))))))))))))) 0 23 := by rw [o265203]
                                have o265203b : ((xl1 B n q d)).2.1 = ((xN B n ((xN B n ((xN B n ((xN B n (xN B n ((xN B n (xN B n ((xN B n (xN B n ((xN B n (xN B n ((xN B n ((xN B n q)))))))))))))))))))))) := by rw [o265203]
                                have o265203c : ((xl1 B n q d)).2.2 = ((xN B n ((xN B n ((xN B n ((xN B n (xN B n ((xN B n (xN B n ((xN B n (xN B n ((xN B n (xN B n ((xN B n ((xN B n q)))))))))))))))))))))) := by rw [o265203]
                                exact wp_lc (ks := [10, 9, 8, 7, 6, 5, 4, 3, 1, 0]) (wl_c rfl (wl_c rfl (wl_c rfl (wl_c rfl (wl_c rfl (wl_c rfl (wl_c rfl (wl_c rfl (wl_c rfl wl_n))))))))) rfl (by decide) (tl264492 (H264813 r0 15) z264891 z264931 z264960 z265000 z265052 z265098 z265197 H265092 (xh B n ((xN B n ((xN B n ((xN B n ((xN B n (xN B n ((xN B n (xN B n ((xN B n (xN B n ((xN B n (xN B n ((xN B n ((xN B n q)))))))))))))))))))))) 0 23) (((xN B n ((xN B n ((xN B n ((xN B n (xN B n ((xN B n (xN B n ((xN B n (xN B n ((xN B n (xN B n ((xN B n ((xN B n q))))))))))))))))))))))) w265096 f265185 ⟨by omega, by omega⟩ ⟨by omega, by omega⟩ ⟨by omega, by omega⟩ ⟨by omega, by omega⟩ ⟨by omega, by omega⟩ ⟨by omega, by omega⟩ ⟨by omega, by omega⟩ ⟨by omega, by omega⟩ a265201 (by omega) (by omega))
                        · have f265204 := f265062.tr f265074 rfl
                          have f265205 := f265063.tr f265074 rfl
                          show wp _ _ 187 140 [(7, vI z265052), (6, vI z265000), (5, vI z264960), (4, vI z264931), (3, vI z264891), (1, vL (H264813 r0 15)), (0, .ref r0)] [vI z265075] _ H265069 _
                          have u265206 := RC_k a265083
                          refine wp_of e187 c187_140 (rw_istore (pc' := 142) (z := z265075) (L' := [(8, vI z265075), (7, vI z265052), (6, vI z265000), (5, vI z264960), (4, vI z264931), (3, vI z264891), (1, vL (H264813 r0 15)), (0, .ref r0)]) rfl rfl rfl ?_)
                          refine wp_of e187 c187_142 (rw_iload (pc' := 144) (z := z265075) rfl rfl ?_)
                          refine wp_of e187 c187_144 (rw_if_eq (p1 := 157) (p2 := 147) (by decide) rfl ⟨by omega, by omega⟩ (fun c265207 => ?_) (fun c265207 => ?_))
                          · refine wp_of e187 c187_157 (rw_iconst (pc' := 158) rfl ?_)
                            refine wp_of e187 c187_158 (rw_istore (pc' := 160) (z := 0) (L' := [(9, vI 0), (8, vI z265075), (7, vI z265052), (6, vI z265000), (5, vI z264960), (4, vI z264931), (3, vI z264891), (1, vL (H264813 r0 15)), (0, .ref r0)]) rfl rfl rfl ?_)
                            refine wp_of e187 c187_160 (rw_iload (pc' := 162) (z := z265075) rfl rfl ?_)
                            refine wp_of e187 c187_162 (rw_if_eq (p1 := 180) (p2 := 165) (by decide) rfl ⟨by omega, by omega⟩ (fun c265208 => ?_) (fun c265208 => ?_))
                            · refine wp_of e187 c187_180 (rw_iconst (pc' := 181) rfl ?_)
                              refine wp_of e187 c187_181 (rw_istore (pc' := 183) (z := 0) (L' := [(10, vI 0), (9, vI 0), (8, vI z265075), (7, vI z265052), (6, vI z265000), (5, vI z264960), (4, vI z264931), (3, vI z264891), (1, vL (H264813 r0 15)), (0, .ref r0)]) rfl rfl rfl ?_)
                              have _eb : xqb B n ((xN B n ((xN B n ((xN B n (xN B n ((xN B n (xN B n ((xN B n (xN B n ((xN B n (xN B n ((xN B n ((xN B n q)))))))))))))))))))) = ((xN B n ((xN B n ((xN B n (xN B n ((xN B n (xN B n ((xN B n (xN B n ((xN B n (xN B n ((xN B n ((xN B n q)))))))))))))))))))) := by
                                unfold xqb
                                first | rw [if_pos (by omega)] | rw [if_neg (by omega)]
                              have _enf : xnf B n ((xN B n ((xN B n ((xN B n (xN B n ((xN B n (xN B n ((xN B n (xN B n ((xN B n (xN B n ((xN B n ((xN B n q)))))))))))))))))))) = 0 := by
                                unfold xnf
                                first | (rw [if_pos (by omega)] <;> omega) | (rw [if_neg (by omega)] <;> omega)
                              have _ent : xnt B n ((xN B n ((xN B n ((xN B n (xN B n ((xN B n (xN B n ((xN B n (xN B n ((xN B n (xN B n ((xN B n ((xN B n q)))))))))))))))))))) = 0 := by
                                unfold xnt
                                first | (rw [if_pos (by omega)] <;> omega) | (rw [if_neg (by omega)] <;> omega)
                              refine wp_of e187 c187_183 (rw_aload_n (pc' := 184) (v := .ref r0) rfl rfl rfl ?_)
                              refine wp_of e187 c187_184 (rw_ldcS (pc' := 186) (k := 85) rfl rfl rfl rfl ?_)
                              have k265209 : H265069 r0 5 = H265046 r0 5 := (f265074 r0 5 _ g0 rfl)
                              have q265210 : H265069 r0 5 = (rb : Int) := k265209.trans q265066
                              refine wp_of e187 c187_186 (xc_V (pc' := 189) (r := r0) (as := [.ref 85]) (st := []) (lm_9_240) rfl rfl (Nat.le_of_ble_eq_true rfl) w265073 g0 sh_42 (by decide) rfl (by decide) (u_192_k (B := B) (n := n) (q := ((xN B n ((xN B n ((xN B n (xN B n ((xN B n (xN B n ((xN B n (xN B n ((xN B n (xN B n ((xN B n ((xN B n q))))))))))))))))))))) (kk := 56377) w265073 g0 rfl q265210 grb (by decide +kernel) a265083) (fun R265211 T265212 H265213 p265214 => ?_))
                              obtain ⟨e265215, w265217, f265218, z265219, e265216, b265220, p265221⟩ := p265214
                              subst e265215
                              subst e265216
                              rcases p265221 with ⟨a265222, a265223, a265224⟩ | ⟨a265225, a265226, a265227⟩
                              · have f265228 := f265204.tr f265218 rfl
                                have f265229 := f265205.tr f265218 rfl
                                show wp _ _ 187 189 [(10, vI 0), (9, vI 0), (8, vI z265075), (7, vI z265052), (6, vI z265000), (5, vI z264960), (4, vI z264931), (3, vI z264891), (1, vL (H264813 r0 15)), (0, .ref r0)] [vI z265219] _ H265213 _
                                have u265230 := RC_k a265224
                                refine wp_of e187 c187_189 (rw_istore (pc' := 191) (z := z265219) (L' := [(11, vI z265219), (10, vI 0), (9, vI 0), (8, vI z265075), (7, vI z265052), (6, vI z265000), (5, vI z264960), (4, vI z264931), (3, vI z264891), (1, vL (H264813 r0 15)), (0, .ref r0)]) rfl rfl rfl ?_)
                                have _ec : xqc B n ((xN B n ((xN B n ((xN B n (xN B n ((xN B n (xN B n ((xN B n (xN B n ((xN B n (xN B n ((xN B n ((xN B n q)))))))))))))))))))) = ((xN B n ((xN B n ((xN B n ((xN B n (xN B n ((xN B n (xN B n ((xN B n (xN B n ((xN B n (xN B n ((xN B n ((xN B n q)))))))))))))))))))))) := by
                                  unfold xqc
                                  first | rw [if_pos (by omega)] | rw [if_neg (by omega)]
                                have _ew : xaw B n ((xN B n ((xN B n ((xN B n (xN B n ((xN B n (xN B n ((xN B n (xN B n ((xN B n (xN B n ((xN B n ((xN B n q)))))))))))))))))))) = z265219 := by
                                  unfold xaw
                                  first | (rw [if_pos (by omega)] <;> omega) | (rw [if_neg (by omega)] <;> omega)
                                refine wp_of e187 c187_191 (rw_aload_n (pc' := 192) (v := .ref r0) rfl rfl rfl ?_)
                                refine wp_of e187 c187_192 (xg_I (pc' := 195) lf_9_75 w265217 g0 sh_42 (by decide) (by decide) ty_42_9 rfl rfl (fun b265231 b265232 => ?_))
                                refine wp_of e187 c187_195 (rw_iconst (pc' := 196) rfl ?_)
                                refine wp_of e187 c187_196 (rw_icmp_ne (p1 := 200) (p2 := 199) (by decide) rfl ⟨by omega, by omega⟩ ⟨by omega, by omega⟩ (fun c265233 => ?_) (fun c265233 => ?_))
                                · have o265234 : (xl1 B n q d) = (0, (xN B n (xN B n (xN B n (xN B n (xN B n (xN B n (xN B n (xN B n (xN B n (xN B n q)))))))))), (xN B n ((xN B n ((xN B n ((xN B n (xN B n ((xN B n (xN B n ((xN B n (xN B n ((xN B n (xN B n ((xN B n ((xN B n q)))))))))))))))))))))) := by
                                    unfold xl1 xper xbd xcs xca xcb xrg
                                    try simp only [xs_xs, xs_z]
                                    try rw [_ea]
                                    try rw [_eb]
                                    try rw [_ec]
                                    repeat first | rw [xs_0 (by omega)] | rw [xs_1 (by omega)] | rw [if_pos (by omega)] | rw [if_neg (by omega)]
                                    first | done | rfl | assumption | (exfalso; omega) | (refine Prod.ext ?_ (Prod.ext ?_ ?_) <;> (try dsimp only) <;> omega)
                                  have o265234a : ((xl1 B n q d)).1 = 0 := by rw [o265234]
                                  have o265234b : ((xl1 B n q d)).2.1 = (xN B n (xN B n (xN B n (xN B n (xN B n (xN B n (xN B n (xN B n (xN B n (xN B n q)))))))))) := by rw [o265234]
                                  have o265234c : ((xl1 B n q d)).2.2 = (xN B n ((xN B n ((xN B n ((xN B n (xN B n ((xN B n (xN B n ((xN B n (xN B n ((xN B n (xN B n ((xN B n ((xN B n q))))))))))))))))))))) := by rw [o265234]
                                  have h265235 : DM T H265213 rp r0 d := (DM_fr w265073 grp f265218 rfl (DM_fr w265050 grp f265074 rfl (DM_fr w265027 grp f265051 rfl (DM_fr w264998 grp f265028 rfl (DM_fr w264958 grp f264999 rfl (DM_fr w264929 grp f264959 rfl (DM_fr w264889 grp f264930 rfl (DM_fr w264874 grp f264890 rfl (DM_fr w264817 grp f264875 rfl h264848)))))))))
                                  exact wp_lc (ks := [11, 10, 9, 8, 7, 6, 5, 4, 3, 1, 0]) (wl_c rfl (wl_c rfl (wl_c rfl (wl_c rfl (wl_c rfl (wl_c rfl (wl_c rfl (wl_c rfl (wl_c rfl (wl_c rfl wl_n)))))))))) rfl (by decide) (tl264313 (H264813 r0 15) z264891 z264931 z264960 z265000 z265052 0 0 z265219 H265213 w265217 f265229 ⟨by omega, by omega⟩ ⟨by omega, by omega⟩ ⟨by omega, by omega⟩ ⟨by omega, by omega⟩ ⟨by omega, by omega⟩ ⟨by omega, by omega⟩ ⟨by omega, by omega⟩ ⟨by omega, by omega⟩ ⟨by omega, by omega⟩ (by rw [show (xl1 B n q d).2.2 = ((xN B n ((xN B n ((xN B n ((xN B n (xN B n ((xN B n (xN B n ((xN B n (xN B n ((xN B n (xN B n ((xN B n ((xN B n q)))))))))))))))))))))) by omega]; exact a265224) h265235 (by omega) (by omega) (by omega) (by omega) (by omega) (by omega) (by omega) (by omega) (by omega) (by omega) (by omega) (by rw [_ea]; exact _enf) (by rw [_ea]; exact _ent) (by rw [_ea, _eb]; exact _ew) (by omega))
                                · exfalso
                                  omega
                              · have f265236 := f265204.tr f265218 rfl
                                have f265237 := f265205.tr f265218 rfl
                                show wp _ _ 187 189 [(10, vI 0), (9, vI 0), (8, vI z265075), (7, vI z265052), (6, vI z265000), (5, vI z264960), (4, vI z264931), (3, vI z264891), (1, vL (H264813 r0 15)), (0, .ref r0)] [vI z265219] _ H265213 _
                                have u265238 := RC_k a265227
                                refine wp_of e187 c187_189 (rw_istore (pc' := 191) (z := z265219) (L' := [(11, vI z265219), (10, vI 0), (9, vI 0), (8, vI z265075), (7, vI z265052), (6, vI z265000), (5, vI z264960), (4, vI z264931), (3, vI z264891), (1, vL (H264813 r0 15)), (0, .ref r0)]) rfl rfl rfl ?_)
                                have _ec : xqc B n ((xN B n ((xN B n ((xN B n (xN B n ((xN B n (xN B n ((xN B n (xN B n ((xN B n (xN B n ((xN B n ((xN B n q)))))))))))))))))))) = ((xN B n ((xN B n ((xN B n (xN B n ((xN B n (xN B n ((xN B n (xN B n ((xN B n (xN B n ((xN B n ((xN B n q)))))))))))))))))))) := by
                                  unfold xqc
                                  first | rw [if_pos (by omega)] | rw [if_neg (by omega)]
                                have _ew : xaw B n ((xN B n ((xN B n ((xN B n (xN B n ((xN B n (xN B n ((xN B n (xN B n ((xN B n (xN B n ((xN B n ((xN B n q)))))))))))))))))))) = z265219 := by
                                  unfold xaw
                                  first | (rw [if_pos (by omega)] <;> omega) | (rw [if_neg (by omega)] <;> omega)
                                refine wp_of e187 c187_191 (rw_aload_n (pc' := 192) (v := .ref r0) rfl rfl rfl ?_)
                                refine wp_of e187 c187_192 (xg_I (pc' := 195) lf_9_75 w265217 g0 sh_42 (by decide) (by decide) ty_42_9 rfl rfl (fun b265239 b265240 => ?_))
                                refine wp_of e187 c187_195 (rw_iconst (pc' := 196) rfl ?_)
                                refine wp_of e187 c187_196 (rw_icmp_ne (p1 := 200) (p2 := 199) (by decide) rfl ⟨by omega, by omega⟩ ⟨by omega, by omega⟩ (fun c265241 => ?_) (fun c265241 => ?_))
                                · have o265242 : (xl1 B n q d) = (0, (xN B n (xN B n (xN B n (xN B n (xN B n (xN B n (xN B n (xN B n (xN B n (xN B n q)))))))))), (xN B n ((xN B n ((xN B n (xN B n ((xN B n (xN B n ((xN B n (xN B n ((xN B n (xN B n ((xN B n ((xN B n q)))))))))))))))))))) := by
                                    unfold xl1 xper xbd xcs xca xcb xrg
                                    try simp only [xs_xs, xs_z]
                                    try rw [_ea]
                                    try rw [_eb]
                                    try rw [_ec]
                                    repeat first | rw [xs_0 (by omega)] | rw [xs_1 (by omega)] | rw [if_pos (by omega)] | rw [if_neg (by omega)]
                                    first | done | rfl | assumption | (exfalso; omega) | (refine Prod.ext ?_ (Prod.ext ?_ ?_) <;> (try dsimp only) <;> omega)
                                  have o265242a : ((xl1 B n q d)).1 = 0 := by rw [o265242]
                                  have o265242b : ((xl1 B n q d)).2.1 = (xN B n (xN B n (xN B n (xN B n (xN B n (xN B n (xN B n (xN B n (xN B n (xN B n q)))))))))) := by rw [o265242]
                                  have o265242c : ((xl1 B n q d)).2.2 = (xN B n ((xN B n ((xN B n (xN B n ((xN B n (xN B n ((xN B n (xN B n ((xN B n (xN B n ((xN B n ((xN B n q))))))))))))))))))) := by rw [o265242]
                                  have h265243 : DM T H265213 rp r0 d := (DM_fr w265073 grp f265218 rfl (DM_fr w265050 grp f265074 rfl (DM_fr w265027 grp f265051 rfl (DM_fr w264998 grp f265028 rfl (DM_fr w264958 grp f264999 rfl (DM_fr w264929 grp f264959 rfl (DM_fr w264889 grp f264930 rfl (DM_fr w264874 grp f264890 rfl (DM_fr w264817 grp f264875 rfl h264848)))))))))
                                  exact wp_lc (ks := [11, 10, 9, 8, 7, 6, 5, 4, 3, 1, 0]) (wl_c rfl (wl_c rfl (wl_c rfl (wl_c rfl (wl_c rfl (wl_c rfl (wl_c rfl (wl_c rfl (wl_c rfl (wl_c rfl wl_n)))))))))) rfl (by decide) (tl264313 (H264813 r0 15) z264891 z264931 z264960 z265000 z265052 0 0 z265219 H265213 w265217 f265237 ⟨by omega, by omega⟩ ⟨by omega, by omega⟩ ⟨by omega, by omega⟩ ⟨by omega, by omega⟩ ⟨by omega, by omega⟩ ⟨by omega, by omega⟩ ⟨by omega, by omega⟩ ⟨by omega, by omega⟩ ⟨by omega, by omega⟩ (by rw [show (xl1 B n q d).2.2 = ((xN B n ((xN B n ((xN B n (xN B n ((xN B n (xN B n ((xN B n (xN B n ((xN B n (xN B n ((xN B n ((xN B n q)))))))))))))))))))) by omega]; exact a265227) h265243 (by omega) (by omega) (by omega) (by omega) (by omega) (by omega) (by omega) (by omega) (by omega) (by omega) (by omega) (by rw [_ea]; exact _enf) (by rw [_ea]; exact _ent) (by rw [_ea, _eb]; exact _ew) (by omega))
                                · exfalso
                                  omega
                            · exfalso
                              omega
                          · exfalso
                            omega
                      · have f265244 := f265038.tr f265051 rfl
                        have f265245 := f265039.tr f265051 rfl
                        show wp _ _ 187 128 [(6, vI z265000), (5, vI z264960), (4, vI z264931), (3, vI z264891), (1, vL (H264813 r0 15)), (0, .ref r0)] [vI z265052] _ H265046 _
                        have u265246 := RO_k a265061
                        refine wp_of e187 c187_128 (rw_goto (p1 := 132) (by decide) ?_)
                        refine wp_of e187 c187_132 (rw_istore (pc' := 134) (z := z265052) (L' := [(7, vI z265052), (6, vI z265000), (5, vI z264960), (4, vI z264931), (3, vI z264891), (1, vL (H264813 r0 15)), (0, .ref r0)]) rfl rfl rfl ?_)
                        have o265247 : (xl1 B n q d) = (xh B n ((xN B n ((xN B n (xN B n ((xN B n (xN B n ((xN B n (xN B n ((xN B n (xN B n ((xN B n ((xN B n q)))))))))))))))))) 0 23, ((xN B n ((xN B n (xN B n ((xN B n (xN B n ((xN B n (xN B n ((xN B n (xN B n ((xN B n ((xN B n q)))))))))))))))))), ((xN B n ((xN B n (xN B n ((xN B n (xN B n ((xN B n (xN B n ((xN B n (xN B n ((xN B n ((xN B n q))))))))))))))))))) := by
                          unfold xl1 xper xbd xcs xca xcb xrg
                          try simp only [xs_xs, xs_z]
                          try rw [_ea]
                          try rw [_eb]
                          try rw [_ec]
                          repeat first | rw [xs_0 (by omega)] | rw [xs_1 (by omega)] | rw [if_pos (by omega)] | rw [if_neg (by omega)]
                          first | done | rfl | assumption | (exfalso; omega) | (refine Prod.ext ?_ (Prod.ext ?_ ?_) <;> (try dsimp only) <;> omega)
                        have o265247a : ((xl1 B n q d)).1 = xh B n ((xN B n ((xN B n (xN B n ((xN B n (xN B n ((xN B n (xN B n ((xN B n (xN B n ((xN B n ((xN B n q)))))))))))))))))) 0 23 := by rw [o265247]
                        have o265247b : ((xl1 B n q d)).2.1 = ((xN B n ((xN B n (xN B n ((xN B n (xN B n ((xN B n (xN B n ((xN B n (xN B n ((xN B n ((xN B n q)))))))))))))))))) := by rw [o265247]
                        have o265247c : ((xl1 B n q d)).2.2 = ((xN B n ((xN B n (xN B n ((xN B n (xN B n ((xN B n (xN B n ((xN B n (xN B n ((xN B n ((xN B n q)))))))))))))))))) := by rw [o265247]
                        exact wp_lc (ks := [7, 6, 5, 4, 3, 1, 0]) (wl_c rfl (wl_c rfl (wl_c rfl (wl_c rfl (wl_c rfl (wl_c rfl (wl_c rfl wl_n))))))) rfl (by decide) (tl264535 (H264813 r0 15) z264891 z264931 z264960 z265000 z265052 H265046 (xh B n ((xN B n ((xN B n (xN B n ((xN B n (xN B n ((xN B n (xN B n ((xN B n (xN B n ((xN B n ((xN B n q)))))))))))))))))) 0 23) (((xN B n ((xN B n (xN B n ((xN B n (xN B n ((xN B n (xN B n ((xN B n (xN B n ((xN B n ((xN B n q))))))))))))))))))) w265050 f265245 ⟨by omega, by omega⟩ ⟨by omega, by omega⟩ ⟨by omega, by omega⟩ ⟨by omega, by omega⟩ ⟨by omega, by omega⟩ ⟨by omega, by omega⟩ a265061 (by omega) (by omega))
                  · have f265248 := f265016.tr f265028 rfl
                    have f265249 := f265017.tr f265028 rfl
                    show wp _ _ 187 118 [(6, vI z265000), (5, vI z264960), (4, vI z264931), (3, vI z264891), (1, vL (H264813 r0 15)), (0, .ref r0)] [vI z265029] _ H265023 _
                    have u265250 := RC_k a265037
                    refine wp_of e187 c187_118 (rw_if_eq (p1 := 131) (p2 := 121) (by decide) rfl ⟨by omega, by omega⟩ (fun c265251 => ?_) (fun c265251 => ?_))
                    · refine wp_of e187 c187_131 (rw_iconst (pc' := 132) rfl ?_)
                      refine wp_of e187 c187_132 (rw_istore (pc' := 134) (z := -1) (L' := [(7, vI (-1)), (6, vI z265000), (5, vI z264960), (4, vI z264931), (3, vI z264891), (1, vL (H264813 r0 15)), (0, .ref r0)]) rfl rfl rfl ?_)
                      have _ea : xqa B n ((xN B n (xN B n ((xN B n (xN B n ((xN B n (xN B n ((xN B n (xN B n ((xN B n ((xN B n q)))))))))))))))) = ((xN B n (xN B n ((xN B n (xN B n ((xN B n (xN B n ((xN B n (xN B n ((xN B n ((xN B n q)))))))))))))))) := by
                        unfold xqa
                        first | rw [if_pos (by omega)] | rw [if_neg (by omega)]
                      have _eh : xhb B n ((xN B n (xN B n ((xN B n (xN B n ((xN B n (xN B n ((xN B n (xN B n ((xN B n ((xN B n q)))))))))))))))) = (-1) := by
                        unfold xhb
                        first | (rw [if_pos (by omega)] <;> omega) | (rw [if_neg (by omega)] <;> omega)
                      refine wp_of e187 c187_134 (rw_aload_n (pc' := 135) (v := .ref r0) rfl rfl rfl ?_)
                      refine wp_of e187 c187_135 (rw_ldcS (pc' := 137) (k := 84) rfl rfl rfl rfl ?_)
                      have k265252 : H265023 r0 5 = H264994 r0 5 := (f265028 r0 5 _ g0 rfl)
                      have q265253 : H265023 r0 5 = (rb : Int) := k265252.trans q265020
                      refine wp_of e187 c187_137 (xc_V (pc' := 140) (r := r0) (as := [.ref 84]) (st := []) (lm_9_240) rfl rfl (Nat.le_of_ble_eq_true rfl) w265027 g0 sh_42 (by decide) rfl (by decide) (u_192_k (B := B) (n := n) (q := ((xN B n (xN B n ((xN B n (xN B n ((xN B n (xN B n ((xN B n (xN B n ((xN B n ((xN B n q))))))))))))))))) (kk := 14384) w265027 g0 rfl q265253 grb (by decide +kernel) a265037) (fun R265254 T265255 H265256 p265257 => ?_))
                      obtain ⟨e265258, w265260, f265261, z265262, e265259, b265263, p265264⟩ := p265257
                      subst e265258
                      subst e265259
                      rcases p265264 with ⟨a265265, a265266, a265267⟩ | ⟨a265268, a265269, a265270⟩
                      · have f265271 := f265248.tr f265261 rfl
                        have f265272 := f265249.tr f265261 rfl
                        show wp _ _ 187 140 [(7, vI (-1)), (6, vI z265000), (5, vI z264960), (4, vI z264931), (3, vI z264891), (1, vL (H264813 r0 15)), (0, .ref r0)] [vI z265262] _ H265256 _
                        have u265273 := RC_k a265267
                        refine wp_of e187 c187_140 (rw_istore (pc' := 142) (z := z265262) (L' := [(8, vI z265262), (7, vI (-1)), (6, vI z265000), (5, vI z264960), (4, vI z264931), (3, vI z264891), (1, vL (H264813 r0 15)), (0, .ref r0)]) rfl rfl rfl ?_)
                        refine wp_of e187 c187_142 (rw_iload (pc' := 144) (z := z265262) rfl rfl ?_)
                        refine wp_of e187 c187_144 (rw_if_eq (p1 := 157) (p2 := 147) (by decide) rfl ⟨by omega, by omega⟩ (fun c265274 => ?_) (fun c265274 => ?_))
                        · exfalso
                          omega
                        · refine wp_of e187 c187_147 (rw_aload_n (pc' := 148) (v := .ref r0) rfl rfl rfl ?_)
                          refine wp_of e187 c187_148 (rw_iconst (pc' := 149) rfl ?_)
                          refine wp_of e187 c187_149 (rw_bipush (pc' := 151) (z := 23) rfl (by decide) ?_)
                          have k265275 : H265256 r0 5 = H265023 r0 5 := (f265261 r0 5 _ g0 rfl)
                          have q265276 : H265256 r0 5 = (rb : Int) := k265275.trans q265253
                          refine wp_of e187 c187_151 (xc_V (pc' := 154) (r := r0) (as := [vI 0, vI 23]) (st := []) (lm_9_137) rfl rfl (Nat.le_of_ble_eq_true rfl) w265260 g0 sh_42 (by decide) rfl (by decide) (u_184_k (B := B) (n := n) (q := ((xN B n ((xN B n (xN B n ((xN B n (xN B n ((xN B n (xN B n ((xN B n (xN B n ((xN B n ((xN B n q))))))))))))))))))) (lo := 0) (hi := 23) w265260 g0 ⟨by omega, by omega⟩ ⟨by omega, by omega⟩ q265276 grb (by omega) (by omega) a265267) (fun R265277 T265278 H265279 p265280 => ?_))
                          obtain ⟨e265281, w265283, f265284, z265285, e265282, b265286, p265287⟩ := p265280
                          subst e265281
                          subst e265282
                          rcases p265287 with ⟨a265288, a265289, a265290, a265291⟩ | ⟨a265292, a265293, a265294⟩
                          · have f265295 := f265271.tr f265284 rfl
                            have f265296 := f265272.tr f265284 rfl
                            show wp _ _ 187 154 [(8, vI z265262), (7, vI (-1)), (6, vI z265000), (5, vI z264960), (4, vI z264931), (3, vI z264891), (1, vL (H264813 r0 15)), (0, .ref r0)] [vI z265285] _ H265279 _
                            have u265297 := RC_k a265291
                            refine wp_of e187 c187_154 (rw_goto (p1 := 158) (by decide) ?_)
                            refine wp_of e187 c187_158 (rw_istore (pc' := 160) (z := z265285) (L' := [(9, vI z265285), (8, vI z265262), (7, vI (-1)), (6, vI z265000), (5, vI z264960), (4, vI z264931), (3, vI z264891), (1, vL (H264813 r0 15)), (0, .ref r0)]) rfl rfl rfl ?_)
                            refine wp_of e187 c187_160 (rw_iload (pc' := 162) (z := z265262) rfl rfl ?_)
                            refine wp_of e187 c187_162 (rw_if_eq (p1 := 180) (p2 := 165) (by decide) rfl ⟨by omega, by omega⟩ (fun c265298 => ?_) (fun c265298 => ?_))
                            · exfalso
                              omega
                            · refine wp_of e187 c187_165 (rw_aload_n (pc' := 166) (v := .ref r0) rfl rfl rfl ?_)
                              refine wp_of e187 c187_166 (rw_ldcS (pc' := 168) (k := 87) rfl rfl rfl rfl ?_)
                              refine wp_of e187 c187_168 (rw_iload (pc' := 170) (z := z265285) rfl rfl ?_)
                              refine wp_of e187 c187_170 (rw_iconst (pc' := 171) rfl ?_)
                              refine wp_of e187 c187_171 (rw_iadd (pc' := 172) rfl ?_)
                              refine wp_of e187 c187_172 (rw_bipush (pc' := 174) (z := 24) rfl (by decide) ?_)
                              have k265299 : H265279 r0 5 = H265256 r0 5 := (f265284 r0 5 _ g0 rfl)
                              have q265300 : H265279 r0 5 = (rb : Int) := k265299.trans q265276
                              refine wp_of e187 c187_174 (xc_V (pc' := 177) (r := r0) (as := [.ref 87, vI (z265285 + 1), vI 24]) (st := []) (lm_9_216) rfl rfl (Nat.le_of_ble_eq_true rfl) w265283 g0 sh_42 (by decide) rfl (by decide) (u_182_k (B := B) (n := n) (q := ((xN B n ((xN B n ((xN B n (xN B n ((xN B n (xN B n ((xN B n (xN B n ((xN B n (xN B n ((xN B n ((xN B n q))))))))))))))))))))) (kk := 655) (lo := (xV B n (xN B n ((xN B n (xN B n ((xN B n (xN B n ((xN B n (xN B n ((xN B n (xN B n ((xN B n ((xN B n q))))))))))))))))) + 1)) (hi := (min (xV B n (xN B n ((xN B n (xN B n ((xN B n (xN B n ((xN B n (xN B n ((xN B n (xN B n ((xN B n ((xN B n q))))))))))))))))) + 24) 24)) w265283 g0 rfl ⟨by omega, by omega⟩ ⟨by omega, by omega⟩ q265300 grb (by decide +kernel) (by omega) (by omega) a265291) (fun R265301 T265302 H265303 p265304 => ?_))
                              obtain ⟨e265305, w265307, f265308, z265309, e265306, b265310, p265311⟩ := p265304
                              subst e265305
                              subst e265306
                              rcases p265311 with ⟨a265312, a265313, a265314, a265315, a265316, a265317⟩ | ⟨a265318, a265319, a265320⟩ | ⟨a265321, a265322, a265323, a265324⟩
                              · have f265325 := f265295.tr f265308 rfl
                                have f265326 := f265296.tr f265308 rfl
                                show wp _ _ 187 177 [(9, vI z265285), (8, vI z265262), (7, vI (-1)), (6, vI z265000), (5, vI z264960), (4, vI z264931), (3, vI z264891), (1, vL (H264813 r0 15)), (0, .ref r0)] [vI z265309] _ H265303 _
                                have u265327 := RC_k a265317
                                refine wp_of e187 c187_177 (rw_goto (p1 := 181) (by decide) ?_)
                                refine wp_of e187 c187_181 (rw_istore (pc' := 183) (z := z265309) (L' := [(10, vI z265309), (9, vI z265285), (8, vI z265262), (7, vI (-1)), (6, vI z265000), (5, vI z264960), (4, vI z264931), (3, vI z264891), (1, vL (H264813 r0 15)), (0, .ref r0)]) rfl rfl rfl ?_)
                                have _eb : xqb B n ((xN B n (xN B n ((xN B n (xN B n ((xN B n (xN B n ((xN B n (xN B n ((xN B n ((xN B n q)))))))))))))))) = ((xN B n (xN B n ((xN B n ((xN B n ((xN B n (xN B n ((xN B n (xN B n ((xN B n (xN B n ((xN B n (xN B n ((xN B n ((xN B n q))))))))))))))))))))))) := by
                                  unfold xqb
                                  first | rw [if_pos (by omega)] | rw [if_neg (by omega)]
                                have _enf : xnf B n ((xN B n (xN B n ((xN B n (xN B n ((xN B n (xN B n ((xN B n (xN B n ((xN B n ((xN B n q)))))))))))))))) = z265285 := by
                                  unfold xnf
                                  first | (rw [if_pos (by omega)] <;> omega) | (rw [if_neg (by omega)] <;> omega)
                                have _ent : xnt B n ((xN B n (xN B n ((xN B n (xN B n ((xN B n (xN B n ((xN B n (xN B n ((xN B n ((xN B n q)))))))))))))))) = z265309 := by
                                  unfold xnt
                                  first | (rw [if_pos (by omega)] <;> omega) | (rw [if_neg (by omega)] <;> omega)
                                refine wp_of e187 c187_183 (rw_aload_n (pc' := 184) (v := .ref r0) rfl rfl rfl ?_)
                                refine wp_of e187 c187_184 (rw_ldcS (pc' := 186) (k := 85) rfl rfl rfl rfl ?_)
                                have k265328 : H265303 r0 5 = H265279 r0 5 := (f265308 r0 5 _ g0 rfl)
                                have q265329 : H265303 r0 5 = (rb : Int) := k265328.trans q265300
                                refine wp_of e187 c187_186 (xc_V (pc' := 189) (r := r0) (as := [.ref 85]) (st := []) (lm_9_240) rfl rfl (Nat.le_of_ble_eq_true rfl) w265307 g0 sh_42 (by decide) rfl (by decide) (u_192_k (B := B) (n := n) (q := ((xN B n (xN B n ((xN B n ((xN B n ((xN B n (xN B n ((xN B n (xN B n ((xN B n (xN B n ((xN B n (xN B n ((xN B n ((xN B n q)))))))))))))))))))))))) (kk := 56377) w265307 g0 rfl q265329 grb (by decide +kernel) a265317) (fun R265330 T265331 H265332 p265333 => ?_))
                                obtain ⟨e265334, w265336, f265337, z265338, e265335, b265339, p265340⟩ := p265333
                                subst e265334
                                subst e265335
                                rcases p265340 with ⟨a265341, a265342, a265343⟩ | ⟨a265344, a265345, a265346⟩
                                · have f265347 := f265325.tr f265337 rfl
                                  have f265348 := f265326.tr f265337 rfl
                                  show wp _ _ 187 189 [(10, vI z265309), (9, vI z265285), (8, vI z265262), (7, vI (-1)), (6, vI z265000), (5, vI z264960), (4, vI z264931), (3, vI z264891), (1, vL (H264813 r0 15)), (0, .ref r0)] [vI z265338] _ H265332 _
                                  have u265349 := RC_k a265343
                                  refine wp_of e187 c187_189 (rw_istore (pc' := 191) (z := z265338) (L' := [(11, vI z265338), (10, vI z265309), (9, vI z265285), (8, vI z265262), (7, vI (-1)), (6, vI z265000), (5, vI z264960), (4, vI z264931), (3, vI z264891), (1, vL (H264813 r0 15)), (0, .ref r0)]) rfl rfl rfl ?_)
                                  have _ec : xqc B n ((xN B n (xN B n ((xN B n ((xN B n ((xN B n (xN B n ((xN B n (xN B n ((xN B n (xN B n ((xN B n (xN B n ((xN B n ((xN B n q))))))))))))))))))))))) = ((xN B n ((xN B n (xN B n ((xN B n ((xN B n ((xN B n (xN B n ((xN B n (xN B n ((xN B n (xN B n ((xN B n (xN B n ((xN B n ((xN B n q))))))))))))))))))))))))) := by
                                    unfold xqc
                                    first | rw [if_pos (by omega)] | rw [if_neg (by omega)]
                                  have _ew : xaw B n ((xN B n (xN B n ((xN B n ((xN B n ((xN B n (xN B n ((xN B n (xN B n ((xN B n (xN B n ((xN B n (xN B n ((xN B n ((xN B n q))))))))))))))))))))))) = z265338 := by
                                    unfold xaw
                                    first | (rw [if_pos (by omega)] <;> omega) | (rw [if_neg (by omega)] <;> omega)
                                  refine wp_of e187 c187_191 (rw_aload_n (pc' := 192) (v := .ref r0) rfl rfl rfl ?_)
                                  refine wp_of e187 c187_192 (xg_I (pc' := 195) lf_9_75 w265336 g0 sh_42 (by decide) (by decide) ty_42_9 rfl rfl (fun b265350 b265351 => ?_))
                                  refine wp_of e187 c187_195 (rw_iconst (pc' := 196) rfl ?_)
                                  refine wp_of e187 c187_196 (rw_icmp_ne (p1 := 200) (p2 := 199) (by decide) rfl ⟨by omega, by omega⟩ ⟨by omega, by omega⟩ (fun c265352 => ?_) (fun c265352 => ?_))
                                  · have o265353 : (xl1 B n q d) = (0, (xN B n (xN B n (xN B n (xN B n (xN B n (xN B n (xN B n (xN B n (xN B n (xN B n q)))))))))), (xN B n ((xN B n (xN B n ((xN B n ((xN B n ((xN B n (xN B n ((xN B n (xN B n ((xN B n (xN B n ((xN B n (xN B n ((xN B n ((xN B n q))))))))))))))))))))))))) := by
                                      unfold xl1 xper xbd xcs xca xcb xrg
                                      try simp only [xs_xs, xs_z]
                                      try rw [_ea]
                                      try rw [_eb]
                                      try rw [_ec]
                                      repeat first | rw [xs_0 (by omega)] | rw [xs_1 (by omega)] | rw [if_pos (by omega)] | rw [if_neg (by omega)]
                                      first | done | rfl | assumption | (exfalso; omega) | (refine Prod.ext ?_ (Prod.ext ?_ ?_) <;> (try dsimp only) <;> omega)
                                    have o265353a : ((xl1 B n q d)).1 = 0 := by rw [o265353]
                                    have o265353b : ((xl1 B n q d)).2.1 = (xN B n (xN B n (xN B n (xN B n (xN B n (xN B n (xN B n (xN B n (xN B n (xN B n q)))))))))) := by rw [o265353]
                                    have o265353c : ((xl1 B n q d)).2.2 = (xN B n ((xN B n (xN B n ((xN B n ((xN B n ((xN B n (xN B n ((xN B n (xN B n ((xN B n (xN B n ((xN B n (xN B n ((xN B n ((xN B n q)))))))))))))))))))))))) := by rw [o265353]
                                    have h265354 : DM T H265332 rp r0 d := (DM_fr w265307 grp f265337 rfl (DM_fr w265283 grp f265308 rfl (DM_fr w265260 grp f265284 rfl (DM_fr w265027 grp f265261 rfl (DM_fr w264998 grp f265028 rfl (DM_fr w264958 grp f264999 rfl (DM_fr w264929 grp f264959 rfl (DM_fr w264889 grp f264930 rfl (DM_fr w264874 grp f264890 rfl (DM_fr w264817 grp f264875 rfl h264848))))))))))
                                    exact wp_lc (ks := [11, 10, 9, 8, 7, 6, 5, 4, 3, 1, 0]) (wl_c rfl (wl_c rfl (wl_c rfl (wl_c rfl (wl_c rfl (wl_c rfl (wl_c rfl (wl_c rfl (wl_c rfl (wl_c rfl wl_n)))))))))) rfl (by decide) (tl264313 (H264813 r0 15) z264891 z264931 z264960 z265000 (-1) z265285 z265309 z265338 H265332 w265336 f265348 ⟨by omega, by omega⟩ ⟨by omega, by omega⟩ ⟨by omega, by omega⟩ ⟨by omega, by omega⟩ ⟨by omega, by omega⟩ ⟨by omega, by omega⟩ ⟨by omega, by omega⟩ ⟨by omega, by omega⟩ ⟨by omega, by omega⟩ (by rw [show (xl1 B n q d).2.2 = ((xN B n ((xN B n (xN B n ((xN B n ((xN B n ((xN B n (xN B n ((xN B n (xN B n ((xN B n (xN B n ((xN B n (xN B n ((xN B n ((xN B n q))))))))))))))))))))))))) by omega]; exact a265343) h265354 (by omega) (by omega) (by omega) (by omega) (by omega) (by omega) (by omega) (by omega) (by omega) (by omega) (by omega) (by rw [_ea]; exact _enf) (by rw [_ea]; exact _ent) (by rw [_ea, _eb]; exact _ew) (by omega))
                                  · exfalso
                                    omega
                                · have f265355 := f265325.tr f265337 rfl
                                  have f265356 := f265326.tr f265337 rfl
                                  show wp _ _ 187 189 [(10, vI z265309), (9, vI z265285), (8, vI z265262), (7, vI (-1)), (6, vI z265000), (5, vI z264960), (4, vI z264931), (3, vI z264891), (1, vL (H264813 r0 15)), (0, .ref r0)] [vI z265338] _ H265332 _
                                  have u265357 := RC_k a265346
                                  refine wp_of e187 c187_189 (rw_istore (pc' := 191) (z := z265338) (L' := [(11, vI z265338), (10, vI z265309), (9, vI z265285), (8, vI z265262), (7, vI (-1)), (6, vI z265000), (5, vI z264960), (4, vI z264931), (3, vI z264891), (1, vL (H264813 r0 15)), (0, .ref r0)]) rfl rfl rfl ?_)
                                  have _ec : xqc B n ((xN B n (xN B n ((xN B n ((xN B n ((xN B n (xN B n ((xN B n (xN B n ((xN B n (xN B n ((xN B n (xN B n ((xN B n ((xN B n q))))))))))))))))))))))) = ((xN B n (xN B n ((xN B n ((xN B n ((xN B n (xN B n ((xN B n (xN B n ((xN B n (xN B n ((xN B n (xN B n ((xN B n ((xN B n q))))))))))))))))))))))) := by
                                    unfold xqc
                                    first | rw [if_pos (by omega)] | rw [if_neg (by omega)]
                                  have _ew : xaw B n ((xN B n (xN B n ((xN B n ((xN B n ((xN B n (xN B n ((xN B n (xN B n ((xN B n (xN B n ((xN B n (xN B n ((xN B n ((xN B n q))))))))))))))))))))))) = z265338 := by
                                    unfold xaw
                                    first | (rw [if_pos (by omega)] <;> omega) | (rw [if_neg (by omega)] <;> omega)
                                  refine wp_of e187 c187_191 (rw_aload_n (pc' := 192) (v := .ref r0) rfl rfl rfl ?_)
                                  refine wp_of e187 c187_192 (xg_I (pc' := 195) lf_9_75 w265336 g0 sh_42 (by decide) (by decide) ty_42_9 rfl rfl (fun b265358 b265359 => ?_))
                                  refine wp_of e187 c187_195 (rw_iconst (pc' := 196) rfl ?_)
                                  refine wp_of e187 c187_196 (rw_icmp_ne (p1 := 200) (p2 := 199) (by decide) rfl ⟨by omega, by omega⟩ ⟨by omega, by omega⟩ (fun c265360 => ?_) (fun c265360 => ?_))
                                  · have o265361 : (xl1 B n q d) = (0, (xN B n (xN B n (xN B n (xN B n (xN B n (xN B n (xN B n (xN B n (xN B n (xN B n q)))))))))), (xN B n (xN B n ((xN B n ((xN B n ((xN B n (xN B n ((xN B n (xN B n ((xN B n (xN B n ((xN B n (xN B n ((xN B n ((xN B n q))))))))))))))))))))))) := by
                                      unfold xl1 xper xbd xcs xca xcb xrg
                                      try simp only [xs_xs, xs_z]
                                      try rw [_ea]
                                      try rw [_eb]
                                      try rw [_ec]
                                      repeat first | rw [xs_0 (by omega)] | rw [xs_1 (by omega)] | rw [if_pos (by omega)] | rw [if_neg (by omega)]
                                      first | done | rfl | assumption | (exfalso; omega) | (refine Prod.ext ?_ (Prod.ext ?_ ?_) <;> (try dsimp only) <;> omega)
                                    have o265361a : ((xl1 B n q d)).1 = 0 := by rw [o265361]
                                    have o265361b : ((xl1 B n q d)).2.1 = (xN B n (xN B n (xN B n (xN B n (xN B n (xN B n (xN B n (xN B n (xN B n (xN B n q)))))))))) := by rw [o265361]
                                    have o265361c : ((xl1 B n q d)).2.2 = (xN B n (xN B n ((xN B n ((xN B n ((xN B n (xN B n ((xN B n (xN B n ((xN B n (xN B n ((xN B n (xN B n ((xN B n ((xN B n q)))))))))))))))))))))) := by rw [o265361]
                                    have h265362 : DM T H265332 rp r0 d := (DM_fr w265307 grp f265337 rfl (DM_fr w265283 grp f265308 rfl (DM_fr w265260 grp f265284 rfl (DM_fr w265027 grp f265261 rfl (DM_fr w264998 grp f265028 rfl (DM_fr w264958 grp f264999 rfl (DM_fr w264929 grp f264959 rfl (DM_fr w264889 grp f264930 rfl (DM_fr w264874 grp f264890 rfl (DM_fr w264817 grp f264875 rfl h264848))))))))))
                                    exact wp_lc (ks := [11, 10, 9, 8, 7, 6, 5, 4, 3, 1, 0]) (wl_c rfl (wl_c rfl (wl_c rfl (wl_c rfl (wl_c rfl (wl_c rfl (wl_c rfl (wl_c rfl (wl_c rfl (wl_c rfl wl_n)))))))))) rfl (by decide) (tl264313 (H264813 r0 15) z264891 z264931 z264960 z265000 (-1) z265285 z265309 z265338 H265332 w265336 f265356 ⟨by omega, by omega⟩ ⟨by omega, by omega⟩ ⟨by omega, by omega⟩ ⟨by omega, by omega⟩ ⟨by omega, by omega⟩ ⟨by omega, by omega⟩ ⟨by omega, by omega⟩ ⟨by omega, by omega⟩ ⟨by omega, by omega⟩ (by rw [show (xl1 B n q d).2.2 = ((xN B n (xN B n ((xN B n ((xN B n ((xN B n (xN B n ((xN B n (xN B n ((xN B n (xN B n ((xN B n (xN B n ((xN B n ((xN B n q))))))))))))))))))))))) by omega]; exact a265346) h265362 (by omega) (by omega) (by omega) (by omega) (by omega) (by omega) (by omega) (by omega) (by omega) (by omega) (by omega) (by rw [_ea]; exact _enf) (by rw [_ea]; exact _ent) (by rw [_ea, _eb]; exact _ew) (by omega))
                                  · exfalso
                                    omega
                              · have f265363 := f265295.tr f265308 rfl
                                have f265364 := f265296.tr f265308 rfl
                                show wp _ _ 187 177 [(9, vI z265285), (8, vI z265262), (7, vI (-1)), (6, vI z265000), (5, vI z264960), (4, vI z264931), (3, vI z264891), (1, vL (H264813 r0 15)), (0, .ref r0)] [vI z265309] _ H265303 _
                                have u265365 := RO_k a265320
                                refine wp_of e187 c187_177 (rw_goto (p1 := 181) (by decide) ?_)
                                refine wp_of e187 c187_181 (rw_istore (pc' := 183) (z := z265309) (L' := [(10, vI z265309), (9, vI z265285), (8, vI z265262), (7, vI (-1)), (6, vI z265000), (5, vI z264960), (4, vI z264931), (3, vI z264891), (1, vL (H264813 r0 15)), (0, .ref r0)]) rfl rfl rfl ?_)
                                have o265366 : (xl1 B n q d) = (xw B n ((xN B n ((xN B n ((xN B n (xN B n ((xN B n (xN B n ((xN B n (xN B n ((xN B n (xN B n ((xN B n ((xN B n q)))))))))))))))))))) 655, ((xN B n ((xN B n ((xN B n (xN B n ((xN B n (xN B n ((xN B n (xN B n ((xN B n (xN B n ((xN B n ((xN B n q)))))))))))))))))))), ((xN B n ((xN B n ((xN B n (xN B n ((xN B n (xN B n ((xN B n (xN B n ((xN B n (xN B n ((xN B n ((xN B n q))))))))))))))))))))) := by
                                  unfold xl1 xper xbd xcs xca xcb xrg
                                  try simp only [xs_xs, xs_z]
                                  try rw [_ea]
                                  try rw [_eb]
                                  try rw [_ec]
                                  repeat first | rw [xs_0 (by omega)] | rw [xs_1 (by omega)] | rw [if_pos (by omega)] | rw [if_neg (by omega)]
                                  first | done | rfl | assumption | (exfalso; omega) | (refine Prod.ext ?_ (Prod.ext ?_ ?_) <;> (try dsimp only) <;> omega)
                                have o265366a : ((xl1 B n q d)).1 = xw B n ((xN B n ((xN B n ((xN B n (xN B n ((xN B n (xN B n ((xN B n (xN B n ((xN B n (xN B n ((xN B n ((xN B n q)))))))))))))))))))) 655 := by rw [o265366]
                                have o265366b : ((xl1 B n q d)).2.1 = ((xN B n ((xN B n ((xN B n (xN B n ((xN B n (xN B n ((xN B n (xN B n ((xN B n (xN B n ((xN B n ((xN B n q)))))))))))))))))))) := by rw [o265366]
                                have o265366c : ((xl1 B n q d)).2.2 = ((xN B n ((xN B n ((xN B n (xN B n ((xN B n (xN B n ((xN B n (xN B n ((xN B n (xN B n ((xN B n ((xN B n q)))))))))))))))))))) := by rw [o265366]
                                exact wp_lc (ks := [10, 9, 8, 7, 6, 5, 4, 3, 1, 0]) (wl_c rfl (wl_c rfl (wl_c rfl (wl_c rfl (wl_c rfl (wl_c rfl (wl_c rfl (wl_c rfl (wl_c rfl wl_n))))))))) rfl (by decide) (tl264492 (H264813 r0 15) z264891 z264931 z264960 z265000 (-1) z265285 z265309 H265303 (xw B n ((xN B n ((xN B n ((xN B n (xN B n ((xN B n (xN B n ((xN B n (xN B n ((xN B n (xN B n ((xN B n ((xN B n q)))))))))))))))))))) 655) (((xN B n ((xN B n ((xN B n (xN B n ((xN B n (xN B n ((xN B n (xN B n ((xN B n (xN B n ((xN B n ((xN B n q))))))))))))))))))))) w265307 f265364 ⟨by omega, by omega⟩ ⟨by omega, by omega⟩ ⟨by omega, by omega⟩ ⟨by omega, by omega⟩ ⟨by omega, by omega⟩ ⟨by omega, by omega⟩ ⟨by omega, by omega⟩ ⟨by omega, by omega⟩ a265320 (by omega) (by omega))
                              · have f265367 := f265295.tr f265308 rfl
                                have f265368 := f265296.tr f265308 rfl
                                show wp _ _ 187 177 [(9, vI z265285), (8, vI z265262), (7, vI (-1)), (6, vI z265000), (5, vI z264960), (4, vI z264931), (3, vI z264891), (1, vL (H264813 r0 15)), (0, .ref r0)] [vI z265309] _ H265303 _
                                have u265369 := RO_k a265324
                                refine wp_of e187 c187_177 (rw_goto (p1 := 181) (by decide) ?_)
                                refine wp_of e187 c187_181 (rw_istore (pc' := 183) (z := z265309) (L' := [(10, vI z265309), (9, vI z265285), (8, vI z265262), (7, vI (-1)), (6, vI z265000), (5, vI z264960), (4, vI z264931), (3, vI z264891), (1, vL (H264813 r0 15)), (0, .ref r0)]) rfl rfl rfl ?_)
                                have o265370 : (xl1 B n q d) = (xh B n (xN B n ((xN B n ((xN B n ((xN B n (xN B n ((xN B n (xN B n ((xN B n (xN B n ((xN B n (xN B n ((xN B n ((xN B n q))))))))))))))))))))) (xV B n (xN B n ((xN B n (xN B n ((xN B n (xN B n ((xN B n (xN B n ((xN B n (xN B n ((xN B n ((xN B n q))))))))))))))))) + 1) (min (xV B n (xN B n ((xN B n (xN B n ((xN B n (xN B n ((xN B n (xN B n ((xN B n (xN B n ((xN B n ((xN B n q))))))))))))))))) + 24) 24), (xN B n ((xN B n ((xN B n ((xN B n (xN B n ((xN B n (xN B n ((xN B n (xN B n ((xN B n (xN B n ((xN B n ((xN B n q))))))))))))))))))))), (xN B n ((xN B n ((xN B n ((xN B n (xN B n ((xN B n (xN B n ((xN B n (xN B n ((xN B n (xN B n ((xN B n ((xN B n q)))))))))))))))))))))) := by
                                  unfold xl1 xper xbd xcs xca xcb xrg
                                  try simp only [xs_xs, xs_z]
                                  try rw [_ea]
                                  try rw [_eb]
                                  try rw [_ec]
                                  repeat first | rw [xs_0 (by omega)] | rw [xs_1 (by omega)] | rw [if_pos (by omega)] | rw [if_neg (by omega)]
                                  first | done | rfl | assumption | (exfalso; omega) | (refine Prod.ext ?_ (Prod.ext ?_ ?_) <;> (try dsimp only) <;> omega)
                                have o265370a : ((xl1 B n q d)).1 = xh B n (xN B n ((xN B n ((xN B n ((xN B n (xN B n ((xN B n (xN B n ((xN B n (xN B n ((xN B n (xN B n ((xN B n ((xN B n q))))))))))))))))))))) (xV B n (xN B n ((xN B n (xN B n ((xN B n (xN B n ((xN B n (xN B n ((xN B n (xN B n ((xN B n ((xN B n q))))))))))))))))) + 1) (min (xV B n (xN B n ((xN B n (xN B n ((xN B n (xN B n ((xN B n (xN B n ((xN B n (xN B n ((xN B n ((xN B n q))))))))))))))))) + 24) 24) := by rw [o265370]
                                have o265370b : ((xl1 B n q d)).2.1 = (xN B n ((xN B n ((xN B n ((xN B n (xN B n ((xN B n (xN B n ((xN B n (xN B n ((xN B n (xN B n ((xN B n ((xN B n q))))))))))))))))))))) := by rw [o265370]
                                have o265370c : ((xl1 B n q d)).2.2 = (xN B n ((xN B n ((xN B n ((xN B n (xN B n ((xN B n (xN B n ((xN B n (xN B n ((xN B n (xN B n ((xN B n ((xN B n q))))))))))))))))))))) := by rw [o265370]
                                exact wp_lc (ks := [10, 9, 8, 7, 6, 5, 4, 3, 1, 0]) (wl_c rfl (wl_c rfl (wl_c rfl (wl_c rfl (wl_c rfl (wl_c rfl (wl_c rfl (wl_c rfl (wl_c rfl wl_n))))))))) rfl (by decide) (tl264492 (H264813 r0 15) z264891 z264931 z264960 z265000 (-1) z265285 z265309 H265303 (xh B n (xN B n ((xN B n ((xN B n ((xN B n (xN B n ((xN B n (xN B n ((xN B n (xN B n ((xN B n (xN B n ((xN B n ((xN B n q))))))))))))))))))))) (xV B n (xN B n ((xN B n (xN B n ((xN B n (xN B n ((xN B n (xN B n ((xN B n (xN B n ((xN B n ((xN B n q))))))))))))))))) + 1) (min (xV B n (xN B n ((xN B n (xN B n ((xN B n (xN B n ((xN B n (xN B n ((xN B n (xN B n ((xN B n ((xN B n q))))))))))))))))) + 24) 24)) ((xN B n ((xN B n ((xN B n ((xN B n (xN B n ((xN B n (xN B n ((xN B n (xN B n ((xN B n (xN B n ((xN B n ((xN B n q)))))))))))))))))))))) w265307 f265368 ⟨by omega, by omega⟩ ⟨by omega, by omega⟩ ⟨by omega, by omega⟩ ⟨by omega, by omega⟩ ⟨by omega, by omega⟩ ⟨by omega, by omega⟩ ⟨by omega, by omega⟩ ⟨by omega, by omega⟩ a265324 (by omega) (by omega))
                          · have f265371 := f265271.tr f265284 rfl
                            have f265372 := f265272.tr f265284 rfl
                            show wp _ _ 187 154 [(8, vI z265262), (7, vI (-1)), (6, vI z265000), (5, vI z264960), (4, vI z264931), (3, vI z264891), (1, vL (H264813 r0 15)), (0, .ref r0)] [vI z265285] _ H265279 _
                            have u265373 := RO_k a265294
                            refine wp_of e187 c187_154 (rw_goto (p1 := 158) (by decide) ?_)
                            refine wp_of e187 c187_158 (rw_istore (pc' := 160) (z := z265285) (L' := [(9, vI z265285), (8, vI z265262), (7, vI (-1)), (6, vI z265000), (5, vI z264960), (4, vI z264931), (3, vI z264891), (1, vL (H264813 r0 15)), (0, .ref r0)]) rfl rfl rfl ?_)
                            refine wp_of e187 c187_160 (rw_iload (pc' := 162) (z := z265262) rfl rfl ?_)
                            refine wp_of e187 c187_162 (rw_if_eq (p1 := 180) (p2 := 165) (by decide) rfl ⟨by omega, by omega⟩ (fun c265374 => ?_) (fun c265374 => ?_))
                            · exfalso
                              omega
                            · refine wp_of e187 c187_165 (rw_aload_n (pc' := 166) (v := .ref r0) rfl rfl rfl ?_)
                              refine wp_of e187 c187_166 (rw_ldcS (pc' := 168) (k := 87) rfl rfl rfl rfl ?_)
                              refine wp_of e187 c187_168 (rw_iload (pc' := 170) (z := z265285) rfl rfl ?_)
                              refine wp_of e187 c187_170 (rw_iconst (pc' := 171) rfl ?_)
                              refine wp_of e187 c187_171 (rw_iadd (pc' := 172) rfl ?_)
                              refine wp_of e187 c187_172 (rw_bipush (pc' := 174) (z := 24) rfl (by decide) ?_)
                              have k265375 : H265279 r0 5 = H265256 r0 5 := (f265284 r0 5 _ g0 rfl)
                              have q265376 : H265279 r0 5 = (rb : Int) := k265375.trans q265276
                              refine wp_of e187 c187_174 (xc_V (pc' := 177) (r := r0) (as := [.ref 87, vI (z265285 + 1), vI 24]) (st := []) (lm_9_216) rfl rfl (Nat.le_of_ble_eq_true rfl) w265283 g0 sh_42 (by decide) rfl (by decide) (u_182_o (fo := (xh B n ((xN B n ((xN B n (xN B n ((xN B n (xN B n ((xN B n (xN B n ((xN B n (xN B n ((xN B n ((xN B n q)))))))))))))))))) 0 23)) (po := (((xN B n ((xN B n (xN B n ((xN B n (xN B n ((xN B n (xN B n ((xN B n (xN B n ((xN B n ((xN B n q)))))))))))))))))))) (kk := 655) w265283 g0 rfl ⟨by omega, by omega⟩ ⟨by omega, by omega⟩ q265376 grb (by decide +kernel) a265294) (fun R265377 T265378 H265379 p265380 => ?_))
                              obtain ⟨e265381, e265383, z265384, e265382, b265385, p265386⟩ := p265380
                              subst e265381
                              subst e265382
                              subst e265383
                              obtain ⟨a265387, a265388⟩ := p265386
                              show wp _ _ 187 177 [(9, vI z265285), (8, vI z265262), (7, vI (-1)), (6, vI z265000), (5, vI z264960), (4, vI z264931), (3, vI z264891), (1, vL (H264813 r0 15)), (0, .ref r0)] [vI z265384] _ H265279 _
                              have u265389 := RO_k a265388
                              refine wp_of e187 c187_177 (rw_goto (p1 := 181) (by decide) ?_)
                              refine wp_of e187 c187_181 (rw_istore (pc' := 183) (z := z265384) (L' := [(10, vI z265384), (9, vI z265285), (8, vI z265262), (7, vI (-1)), (6, vI z265000), (5, vI z264960), (4, vI z264931), (3, vI z264891), (1, vL (H264813 r0 15)), (0, .ref r0)]) rfl rfl rfl ?_)
                              have o265390 : (xl1 B n q d) = (xh B n ((xN B n ((xN B n (xN B n ((xN B n (xN B n ((xN B n (xN B n ((xN B n (xN B n ((xN B n ((xN B n q)))))))))))))))))) 0 23, ((xN B n ((xN B n (xN B n ((xN B n (xN B n ((xN B n (xN B n ((xN B n (xN B n ((xN B n ((xN B n q)))))))))))))))))), ((xN B n ((xN B n (xN B n ((xN B n (xN B n ((xN B n (xN B n ((xN B n (xN B n ((xN B n ((xN B n q))))))))))))))))))) := by
                                unfold xl1 xper xbd xcs xca xcb xrg
                                try simp only [xs_xs, xs_z]
                                try rw [_ea]
                                try rw [_eb]
                                try rw [_ec]
                                repeat first | rw [xs_0 (by omega)] | rw [xs_1 (by omega)] | rw [if_pos (by omega)] | rw [if_neg (by omega)]
                                first | done | rfl | assumption | (exfalso; omega) | (refine Prod.ext ?_ (Prod.ext ?_ ?_) <;> (try dsimp only) <;> omega)
                              have o265390a : ((xl1 B n q d)).1 = xh B n ((xN B n ((xN B n (xN B n ((xN B n (xN B n ((xN B n (xN B n ((xN B n (xN B n ((xN B n ((xN B n q)))))))))))))))))) 0 23 := by rw [o265390]
                              have o265390b : ((xl1 B n q d)).2.1 = ((xN B n ((xN B n (xN B n ((xN B n (xN B n ((xN B n (xN B n ((xN B n (xN B n ((xN B n ((xN B n q)))))))))))))))))) := by rw [o265390]
                              have o265390c : ((xl1 B n q d)).2.2 = ((xN B n ((xN B n (xN B n ((xN B n (xN B n ((xN B n (xN B n ((xN B n (xN B n ((xN B n ((xN B n q)))))))))))))))))) := by rw [o265390]
                              exact wp_lc (ks := [10, 9, 8, 7, 6, 5, 4, 3, 1, 0]) (wl_c rfl (wl_c rfl (wl_c rfl (wl_c rfl (wl_c rfl (wl_c rfl (wl_c rfl (wl_c rfl (wl_c rfl wl_n))))))))) rfl (by decide) (tl264492 (H264813 r0 15) z264891 z264931 z264960 z265000 (-1) z265285 z265384 H265279 (xh B n ((xN B n ((xN B n (xN B n ((xN B n (xN B n ((xN B n (xN B n ((xN B n (xN B n ((xN B n ((xN B n q)))))))))))))))))) 0 23) (((xN B n ((xN B n (xN B n ((xN B n (xN B n ((xN B n (xN B n ((xN B n (xN B n ((xN B n ((xN B n q))))))))))))))))))) w265283 f265372 ⟨by omega, by omega⟩ ⟨by omega, by omega⟩ ⟨by omega, by omega⟩ ⟨by omega, by omega⟩ ⟨by omega, by omega⟩ ⟨by omega, by omega⟩ ⟨by omega, by omega⟩ ⟨by omega, by omega⟩ a265388 (by omega) (by omega))
                      · have f265391 := f265248.tr f265261 rfl
                        have f265392 := f265249.tr f265261 rfl
                        show wp _ _ 187 140 [(7, vI (-1)), (6, vI z265000), (5, vI z264960), (4, vI z264931), (3, vI z264891), (1, vL (H264813 r0 15)), (0, .ref r0)] [vI z265262] _ H265256 _
                        have u265393 := RC_k a265270
                        refine wp_of e187 c187_140 (rw_istore (pc' := 142) (z := z265262) (L' := [(8, vI z265262), (7, vI (-1)), (6, vI z265000), (5, vI z264960), (4, vI z264931), (3, vI z264891), (1, vL (H264813 r0 15)), (0, .ref r0)]) rfl rfl rfl ?_)
                        refine wp_of e187 c187_142 (rw_iload (pc' := 144) (z := z265262) rfl rfl ?_)
                        refine wp_of e187 c187_144 (rw_if_eq (p1 := 157) (p2 := 147) (by decide) rfl ⟨by omega, by omega⟩ (fun c265394 => ?_) (fun c265394 => ?_))
                        · refine wp_of e187 c187_157 (rw_iconst (pc' := 158) rfl ?_)
                          refine wp_of e187 c187_158 (rw_istore (pc' := 160) (z := 0) (L' := [(9, vI 0), (8, vI z265262), (7, vI (-1)), (6, vI z265000), (5, vI z264960), (4, vI z264931), (3, vI z264891), (1, vL (H264813 r0 15)), (0, .ref r0)]) rfl rfl rfl ?_)
                          refine wp_of e187 c187_160 (rw_iload (pc' := 162) (z := z265262) rfl rfl ?_)
                          refine wp_of e187 c187_162 (rw_if_eq (p1 := 180) (p2 := 165) (by decide) rfl ⟨by omega, by omega⟩ (fun c265395 => ?_) (fun c265395 => ?_))
                          · refine wp_of e187 c187_180 (rw_iconst (pc' := 181) rfl ?_)
                            refine wp_of e187 c187_181 (rw_istore (pc' := 183) (z := 0) (L' := [(10, vI 0), (9, vI 0), (8, vI z265262), (7, vI (-1)), (6, vI z265000), (5, vI z264960), (4, vI z264931), (3, vI z264891), (1, vL (H264813 r0 15)), (0, .ref r0)]) rfl rfl rfl ?_)
                            have _eb : xqb B n ((xN B n (xN B n ((xN B n (xN B n ((xN B n (xN B n ((xN B n (xN B n ((xN B n ((xN B n q)))))))))))))))) = ((xN B n (xN B n ((xN B n (xN B n ((xN B n (xN B n ((xN B n (xN B n ((xN B n ((xN B n q)))))))))))))))) := by
                              unfold xqb
                              first | rw [if_pos (by omega)] | rw [if_neg (by omega)]
                            have _enf : xnf B n ((xN B n (xN B n ((xN B n (xN B n ((xN B n (xN B n ((xN B n (xN B n ((xN B n ((xN B n q)))))))))))))))) = 0 := by
                              unfold xnf
                              first | (rw [if_pos (by omega)] <;> omega) | (rw [if_neg (by omega)] <;> omega)
                            have _ent : xnt B n ((xN B n (xN B n ((xN B n (xN B n ((xN B n (xN B n ((xN B n (xN B n ((xN B n ((xN B n q)))))))))))))))) = 0 := by
                              unfold xnt
                              first | (rw [if_pos (by omega)] <;> omega) | (rw [if_neg (by omega)] <;> omega)
                            refine wp_of e187 c187_183 (rw_aload_n (pc' := 184) (v := .ref r0) rfl rfl rfl ?_)
                            refine wp_of e187 c187_184 (rw_ldcS (pc' := 186) (k := 85) rfl rfl rfl rfl ?_)
                            have k265396 : H265256 r0 5 = H265023 r0 5 := (f265261 r0 5 _ g0 rfl)
                            have q265397 : H265256 r0 5 = (rb : Int) := k265396.trans q265253
                            refine wp_of e187 c187_186 (xc_V (pc' := 189) (r := r0) (as := [.ref 85]) (st := []) (lm_9_240) rfl rfl (Nat.le_of_ble_eq_true rfl) w265260 g0 sh_42 (by decide) rfl (by decide) (u_192_k (B := B) (n := n) (q := ((xN B n (xN B n ((xN B n (xN B n ((xN B n (xN B n ((xN B n (xN B n ((xN B n ((xN B n q))))))))))))))))) (kk := 56377) w265260 g0 rfl q265397 grb (by decide +kernel) a265270) (fun R265398 T265399 H265400 p265401 => ?_))
                            obtain ⟨e265402, w265404, f265405, z265406, e265403, b265407, p265408⟩ := p265401
                            subst e265402
                            subst e265403
                            rcases p265408 with ⟨a265409, a265410, a265411⟩ | ⟨a265412, a265413, a265414⟩
                            · have f265415 := f265391.tr f265405 rfl
                              have f265416 := f265392.tr f265405 rfl
                              show wp _ _ 187 189 [(10, vI 0), (9, vI 0), (8, vI z265262), (7, vI (-1)), (6, vI z265000), (5, vI z264960), (4, vI z264931), (3, vI z264891), (1, vL (H264813 r0 15)), (0, .ref r0)] [vI z265406] _ H265400 _
                              have u265417 := RC_k a265411
                              refine wp_of e187 c187_189 (rw_istore (pc' := 191) (z := z265406) (L' := [(11, vI z265406), (10, vI 0), (9, vI 0), (8, vI z265262), (7, vI (-1)), (6, vI z265000), (5, vI z264960), (4, vI z264931), (3, vI z264891), (1, vL (H264813 r0 15)), (0, .ref r0)]) rfl rfl rfl ?_)
                              have _ec : xqc B n ((xN B n (xN B n ((xN B n (xN B n ((xN B n (xN B n ((xN B n (xN B n ((xN B n ((xN B n q)))))))))))))))) = ((xN B n ((xN B n (xN B n ((xN B n (xN B n ((xN B n (xN B n ((xN B n (xN B n ((xN B n ((xN B n q)))))))))))))))))) := by
                                unfold xqc
                                first | rw [if_pos (by omega)] | rw [if_neg (by omega)]
                              have _ew : xaw B n ((xN B n (xN B n ((xN B n (xN B n ((xN B n (xN B n ((xN B n (xN B n ((xN B n ((xN B n q)))))))))))))))) = z265406 := by
                                unfold xaw
                                first | (rw [if_pos (by omega)] <;> omega) | (rw [if_neg (by omega)] <;> omega)
                              refine wp_of e187 c187_191 (rw_aload_n (pc' := 192) (v := .ref r0) rfl rfl rfl ?_)
                              refine wp_of e187 c187_192 (xg_I (pc' := 195) lf_9_75 w265404 g0 sh_42 (by decide) (by decide) ty_42_9 rfl rfl (fun b265418 b265419 => ?_))
                              refine wp_of e187 c187_195 (rw_iconst (pc' := 196) rfl ?_)
                              refine wp_of e187 c187_196 (rw_icmp_ne (p1 := 200) (p2 := 199) (by decide) rfl ⟨by omega, by omega⟩ ⟨by omega, by omega⟩ (fun c265420 => ?_) (fun c265420 => ?_))
                              · have o265421 : (xl1 B n q d) = (0, (xN B n (xN B n (xN B n (xN B n (xN B n (xN B n (xN B n (xN B n (xN B n (xN B n q)))))))))), (xN B n ((xN B n (xN B n ((xN B n (xN B n ((xN B n (xN B n ((xN B n (xN B n ((xN B n ((xN B n q)))))))))))))))))) := by
                                  unfold xl1 xper xbd xcs xca xcb xrg
                                  try simp only [xs_xs, xs_z]
                                  try rw [_ea]
                                  try rw [_eb]
                                  try rw [_ec]
                                  repeat first | rw [xs_0 (by omega)] | rw [xs_1 (by omega)] | rw [if_pos (by omega)] | rw [if_neg (by omega)]
                                  first | done | rfl | assumption | (exfalso; omega) | (refine Prod.ext ?_ (Prod.ext ?_ ?_) <;> (try dsimp only) <;> omega)
                                have o265421a : ((xl1 B n q d)).1 = 0 := by rw [o265421]
                                have o265421b : ((xl1 B n q d)).2.1 = (xN B n (xN B n (xN B n (xN B n (xN B n (xN B n (xN B n (xN B n (xN B n (xN B n q)))))))))) := by rw [o265421]
                                have o265421c : ((xl1 B n q d)).2.2 = (xN B n ((xN B n (xN B n ((xN B n (xN B n ((xN B n (xN B n ((xN B n (xN B n ((xN B n ((xN B n q))))))))))))))))) := by rw [o265421]
                                have h265422 : DM T H265400 rp r0 d := (DM_fr w265260 grp f265405 rfl (DM_fr w265027 grp f265261 rfl (DM_fr w264998 grp f265028 rfl (DM_fr w264958 grp f264999 rfl (DM_fr w264929 grp f264959 rfl (DM_fr w264889 grp f264930 rfl (DM_fr w264874 grp f264890 rfl (DM_fr w264817 grp f264875 rfl h264848))))))))
                                exact wp_lc (ks := [11, 10, 9, 8, 7, 6, 5, 4, 3, 1, 0]) (wl_c rfl (wl_c rfl (wl_c rfl (wl_c rfl (wl_c rfl (wl_c rfl (wl_c rfl (wl_c rfl (wl_c rfl (wl_c rfl wl_n)))))))))) rfl (by decide) (tl264313 (H264813 r0 15) z264891 z264931 z264960 z265000 (-1) 0 0 z265406 H265400 w265404 f265416 ⟨by omega, by omega⟩ ⟨by omega, by omega⟩ ⟨by omega, by omega⟩ ⟨by omega, by omega⟩ ⟨by omega, by omega⟩ ⟨by omega, by omega⟩ ⟨by omega, by omega⟩ ⟨by omega, by omega⟩ ⟨by omega, by omega⟩ (by rw [show (xl1 B n q d).2.2 = ((xN B n ((xN B n (xN B n ((xN B n (xN B n ((xN B n (xN B n ((xN B n (xN B n ((xN B n ((xN B n q)))))))))))))))))) by omega]; exact a265411) h265422 (by omega) (by omega) (by omega) (by omega) (by omega) (by omega) (by omega) (by omega) (by omega) (by omega) (by omega) (by rw [_ea]; exact _enf) (by rw [_ea]; exact _ent) (by rw [_ea, _eb]; exact _ew) (by omega))
                              · exfalso
                                omega
                            · have f265423 := f265391.tr f265405 rfl
                              have f265424 := f265392.tr f265405 rfl
                              show wp _ _ 187 189 [(10, vI 0), (9, vI 0), (8, vI z265262), (7, vI (-1)), (6, vI z265000), (5, vI z264960), (4, vI z264931), (3, vI z264891), (1, vL (H264813 r0 15)), (0, .ref r0)] [vI z265406] _ H265400 _
                              have u265425 := RC_k a265414
                              refine wp_of e187 c187_189 (rw_istore (pc' := 191) (z := z265406) (L' := [(11, vI z265406), (10, vI 0), (9, vI 0), (8, vI z265262), (7, vI (-1)), (6, vI z265000), (5, vI z264960), (4, vI z264931), (3, vI z264891), (1, vL (H264813 r0 15)), (0, .ref r0)]) rfl rfl rfl ?_)
                              have _ec : xqc B n ((xN B n (xN B n ((xN B n (xN B n ((xN B n (xN B n ((xN B n (xN B n ((xN B n ((xN B n q)))))))))))))))) = ((xN B n (xN B n ((xN B n (xN B n ((xN B n (xN B n ((xN B n (xN B n ((xN B n ((xN B n q)))))))))))))))) := by
                                unfold xqc
                                first | rw [if_pos (by omega)] | rw [if_neg (by omega)]
                              have _ew : xaw B n ((xN B n (xN B n ((xN B n (xN B n ((xN B n (xN B n ((xN B n (xN B n ((xN B n ((xN B n q)))))))))))))))) = z265406 := by
                                unfold xaw
                                first | (rw [if_pos (by omega)] <;> omega) | (rw [if_neg (by omega)] <;> omega)
                              refine wp_of e187 c187_191 (rw_aload_n (pc' := 192) (v := .ref r0) rfl rfl rfl ?_)
                              refine wp_of e187 c187_192 (xg_I (pc' := 195) lf_9_75 w265404 g0 sh_42 (by decide) (by decide) ty_42_9 rfl rfl (fun b265426 b265427 => ?_))
                              refine wp_of e187 c187_195 (rw_iconst (pc' := 196) rfl ?_)
                              refine wp_of e187 c187_196 (rw_icmp_ne (p1 := 200) (p2 := 199) (by decide) rfl ⟨by omega, by omega⟩ ⟨by omega, by omega⟩ (fun c265428 => ?_) (fun c265428 => ?_))
                              · have o265429 : (xl1 B n q d) = (0, (xN B n (xN B n (xN B n (xN B n (xN B n (xN B n (xN B n (xN B n (xN B n (xN B n q)))))))))), (xN B n (xN B n ((xN B n (xN B n ((xN B n (xN B n ((xN B n (xN B n ((xN B n ((xN B n q)))))))))))))))) := by
                                  unfold xl1 xper xbd xcs xca xcb xrg
                                  try simp only [xs_xs, xs_z]
                                  try rw [_ea]
                                  try rw [_eb]
                                  try rw [_ec]
                                  repeat first | rw [xs_0 (by omega)] | rw [xs_1 (by omega)] | rw [if_pos (by omega)] | rw [if_neg (by omega)]
                                  first | done | rfl | assumption | (exfalso; omega) | (refine Prod.ext ?_ (Prod.ext ?_ ?_) <;> (try dsimp only) <;> omega)
                                have o265429a : ((xl1 B n q d)).1 = 0 := by rw [o265429]
                                have o265429b : ((xl1 B n q d)).2.1 = (xN B n (xN B n (xN B n (xN B n (xN B n (xN B n (xN B n (xN B n (xN B n (xN B n q)))))))))) := by rw [o265429]
                                have o265429c : ((xl1 B n q d)).2.2 = (xN B n (xN B n ((xN B n (xN B n ((xN B n (xN B n ((xN B n (xN B n ((xN B n ((xN B n q))))))))))))))) := by rw [o265429]
                                have h265430 : DM T H265400 rp r0 d := (DM_fr w265260 grp f265405 rfl (DM_fr w265027 grp f265261 rfl (DM_fr w264998 grp f265028 rfl (DM_fr w264958 grp f264999 rfl (DM_fr w264929 grp f264959 rfl (DM_fr w264889 grp f264930 rfl (DM_fr w264874 grp f264890 rfl (DM_fr w264817 grp f264875 rfl h264848))))))))
                                exact wp_lc (ks := [11, 10, 9, 8, 7, 6, 5, 4, 3, 1, 0]) (wl_c rfl (wl_c rfl (wl_c rfl (wl_c rfl (wl_c rfl (wl_c rfl (wl_c rfl (wl_c rfl (wl_c rfl (wl_c rfl wl_n)))))))))) rfl (by decide) (tl264313 (H264813 r0 15) z264891 z264931 z264960 z265000 (-1) 0 0 z265406 H265400 w265404 f265424 ⟨by omega, by omega⟩ ⟨by omega, by omega⟩ ⟨by omega, by omega⟩ ⟨by omega, by omega⟩ ⟨by omega, by omega⟩ ⟨by omega, by omega⟩ ⟨by omega, by omega⟩ ⟨by omega, by omega⟩ ⟨by omega, by omega⟩ (by rw [show (xl1 B n q d).2.2 = ((xN B n (xN B n ((xN B n (xN B n ((xN B n (xN B n ((xN B n (xN B n ((xN B n ((xN B n q)))))))))))))))) by omega]; exact a265414) h265430 (by omega) (by omega) (by omega) (by omega) (by omega) (by omega) (by omega) (by omega) (by omega) (by omega) (by omega) (by rw [_ea]; exact _enf) (by rw [_ea]; exact _ent) (by rw [_ea, _eb]; exact _ew) (by omega))
                              · exfalso
                                omega
                          · exfalso
                            omega
                        · exfalso
                          omega
                    · exfalso
                      omega
                · have f265431 := f264976.tr f264999 rfl
                  have f265432 := f264977.tr f264999 rfl
                  show wp _ _ 187 110 [(5, vI z264960), (4, vI z264931), (3, vI z264891), (1, vL (H264813 r0 15)), (0, .ref r0)] [vI z265000] _ H264994 _
                  have u265433 := RO_k a265011
                  refine wp_of e187 c187_110 (rw_istore (pc' := 112) (z := z265000) (L' := [(6, vI z265000), (5, vI z264960), (4, vI z264931), (3, vI z264891), (1, vL (H264813 r0 15)), (0, .ref r0)]) rfl rfl rfl ?_)
                  have o265434 : (xl1 B n q d) = (xw B n ((xN B n (xN B n ((xN B n (xN B n ((xN B n (xN B n ((xN B n ((xN B n q))))))))))))) 655, ((xN B n (xN B n ((xN B n (xN B n ((xN B n (xN B n ((xN B n ((xN B n q))))))))))))), ((xN B n (xN B n ((xN B n (xN B n ((xN B n (xN B n ((xN B n ((xN B n q)))))))))))))) := by
                    unfold xl1 xper xbd xcs xca xcb xrg
                    try simp only [xs_xs, xs_z]
                    try rw [_ea]
                    try rw [_eb]
                    try rw [_ec]
                    repeat first | rw [xs_0 (by omega)] | rw [xs_1 (by omega)] | rw [if_pos (by omega)] | rw [if_neg (by omega)]
                    first | done | rfl | assumption | (exfalso; omega) | (refine Prod.ext ?_ (Prod.ext ?_ ?_) <;> (try dsimp only) <;> omega)
                  have o265434a : ((xl1 B n q d)).1 = xw B n ((xN B n (xN B n ((xN B n (xN B n ((xN B n (xN B n ((xN B n ((xN B n q))))))))))))) 655 := by rw [o265434]
                  have o265434b : ((xl1 B n q d)).2.1 = ((xN B n (xN B n ((xN B n (xN B n ((xN B n (xN B n ((xN B n ((xN B n q))))))))))))) := by rw [o265434]
                  have o265434c : ((xl1 B n q d)).2.2 = ((xN B n (xN B n ((xN B n (xN B n ((xN B n (xN B n ((xN B n ((xN B n q))))))))))))) := by rw [o265434]
                  exact wp_lc (ks := [6, 5, 4, 3, 1, 0]) (wl_c rfl (wl_c rfl (wl_c rfl (wl_c rfl (wl_c rfl (wl_c rfl wl_n)))))) rfl (by decide) (tl264574 (H264813 r0 15) z264891 z264931 z264960 z265000 H264994 (xw B n ((xN B n (xN B n ((xN B n (xN B n ((xN B n (xN B n ((xN B n ((xN B n q))))))))))))) 655) (((xN B n (xN B n ((xN B n (xN B n ((xN B n (xN B n ((xN B n ((xN B n q)))))))))))))) w264998 f265432 ⟨by omega, by omega⟩ ⟨by omega, by omega⟩ ⟨by omega, by omega⟩ ⟨by omega, by omega⟩ ⟨by omega, by omega⟩ a265011 (by omega) (by omega))
                · have f265435 := f264976.tr f264999 rfl
                  have f265436 := f264977.tr f264999 rfl
                  show wp _ _ 187 110 [(5, vI z264960), (4, vI z264931), (3, vI z264891), (1, vL (H264813 r0 15)), (0, .ref r0)] [vI z265000] _ H264994 _
                  have u265437 := RO_k a265015
                  refine wp_of e187 c187_110 (rw_istore (pc' := 112) (z := z265000) (L' := [(6, vI z265000), (5, vI z264960), (4, vI z264931), (3, vI z264891), (1, vL (H264813 r0 15)), (0, .ref r0)]) rfl rfl rfl ?_)
                  have o265438 : (xl1 B n q d) = (xh B n (xN B n ((xN B n (xN B n ((xN B n (xN B n ((xN B n (xN B n ((xN B n ((xN B n q)))))))))))))) (xV B n (xN B n (xN B n (xN B n (xN B n (xN B n (xN B n (xN B n q))))))) + 0) (min (xV B n (xN B n (xN B n (xN B n (xN B n (xN B n (xN B n (xN B n q))))))) + 4) 12), (xN B n ((xN B n (xN B n ((xN B n (xN B n ((xN B n (xN B n ((xN B n ((xN B n q)))))))))))))), (xN B n ((xN B n (xN B n ((xN B n (xN B n ((xN B n (xN B n ((xN B n ((xN B n q))))))))))))))) := by
                    unfold xl1 xper xbd xcs xca xcb xrg
                    try simp only [xs_xs, xs_z]
                    try rw [_ea]
                    try rw [_eb]
                    try rw [_ec]
                    repeat first | rw [xs_0 (by omega)] | rw [xs_1 (by omega)] | rw [if_pos (by omega)] | rw [if_neg (by omega)]
                    first | done | rfl | assumption | (exfalso; omega) | (refine Prod.ext ?_ (Prod.ext ?_ ?_) <;> (try dsimp only) <;> omega)
                  have o265438a : ((xl1 B n q d)).1 = xh B n (xN B n ((xN B n (xN B n ((xN B n (xN B n ((xN B n (xN B n ((xN B n ((xN B n q)))))))))))))) (xV B n (xN B n (xN B n (xN B n (xN B n (xN B n (xN B n (xN B n q))))))) + 0) (min (xV B n (xN B n (xN B n (xN B n (xN B n (xN B n (xN B n (xN B n q))))))) + 4) 12) := by rw [o265438]
                  have o265438b : ((xl1 B n q d)).2.1 = (xN B n ((xN B n (xN B n ((xN B n (xN B n ((xN B n (xN B n ((xN B n ((xN B n q)))))))))))))) := by rw [o265438]
                  have o265438c : ((xl1 B n q d)).2.2 = (xN B n ((xN B n (xN B n ((xN B n (xN B n ((xN B n (xN B n ((xN B n ((xN B n q)))))))))))))) := by rw [o265438]
                  exact wp_lc (ks := [6, 5, 4, 3, 1, 0]) (wl_c rfl (wl_c rfl (wl_c rfl (wl_c rfl (wl_c rfl (wl_c rfl wl_n)))))) rfl (by decide) (tl264574 (H264813 r0 15) z264891 z264931 z264960 z265000 H264994 (xh B n (xN B n ((xN B n (xN B n ((xN B n (xN B n ((xN B n (xN B n ((xN B n ((xN B n q)))))))))))))) (xV B n (xN B n (xN B n (xN B n (xN B n (xN B n (xN B n (xN B n q))))))) + 0) (min (xV B n (xN B n (xN B n (xN B n (xN B n (xN B n (xN B n (xN B n q))))))) + 4) 12)) ((xN B n ((xN B n (xN B n ((xN B n (xN B n ((xN B n (xN B n ((xN B n ((xN B n q))))))))))))))) w264998 f265436 ⟨by omega, by omega⟩ ⟨by omega, by omega⟩ ⟨by omega, by omega⟩ ⟨by omega, by omega⟩ ⟨by omega, by omega⟩ a265015 (by omega) (by omega))
              · have f265439 := f264947.tr f264959 rfl
                have f265440 := f264948.tr f264959 rfl
                show wp _ _ 187 91 [(4, vI z264931), (3, vI z264891), (1, vL (H264813 r0 15)), (0, .ref r0)] [vI z264960] _ H264954 _
                have u265441 := RO_k a264971
                refine wp_of e187 c187_91 (rw_istore (pc' := 93) (z := z264960) (L' := [(5, vI z264960), (4, vI z264931), (3, vI z264891), (1, vL (H264813 r0 15)), (0, .ref r0)]) rfl rfl rfl ?_)
                have o265442 : (xl1 B n q d) = (xw B n ((xN B n (xN B n ((xN B n (xN B n ((xN B n ((xN B n q)))))))))) 409031, ((xN B n (xN B n ((xN B n (xN B n ((xN B n ((xN B n q)))))))))), ((xN B n (xN B n ((xN B n (xN B n ((xN B n ((xN B n q))))))))))) := by
                  unfold xl1 xper xbd xcs xca xcb xrg
                  try simp only [xs_xs, xs_z]
                  try rw [_ea]
                  try rw [_eb]
                  try rw [_ec]
                  repeat first | rw [xs_0 (by omega)] | rw [xs_1 (by omega)] | rw [if_pos (by omega)] | rw [if_neg (by omega)]
                  first | done | rfl | assumption | (exfalso; omega) | (refine Prod.ext ?_ (Prod.ext ?_ ?_) <;> (try dsimp only) <;> omega)
                have o265442a : ((xl1 B n q d)).1 = xw B n ((xN B n (xN B n ((xN B n (xN B n ((xN B n ((xN B n q)))))))))) 409031 := by rw [o265442]
                have o265442b : ((xl1 B n q d)).2.1 = ((xN B n (xN B n ((xN B n (xN B n ((xN B n ((xN B n q)))))))))) := by rw [o265442]
                have o265442c : ((xl1 B n q d)).2.2 = ((xN B n (xN B n ((xN B n (xN B n ((xN B n ((xN B n q)))))))))) := by rw [o265442]
                exact wp_lc (ks := [5, 4, 3, 1, 0]) (wl_c rfl (wl_c rfl (wl_c rfl (wl_c rfl (wl_c rfl wl_n))))) rfl (by decide) (tl264610 (H264813 r0 15) z264891 z264931 z264960 H264954 (xw B n ((xN B n (xN B n ((xN B n (xN B n ((xN B n ((xN B n q)))))))))) 409031) (((xN B n (xN B n ((xN B n (xN B n ((xN B n ((xN B n q))))))))))) w264958 f265440 ⟨by omega, by omega⟩ ⟨by omega, by omega⟩ ⟨by omega, by omega⟩ ⟨by omega, by omega⟩ a264971 (by omega) (by omega))
              · have f265443 := f264947.tr f264959 rfl
                have f265444 := f264948.tr f264959 rfl
                show wp _ _ 187 91 [(4, vI z264931), (3, vI z264891), (1, vL (H264813 r0 15)), (0, .ref r0)] [vI z264960] _ H264954 _
                have u265445 := RO_k a264975
                refine wp_of e187 c187_91 (rw_istore (pc' := 93) (z := z264960) (L' := [(5, vI z264960), (4, vI z264931), (3, vI z264891), (1, vL (H264813 r0 15)), (0, .ref r0)]) rfl rfl rfl ?_)
                have o265446 : (xl1 B n q d) = (xh B n (xN B n ((xN B n (xN B n ((xN B n (xN B n ((xN B n ((xN B n q))))))))))) 0 12, (xN B n ((xN B n (xN B n ((xN B n (xN B n ((xN B n ((xN B n q))))))))))), (xN B n ((xN B n (xN B n ((xN B n (xN B n ((xN B n ((xN B n q)))))))))))) := by
                  unfold xl1 xper xbd xcs xca xcb xrg
                  try simp only [xs_xs, xs_z]
                  try rw [_ea]
                  try rw [_eb]
                  try rw [_ec]
                  repeat first | rw [xs_0 (by omega)] | rw [xs_1 (by omega)] | rw [if_pos (by omega)] | rw [if_neg (by omega)]
                  first | done | rfl | assumption | (exfalso; omega) | (refine Prod.ext ?_ (Prod.ext ?_ ?_) <;> (try dsimp only) <;> omega)
                have o265446a : ((xl1 B n q d)).1 = xh B n (xN B n ((xN B n (xN B n ((xN B n (xN B n ((xN B n ((xN B n q))))))))))) 0 12 := by rw [o265446]
                have o265446b : ((xl1 B n q d)).2.1 = (xN B n ((xN B n (xN B n ((xN B n (xN B n ((xN B n ((xN B n q))))))))))) := by rw [o265446]
                have o265446c : ((xl1 B n q d)).2.2 = (xN B n ((xN B n (xN B n ((xN B n (xN B n ((xN B n ((xN B n q))))))))))) := by rw [o265446]
                exact wp_lc (ks := [5, 4, 3, 1, 0]) (wl_c rfl (wl_c rfl (wl_c rfl (wl_c rfl (wl_c rfl wl_n))))) rfl (by decide) (tl264610 (H264813 r0 15) z264891 z264931 z264960 H264954 (xh B n (xN B n ((xN B n (xN B n ((xN B n (xN B n ((xN B n ((xN B n q))))))))))) 0 12) ((xN B n ((xN B n (xN B n ((xN B n (xN B n ((xN B n ((xN B n q)))))))))))) w264958 f265444 ⟨by omega, by omega⟩ ⟨by omega, by omega⟩ ⟨by omega, by omega⟩ ⟨by omega, by omega⟩ a264975 (by omega) (by omega))
            · have f265447 := f264907.tr f264930 rfl
              have f265448 := f264908.tr f264930 rfl
              show wp _ _ 187 80 [(3, vI z264891), (1, vL (H264813 r0 15)), (0, .ref r0)] [vI z264931] _ H264925 _
              have u265449 := RO_k a264942
              refine wp_of e187 c187_80 (rw_istore (pc' := 82) (z := z264931) (L' := [(4, vI z264931), (3, vI z264891), (1, vL (H264813 r0 15)), (0, .ref r0)]) rfl rfl rfl ?_)
              have o265450 : (xl1 B n q d) = (xw B n ((xN B n (xN B n ((xN B n ((xN B n q))))))) 655, ((xN B n (xN B n ((xN B n ((xN B n q))))))), ((xN B n (xN B n ((xN B n ((xN B n q)))))))) := by
                unfold xl1 xper xbd xcs xca xcb xrg
                try simp only [xs_xs, xs_z]
                try rw [_ea]
                try rw [_eb]
                try rw [_ec]
                repeat first | rw [xs_0 (by omega)] | rw [xs_1 (by omega)] | rw [if_pos (by omega)] | rw [if_neg (by omega)]
                first | done | rfl | assumption | (exfalso; omega) | (refine Prod.ext ?_ (Prod.ext ?_ ?_) <;> (try dsimp only) <;> omega)
              have o265450a : ((xl1 B n q d)).1 = xw B n ((xN B n (xN B n ((xN B n ((xN B n q))))))) 655 := by rw [o265450]
              have o265450b : ((xl1 B n q d)).2.1 = ((xN B n (xN B n ((xN B n ((xN B n q))))))) := by rw [o265450]
              have o265450c : ((xl1 B n q d)).2.2 = ((xN B n (xN B n ((xN B n ((xN B n q))))))) := by rw [o265450]
              exact wp_lc (ks := [4, 3, 1, 0]) (wl_c rfl (wl_c rfl (wl_c rfl (wl_c rfl wl_n)))) rfl (by decide) (tl264654 (H264813 r0 15) z264891 z264931 H264925 (xw B n ((xN B n (xN B n ((xN B n ((xN B n q))))))) 655) (((xN B n (xN B n ((xN B n ((xN B n q)))))))) w264929 f265448 ⟨by omega, by omega⟩ ⟨by omega, by omega⟩ ⟨by omega, by omega⟩ a264942 (by omega) (by omega))
            · have f265451 := f264907.tr f264930 rfl
              have f265452 := f264908.tr f264930 rfl
              show wp _ _ 187 80 [(3, vI z264891), (1, vL (H264813 r0 15)), (0, .ref r0)] [vI z264931] _ H264925 _
              have u265453 := RO_k a264946
              refine wp_of e187 c187_80 (rw_istore (pc' := 82) (z := z264931) (L' := [(4, vI z264931), (3, vI z264891), (1, vL (H264813 r0 15)), (0, .ref r0)]) rfl rfl rfl ?_)
              have o265454 : (xl1 B n q d) = (xh B n (xN B n ((xN B n (xN B n ((xN B n ((xN B n q)))))))) (xV B n (xN B n (xN B n (xN B n q))) + 0) (min (xV B n (xN B n (xN B n (xN B n q))) + 7) 23), (xN B n ((xN B n (xN B n ((xN B n ((xN B n q)))))))), (xN B n ((xN B n (xN B n ((xN B n ((xN B n q))))))))) := by
                unfold xl1 xper xbd xcs xca xcb xrg
                try simp only [xs_xs, xs_z]
                try rw [_ea]
                try rw [_eb]
                try rw [_ec]
                repeat first | rw [xs_0 (by omega)] | rw [xs_1 (by omega)] | rw [if_pos (by omega)] | rw [if_neg (by omega)]
                first | done | rfl | assumption | (exfalso; omega) | (refine Prod.ext ?_ (Prod.ext ?_ ?_) <;> (try dsimp only) <;> omega)
              have o265454a : ((xl1 B n q d)).1 = xh B n (xN B n ((xN B n (xN B n ((xN B n ((xN B n q)))))))) (xV B n (xN B n (xN B n (xN B n q))) + 0) (min (xV B n (xN B n (xN B n (xN B n q))) + 7) 23) := by rw [o265454]
              have o265454b : ((xl1 B n q d)).2.1 = (xN B n ((xN B n (xN B n ((xN B n ((xN B n q)))))))) := by rw [o265454]
              have o265454c : ((xl1 B n q d)).2.2 = (xN B n ((xN B n (xN B n ((xN B n ((xN B n q)))))))) := by rw [o265454]
              exact wp_lc (ks := [4, 3, 1, 0]) (wl_c rfl (wl_c rfl (wl_c rfl (wl_c rfl wl_n)))) rfl (by decide) (tl264654 (H264813 r0 15) z264891 z264931 H264925 (xh B n (xN B n ((xN B n (xN B n ((xN B n ((xN B n q)))))))) (xV B n (xN B n (xN B n (xN B n q))) + 0) (min (xV B n (xN B n (xN B n (xN B n q))) + 7) 23)) ((xN B n ((xN B n (xN B n ((xN B n ((xN B n q))))))))) w264929 f265452 ⟨by omega, by omega⟩ ⟨by omega, by omega⟩ ⟨by omega, by omega⟩ a264946 (by omega) (by omega))
          · have f265455 := f264878.tr f264890 rfl
            have f265456 := f264879.tr f264890 rfl
            show wp _ _ 187 63 [(1, vL (H264813 r0 15)), (0, .ref r0)] [vI z264891] _ H264885 _
            have u265457 := RO_k a264902
            refine wp_of e187 c187_63 (rw_istore_n (pc' := 64) (z := z264891) (L' := [(3, vI z264891), (1, vL (H264813 r0 15)), (0, .ref r0)]) rfl rfl rfl ?_)
            have o265458 : (xl1 B n q d) = (xw B n ((xN B n ((xN B n q)))) 2212, ((xN B n ((xN B n q)))), ((xN B n ((xN B n q))))) := by
              unfold xl1 xper xbd xcs xca xcb xrg
              try simp only [xs_xs, xs_z]
              try rw [_ea]
              try rw [_eb]
              try rw [_ec]
              repeat first | rw [xs_0 (by omega)] | rw [xs_1 (by omega)] | rw [if_pos (by omega)] | rw [if_neg (by omega)]
              first | done | rfl | assumption | (exfalso; omega) | (refine Prod.ext ?_ (Prod.ext ?_ ?_) <;> (try dsimp only) <;> omega)
            have o265458a : ((xl1 B n q d)).1 = xw B n ((xN B n ((xN B n q)))) 2212 := by rw [o265458]
            have o265458b : ((xl1 B n q d)).2.1 = ((xN B n ((xN B n q)))) := by rw [o265458]
            have o265458c : ((xl1 B n q d)).2.2 = ((xN B n ((xN B n q)))) := by rw [o265458]
            exact wp_lc (ks := [3, 1, 0]) (wl_c rfl (wl_c rfl (wl_c rfl wl_n))) rfl (by decide) (tl264685 (H264813 r0 15) z264891 H264885 (xw B n ((xN B n ((xN B n q)))) 2212) (((xN B n ((xN B n q))))) w264889 f265456 ⟨by omega, by omega⟩ ⟨by omega, by omega⟩ a264902 (by omega) (by omega))
          · have f265459 := f264878.tr f264890 rfl
            have f265460 := f264879.tr f264890 rfl
            show wp _ _ 187 63 [(1, vL (H264813 r0 15)), (0, .ref r0)] [vI z264891] _ H264885 _
            have u265461 := RO_k a264906
            refine wp_of e187 c187_63 (rw_istore_n (pc' := 64) (z := z264891) (L' := [(3, vI z264891), (1, vL (H264813 r0 15)), (0, .ref r0)]) rfl rfl rfl ?_)
            have o265462 : (xl1 B n q d) = (xh B n (xN B n ((xN B n ((xN B n q))))) 0 23, (xN B n ((xN B n ((xN B n q))))), (xN B n ((xN B n ((xN B n q)))))) := by
              unfold xl1 xper xbd xcs xca xcb xrg
              try simp only [xs_xs, xs_z]
              try rw [_ea]
              try rw [_eb]
              try rw [_ec]
              repeat first | rw [xs_0 (by omega)] | rw [xs_1 (by omega)] | rw [if_pos (by omega)] | rw [if_neg (by omega)]
              first | done | rfl | assumption | (exfalso; omega) | (refine Prod.ext ?_ (Prod.ext ?_ ?_) <;> (try dsimp only) <;> omega)
            have o265462a : ((xl1 B n q d)).1 = xh B n (xN B n ((xN B n ((xN B n q))))) 0 23 := by rw [o265462]
            have o265462b : ((xl1 B n q d)).2.1 = (xN B n ((xN B n ((xN B n q))))) := by rw [o265462]
            have o265462c : ((xl1 B n q d)).2.2 = (xN B n ((xN B n ((xN B n q))))) := by rw [o265462]
            exact wp_lc (ks := [3, 1, 0]) (wl_c rfl (wl_c rfl (wl_c rfl wl_n))) rfl (by decide) (tl264685 (H264813 r0 15) z264891 H264885 (xh B n (xN B n ((xN B n ((xN B n q))))) 0 23) ((xN B n ((xN B n ((xN B n q)))))) w264889 f265460 ⟨by omega, by omega⟩ ⟨by omega, by omega⟩ a264906 (by omega) (by omega))
        · refine wp_of e187 c187_40 (rw_aload_n (pc' := 41) (v := .ref r0) rfl rfl rfl ?_)
          refine wp_of e187 c187_41 (rw_iconst (pc' := 42) rfl ?_)
          refine wp_of e187 c187_42 (xc_V (pc' := 45) (r := r0) (as := [vI 3]) (st := []) (lm_9_121) rfl rfl (Nat.le_of_ble_eq_true rfl) w264817 g0 sh_42 (by decide) rfl (by decide) (u_181_k (B := B) (n := n) (q := ((xN B n q))) w264817 g0 ⟨by omega, by omega⟩ (by omega) a264821) (fun R265463 T265464 H265465 p265466 => ?_))
          obtain ⟨e265467, w265469, f265470, e265468, p265471⟩ := p265466
          subst e265467
          subst e265468
          have f265473 := f264824.tr f265470 rfl
          have f265474 := f264825.tr f265470 rfl
          show wp _ _ 187 45 [(0, .ref r0)] [] _ H265465 _
          have u265475 := RO_k p265471
          have o265476 : (xl1 B n q d) = (xnm B n (xN B n q) d, (xN B n q), (xN B n q)) := by
            unfold xl1 xper xbd xcs xca xcb xrg
            try simp only [xs_xs, xs_z]
            try rw [_ea]
            try rw [_eb]
            try rw [_ec]
            repeat first | rw [xs_0 (by omega)] | rw [xs_1 (by omega)] | rw [if_pos (by omega)] | rw [if_neg (by omega)]
            first | done | rfl | assumption | (exfalso; omega) | (refine Prod.ext ?_ (Prod.ext ?_ ?_) <;> (try dsimp only) <;> omega)
          have o265476a : ((xl1 B n q d)).1 = xnm B n (xN B n q) d := by rw [o265476]
          have o265476b : ((xl1 B n q d)).2.1 = (xN B n q) := by rw [o265476]
          have o265476c : ((xl1 B n q d)).2.2 = (xN B n q) := by rw [o265476]
          exact wp_lc (ks := [0]) (wl_c rfl wl_n) rfl (by decide) (tl264752 H265465 3 (((xN B n q))) w265469 f265474 p265471 (by omega) (by omega))
      · exfalso
        omega
    · show wp _ _ 187 17 [(0, .ref r0)] [vI z264834] _ H264813 _
      refine wp_of e187 c187_17 (rw_if_ne (p1 := 25) (p2 := 20) (by decide) rfl ⟨by omega, by omega⟩ (fun c265477 => ?_) (fun c265477 => ?_))
      · exfalso
        omega
      · refine wp_of e187 c187_20 (rw_aload_n (pc' := 21) (v := .ref r0) rfl rfl rfl ?_)
        refine wp_of e187 c187_21 (rw_iconst (pc' := 22) rfl ?_)
        refine wp_of e187 c187_22 (xc_V (pc' := 25) (r := r0) (as := [vI 1]) (st := []) (lm_9_121) rfl rfl (Nat.le_of_ble_eq_true rfl) w264817 g0 sh_42 (by decide) rfl (by decide) (u_181_k (B := B) (n := n) (q := ((xN B n q))) w264817 g0 ⟨by omega, by omega⟩ (by omega) a264821) (fun R265478 T265479 H265480 p265481 => ?_))
        obtain ⟨e265482, w265484, f265485, e265483, p265486⟩ := p265481
        subst e265482
        subst e265483
        have f265488 := f264824.tr f265485 rfl
        have f265489 := f264825.tr f265485 rfl
        show wp _ _ 187 25 [(0, .ref r0)] [] _ H265480 _
        have u265490 := RO_k p265486
        have o265491 : (xl1 B n q d) = (xnm B n (xN B n q) d, (xN B n q), (xN B n q)) := by
          unfold xl1 xper xbd xcs xca xcb xrg
          try simp only [xs_xs, xs_z]
          try rw [_ea]
          try rw [_eb]
          try rw [_ec]
          repeat first | rw [xs_0 (by omega)] | rw [xs_1 (by omega)] | rw [if_pos (by omega)] | rw [if_neg (by omega)]
          first | done | rfl | assumption | (exfalso; omega) | (refine Prod.ext ?_ (Prod.ext ?_ ?_) <;> (try dsimp only) <;> omega)
        have o265491a : ((xl1 B n q d)).1 = xnm B n (xN B n q) d := by rw [o265491]
        have o265491b : ((xl1 B n q d)).2.1 = (xN B n q) := by rw [o265491]
        have o265491c : ((xl1 B n q d)).2.2 = (xN B n q) := by rw [o265491]
        exact wp_lc (ks := [0]) (wl_c rfl wl_n) rfl (by decide) (tl264775 H265480 1 (((xN B n q))) w265484 f265489 p265486 (by omega) (by omega))
  · have f265492 := f0.tr f264818 rfl
    have f265493 := f0s.tr f264818 rfl
    show wp _ _ 187 13 [(0, .ref r0)] [] _ H264813 _
    have u265494 := RO_k a264823
    refine wp_of e187 c187_13 (rw_aload_n (pc' := 14) (v := .ref r0) rfl rfl rfl ?_)
    refine wp_of e187 c187_14 (xc_V (pc' := 17) (r := r0) (as := []) (st := []) (lm_9_162) rfl rfl (Nat.le_of_ble_eq_true rfl) w264817 g0 sh_42 (by decide) rfl (by decide) (u_189_o (fo := 5) (po := q) w264817 g0 a264823) (fun R265495 T265496 H265497 p265498 => ?_))
    obtain ⟨e265499, e265501, z265502, e265500, b265503, p265504⟩ := p265498
    subst e265499
    subst e265500
    subst e265501
    show wp _ _ 187 17 [(0, .ref r0)] [vI z265502] _ H264813 _
    refine wp_of e187 c187_17 (rw_if_ne (p1 := 25) (p2 := 20) (by decide) rfl ⟨by omega, by omega⟩ (fun c265506 => ?_) (fun c265506 => ?_))
    · exfalso
      omega
    · refine wp_of e187 c187_20 (rw_aload_n (pc' := 21) (v := .ref r0) rfl rfl rfl ?_)
      refine wp_of e187 c187_21 (rw_iconst (pc' := 22) rfl ?_)
      refine wp_of e187 c187_22 (xc_V (pc' := 25) (r := r0) (as := [vI 1]) (st := []) (lm_9_121) rfl rfl (Nat.le_of_ble_eq_true rfl) w264817 g0 sh_42 (by decide) rfl (by decide) (u_181_o (fo := 5) (po := q) w264817 g0 ⟨by omega, by omega⟩ a264823) (fun R265507 T265508 H265509 p265510 => ?_))
      obtain ⟨e265511, e265513, e265512, p265514⟩ := p265510
      subst e265511
      subst e265512
      subst e265513
      show wp _ _ 187 25 [(0, .ref r0)] [] _ H264813 _
      have u265516 := RO_k p265514
      have o265517 : (xl1 B n q d) = (5, q, q) := by
        unfold xl1 xper xbd xcs xca xcb xrg
        try simp only [xs_xs, xs_z]
        try rw [_ea]
        try rw [_eb]
        try rw [_ec]
        repeat first | rw [xs_0 (by omega)] | rw [xs_1 (by omega)] | rw [if_pos (by omega)] | rw [if_neg (by omega)]
        first | done | rfl | assumption | (exfalso; omega) | (refine Prod.ext ?_ (Prod.ext ?_ ?_) <;> (try dsimp only) <;> omega)
      have o265517a : ((xl1 B n q d)).1 = 5 := by rw [o265517]
      have o265517b : ((xl1 B n q d)).2.1 = q := by rw [o265517]
      have o265517c : ((xl1 B n q d)).2.2 = q := by rw [o265517]
      exact wp_lc (ks := [0]) (wl_c rfl wl_n) rfl (by decide) (tl264775 H264813 5 q w264817 f265493 p265514 (by omega) (by omega))
