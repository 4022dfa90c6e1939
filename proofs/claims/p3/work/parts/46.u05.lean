/-! what methods do (own work, written by wip/gen3/sx3.py) -/
/-! StrikeAwakeModel.readPerson()V k -/
abbrev uq_187_k (r0 : Nat) (rp : Nat) (rb : Nat) (B : Nat → Int) (n : Int) (q : Int) (d : xD) (T : wq_T) (H : wq_H) : Option Value → wq_T → wq_H → Prop := fun r T' H' => T = T' ∧ WT T H' ∧ wfr [(54, 3), (42, 8), (42, 9), (42, 10), (42, 11), (42, 12), (42, 13), (42, 14), (42, 15), (56, 999), (57, 999), (60, 999), (63, 999), (58, 999), (59, 999), (55, 999), (61, 999), (62, 999)] T H H' ∧ none = r ∧ ((((xl1 B n q d).1 = 0) ∧ (q ≤ (xl1 B n q d).2.2) ∧ (∀ a, a ≠ rp → T.2.2.2 a = some 54 → H' a 3 = H a 3) ∧ RC T H' r0 B n (xl1 B n q d).2.2 ∧ DM T H' rp r0 (xdper B n (xN B n q) d)) ∨ (((xl1 B n q d).1 ≠ 0) ∧ (∀ a, a ≠ rp → T.2.2.2 a = some 54 → H' a 3 = H a 3) ∧ RO T H' r0 ((xl1 B n q d).1) ((xl1 B n q d).2.1)))
set_option maxHeartbeats 60000000 in
theorem u_187_k_t200k {kt : Nat → Option mc_E} {T : wq_T} {H : wq_H} {r0 : Nat} {rp : Nat} {rb : Nat} {B : Nat → Int} {n : Int} {q : Int} {d : xD} (hW : WT T H) (g0 : T.2.2.2 r0 = some 42) (qrp : H r0 4 = (rp : Int)) (grp : T.2.2.2 rp = some 54) (qrb : H r0 5 = (rb : Int)) (grb : T.2.2.2 rb = some 43) (p0 : xK B n q = 1) (hRC_r0 : RC T H r0 B n q) (hDM_rp : DM T H rp r0 d) : ∀ (v264320 : Int) (v264321 : Int) (v264322 : Int) (v264323 : Int) (v264324 : Int) (v264325 : Int) (v264326 : Int) (v264327 : Int) (v264328 : Int) (H264329 : wq_H), WT T H264329 → wfr [(42, 8), (42, 9), (42, 10), (42, 11), (42, 12), (42, 13), (42, 14), (42, 15)] T H H264329 → ((-9223372036854775808) ≤ v264320 ∧ v264320 ≤ 9223372036854775807) → (0 ≤ v264321 ∧ v264321 ≤ 23) → (0 ≤ v264322 ∧ v264322 ≤ 30) → (0 ≤ v264323 ∧ v264323 ≤ 12) → (0 ≤ v264324 ∧ v264324 ≤ 16) → ((-1) ≤ v264325 ∧ v264325 ≤ 23) → (0 ≤ v264326 ∧ v264326 ≤ 23) → (0 ≤ v264327 ∧ v264327 ≤ 24) → (0 ≤ v264328 ∧ v264328 ≤ 1) → RC T H264329 r0 B n (xl1 B n q d).2.2 → DM T H264329 rp r0 d → ((xl1 B n q d).1 = 0) → (q ≤ (xl1 B n q d).2.2) → (v264320 = xY B n (xN B n q)) → (v264321 = xV B n (xN B n (xN B n (xN B n q)))) → (v264322 = xV B n (xN B n (xN B n (xN B n (xN B n (xN B n q)))))) → (v264323 = xV B n (xN B n (xN B n (xN B n (xN B n (xN B n (xN B n (xN B n q)))))))) → (v264324 = xV B n (xN B n (xN B n (xN B n (xN B n (xN B n (xN B n (xN B n (xN B n (xN B n q)))))))))) → (v264321 ≤ v264322 ∧ v264322 ≤ v264321 + 7 ∧ v264322 ≤ 23) → (v264323 ≤ v264324 ∧ v264324 ≤ v264323 + 4 ∧ v264324 ≤ 12) → (v264326 ≤ v264327) → (xhb B n (xN B n (xN B n (xN B n (xN B n (xN B n (xN B n (xN B n (xN B n (xN B n (xN B n q)))))))))) = v264325) → (xnf B n (xqa B n (xN B n (xN B n (xN B n (xN B n (xN B n (xN B n (xN B n (xN B n (xN B n (xN B n q))))))))))) = v264326) → (xnt B n (xqa B n (xN B n (xN B n (xN B n (xN B n (xN B n (xN B n (xN B n (xN B n (xN B n (xN B n q))))))))))) = v264327) → (xaw B n (xqb B n (xqa B n (xN B n (xN B n (xN B n (xN B n (xN B n (xN B n (xN B n (xN B n (xN B n (xN B n q)))))))))))) = v264328) → (d 0 3 ≤ 5) → wp kt 4 187 200 [(0, .ref r0), (1, vL v264320), (3, vI v264321), (4, vI v264322), (5, vI v264323), (6, vI v264324), (7, vI v264325), (9, vI v264326), (10, vI v264327), (11, vI v264328)] [] T H264329 (uq_187_k r0 rp rb B n q d T H) := by
  have f0 : wfr [(54, 3), (42, 8), (42, 9), (42, 10), (42, 11), (42, 12), (42, 13), (42, 14), (42, 15), (56, 999), (57, 999), (60, 999), (63, 999), (58, 999), (59, 999), (55, 999), (61, 999), (62, 999)] T H H := wfr.rf
  have u264301 := RC_k hRC_r0
  have u264302 := DM_k hDM_rp
  have h264303 : MA9 T H rp (d 1) := hDM_rp.2.2.2.1
  have h264304 : MA10 T H rp (d 2) := hDM_rp.2.2.2.2.1
  have h264305 : MA11 T H rp (d 3) := hDM_rp.2.2.2.2.2.1
  have h264306 : MA12 T H rp (d 4) := hDM_rp.2.2.2.2.2.2.1
  have h264307 : MA13 T H rp (d 5) := hDM_rp.2.2.2.2.2.2.2.1
  have h264308 : MA14 T H rp (d 6) := hDM_rp.2.2.2.2.2.2.2.2.1
  have h264309 : MA15 T H rp (d 7) := hDM_rp.2.2.2.2.2.2.2.2.2.1
  have h264310 : MA16 T H rp (d 8) := hDM_rp.2.2.2.2.2.2.2.2.2.2.1
  have h264311 : MA17 T H rp (d 9) := hDM_rp.2.2.2.2.2.2.2.2.2.2.2.1
  have h264312 : MA18 T H rp (d 10) := hDM_rp.2.2.2.2.2.2.2.2.2.2.2.2.1
  have h264313 : MA19 T H rp (d 11) := hDM_rp.2.2.2.2.2.2.2.2.2.2.2.2.2.1
  have h264314 : MA20 T H rp (d 12) := hDM_rp.2.2.2.2.2.2.2.2.2.2.2.2.2.2.1
  have h264315 : MA21 T H rp (d 13) := hDM_rp.2.2.2.2.2.2.2.2.2.2.2.2.2.2.2.1
  have h264316 : MA22 T H rp (d 14) := hDM_rp.2.2.2.2.2.2.2.2.2.2.2.2.2.2.2.2.1
  have h264317 : MA23 T H rp (d 15) := hDM_rp.2.2.2.2.2.2.2.2.2.2.2.2.2.2.2.2.2.1
  have h264318 : MA25 T H rp (d 17) := hDM_rp.2.2.2.2.2.2.2.2.2.2.2.2.2.2.2.2.2.2.1
  have h264319 : MA26 T H rp (d 16) := hDM_rp.2.2.2.2.2.2.2.2.2.2.2.2.2.2.2.2.2.2.2
  intro v264320 v264321 v264322 v264323 v264324 v264325 v264326 v264327 v264328 H264329 w264330 f264331 b264333 b264334 b264335 b264336 b264337 b264338 b264339 b264340 b264341 h264342 h264343 x264344 x264345 x264346 x264347 x264348 x264349 x264350 x264351 x264352 x264353 x264354 x264355 x264356 x264357 x264358
  have f264359 : wfr [(54, 3), (42, 8), (42, 9), (42, 10), (42, 11), (42, 12), (42, 13), (42, 14), (42, 15), (56, 999), (57, 999), (60, 999), (63, 999), (58, 999), (59, 999), (55, 999), (61, 999), (62, 999)] T H H264329 := wfr.rf.tr f264331 rfl
  have u264360 := RC_k h264342
  have u264361 := DM_k h264343
  refine wp_of e187 c187_200 (rw_aload_n (pc' := 201) (v := .ref r0) rfl rfl rfl ?_)
  have k264362 : H264329 r0 4 = H r0 4 := (f264331 r0 4 _ g0 rfl)
  have q264363 : H264329 r0 4 = (rp : Int) := k264362.trans qrp
  refine wp_of e187 c187_201 (xg_K (pc' := 204) lf_9_166 w264330 g0 sh_42 (by decide) (by decide) rfl q264363 rfl ?_)
  refine wp_of e187 c187_204 (xg_I (pc' := 207) lf_9_188 w264330 grp sh_54 (by decide) (by decide) ty_54_3 rfl rfl (fun b264364 b264365 => ?_))
  refine wp_of e187 c187_207 (rw_istore (pc' := 209) (z := H264329 rp 3) (L' := [(12, vI (H264329 rp 3)), (0, .ref r0), (1, vL v264320), (3, vI v264321), (4, vI v264322), (5, vI v264323), (6, vI v264324), (7, vI v264325), (9, vI v264326), (10, vI v264327), (11, vI v264328)]) rfl rfl rfl ?_)
  have _k := @xdper_k ((H264329 rp 3)).toNat d B n (xN B n q) (by omega)
  refine wp_of e187 c187_209 (rw_aload_n (pc' := 210) (v := .ref r0) rfl rfl rfl ?_)
  refine wp_of e187 c187_210 (xg_K (pc' := 213) lf_9_166 w264330 g0 sh_42 (by decide) (by decide) rfl q264363 rfl ?_)
  refine wp_of e187 c187_213 (xg_R (pc' := 216) lf_9_243 w264330 grp sh_54 (by decide) (by decide) ty_54_9 rfl rfl (fun r264366 q264367 g264368 => ?_))
  refine wp_of e187 c187_216 (rw_iload (pc' := 218) (z := H264329 rp 3) rfl rfl ?_)
  refine wp_of e187 c187_218 (rw_lload_n (pc' := 219) (z := v264320) rfl rfl ?_)
  have h264369 : MA9 T H264329 rp (d 1) := (MA9_fr hW grp f264331 rfl h264303)
  refine wp_of e187 c187_219 (xs_L (pc' := 220) w264330 g264368 (by decide) sh_55 (by decide) (ty_55 _) (by omega) (by omega) ⟨by omega, by omega⟩ (by omega) (by omega) rfl (fun H264370 e264371 w264372 => ?_))
  have f264373 := f264359.put' e264371 g264368 rfl
  have h264374 : MA9 T H264370 rp (xdper B n (xN B n q) d 1) := MA_put h264369 q264367 grp g264368 (by decide) e264371 (by omega) (fun j hj => xdper_n (k := ((H264329 rp 3).toNat)) (by omega) (by omega) hj)
  refine wp_of e187 c187_220 (rw_aload_n (pc' := 221) (v := .ref r0) rfl rfl rfl ?_)
  have k264375 : H264370 r0 4 = H264329 r0 4 := (wq_u_t e264371 g264368 g0 rfl 4)
  have q264376 : H264370 r0 4 = (rp : Int) := k264375.trans q264363
  refine wp_of e187 c187_221 (xg_K (pc' := 224) lf_9_166 w264372 g0 sh_42 (by decide) (by decide) rfl q264376 rfl ?_)
  refine wp_of e187 c187_224 (xg_R (pc' := 227) lf_9_247 w264372 grp sh_54 (by decide) (by decide) ty_54_10 rfl rfl (fun r264377 q264378 g264379 => ?_))
  refine wp_of e187 c187_227 (rw_iload (pc' := 229) (z := H264329 rp 3) rfl rfl ?_)
  refine wp_of e187 c187_229 (rw_iload_n (pc' := 230) (z := v264321) rfl rfl ?_)
  have h264380 : MA10 T H264370 rp (d 2) := (MA10_fr w264330 grp ((wfr.rf (l := [(55, 999)])).put' e264371 g264368 rfl) rfl (MA10_fr hW grp f264331 rfl h264304))
  refine wp_of e187 c187_230 (xs_I (pc' := 231) w264372 g264379 (by decide) sh_56 (by decide) (ty_56 _) (by omega) (by omega) ⟨by omega, by omega⟩ (by omega) (by omega) rfl (fun H264381 e264382 w264383 => ?_))
  have f264384 := f264373.put' e264382 g264379 rfl
  have h264385 : MA10 T H264381 rp (xdper B n (xN B n q) d 2) := MA_put h264380 q264378 grp g264379 (by decide) e264382 (by omega) (fun j hj => xdper_n (k := ((H264329 rp 3).toNat)) (by omega) (by omega) hj)
  refine wp_of e187 c187_231 (rw_aload_n (pc' := 232) (v := .ref r0) rfl rfl rfl ?_)
  have k264386 : H264381 r0 4 = H264370 r0 4 := (wq_u_t e264382 g264379 g0 rfl 4)
  have q264387 : H264381 r0 4 = (rp : Int) := k264386.trans q264376
  refine wp_of e187 c187_232 (xg_K (pc' := 235) lf_9_166 w264383 g0 sh_42 (by decide) (by decide) rfl q264387 rfl ?_)
  refine wp_of e187 c187_235 (xg_R (pc' := 238) lf_9_250 w264383 grp sh_54 (by decide) (by decide) ty_54_11 rfl rfl (fun r264388 q264389 g264390 => ?_))
  refine wp_of e187 c187_238 (rw_iload (pc' := 240) (z := H264329 rp 3) rfl rfl ?_)
  refine wp_of e187 c187_240 (rw_iload (pc' := 242) (z := v264322) rfl rfl ?_)
  have h264391 : MA11 T H264381 rp (d 3) := (MA11_fr w264372 grp ((wfr.rf (l := [(56, 999)])).put' e264382 g264379 rfl) rfl (MA11_fr w264330 grp ((wfr.rf (l := [(55, 999)])).put' e264371 g264368 rfl) rfl (MA11_fr hW grp f264331 rfl h264305)))
  refine wp_of e187 c187_242 (xs_I (pc' := 243) w264383 g264390 (by decide) sh_57 (by decide) (ty_57 _) (by omega) (by omega) ⟨by omega, by omega⟩ (by omega) (by omega) rfl (fun H264392 e264393 w264394 => ?_))
  have f264395 := f264384.put' e264393 g264390 rfl
  have h264396 : MA11 T H264392 rp (xdper B n (xN B n q) d 3) := MA_put h264391 q264389 grp g264390 (by decide) e264393 (by omega) (fun j hj => xdper_n (k := ((H264329 rp 3).toNat)) (by omega) (by omega) hj)
  refine wp_of e187 c187_243 (rw_aload_n (pc' := 244) (v := .ref r0) rfl rfl rfl ?_)
  have k264397 : H264392 r0 4 = H264381 r0 4 := (wq_u_t e264393 g264390 g0 rfl 4)
  have q264398 : H264392 r0 4 = (rp : Int) := k264397.trans q264387
  refine wp_of e187 c187_244 (xg_K (pc' := 247) lf_9_166 w264394 g0 sh_42 (by decide) (by decide) rfl q264398 rfl ?_)
  refine wp_of e187 c187_247 (xg_R (pc' := 250) lf_9_253 w264394 grp sh_54 (by decide) (by decide) ty_54_12 rfl rfl (fun r264399 q264400 g264401 => ?_))
  refine wp_of e187 c187_250 (rw_iload (pc' := 252) (z := H264329 rp 3) rfl rfl ?_)
  refine wp_of e187 c187_252 (rw_iload (pc' := 254) (z := v264323) rfl rfl ?_)
  have h264402 : MA12 T H264392 rp (d 4) := (MA12_fr w264383 grp ((wfr.rf (l := [(57, 999)])).put' e264393 g264390 rfl) rfl (MA12_fr w264372 grp ((wfr.rf (l := [(56, 999)])).put' e264382 g264379 rfl) rfl (MA12_fr w264330 grp ((wfr.rf (l := [(55, 999)])).put' e264371 g264368 rfl) rfl (MA12_fr hW grp f264331 rfl h264306))))
  refine wp_of e187 c187_254 (xs_I (pc' := 255) w264394 g264401 (by decide) sh_58 (by decide) (ty_58 _) (by omega) (by omega) ⟨by omega, by omega⟩ (by omega) (by omega) rfl (fun H264403 e264404 w264405 => ?_))
  have f264406 := f264395.put' e264404 g264401 rfl
  have h264407 : MA12 T H264403 rp (xdper B n (xN B n q) d 4) := MA_put h264402 q264400 grp g264401 (by decide) e264404 (by omega) (fun j hj => xdper_n (k := ((H264329 rp 3).toNat)) (by omega) (by omega) hj)
  refine wp_of e187 c187_255 (rw_aload_n (pc' := 256) (v := .ref r0) rfl rfl rfl ?_)
  have k264408 : H264403 r0 4 = H264392 r0 4 := (wq_u_t e264404 g264401 g0 rfl 4)
  have q264409 : H264403 r0 4 = (rp : Int) := k264408.trans q264398
  refine wp_of e187 c187_256 (xg_K (pc' := 259) lf_9_166 w264405 g0 sh_42 (by decide) (by decide) rfl q264409 rfl ?_)
  refine wp_of e187 c187_259 (xg_R (pc' := 262) lf_9_256 w264405 grp sh_54 (by decide) (by decide) ty_54_13 rfl rfl (fun r264410 q264411 g264412 => ?_))
  refine wp_of e187 c187_262 (rw_iload (pc' := 264) (z := H264329 rp 3) rfl rfl ?_)
  refine wp_of e187 c187_264 (rw_iload (pc' := 266) (z := v264324) rfl rfl ?_)
  have h264413 : MA13 T H264403 rp (d 5) := (MA13_fr w264394 grp ((wfr.rf (l := [(58, 999)])).put' e264404 g264401 rfl) rfl (MA13_fr w264383 grp ((wfr.rf (l := [(57, 999)])).put' e264393 g264390 rfl) rfl (MA13_fr w264372 grp ((wfr.rf (l := [(56, 999)])).put' e264382 g264379 rfl) rfl (MA13_fr w264330 grp ((wfr.rf (l := [(55, 999)])).put' e264371 g264368 rfl) rfl (MA13_fr hW grp f264331 rfl h264307)))))
  refine wp_of e187 c187_266 (xs_I (pc' := 267) w264405 g264412 (by decide) sh_59 (by decide) (ty_59 _) (by omega) (by omega) ⟨by omega, by omega⟩ (by omega) (by omega) rfl (fun H264414 e264415 w264416 => ?_))
  have f264417 := f264406.put' e264415 g264412 rfl
  have h264418 : MA13 T H264414 rp (xdper B n (xN B n q) d 5) := MA_put h264413 q264411 grp g264412 (by decide) e264415 (by omega) (fun j hj => xdper_n (k := ((H264329 rp 3).toNat)) (by omega) (by omega) hj)
  refine wp_of e187 c187_267 (rw_aload_n (pc' := 268) (v := .ref r0) rfl rfl rfl ?_)
  have k264419 : H264414 r0 4 = H264403 r0 4 := (wq_u_t e264415 g264412 g0 rfl 4)
  have q264420 : H264414 r0 4 = (rp : Int) := k264419.trans q264409
  refine wp_of e187 c187_268 (xg_K (pc' := 271) lf_9_166 w264416 g0 sh_42 (by decide) (by decide) rfl q264420 rfl ?_)
  refine wp_of e187 c187_271 (xg_R (pc' := 274) lf_9_259 w264416 grp sh_54 (by decide) (by decide) ty_54_14 rfl rfl (fun r264421 q264422 g264423 => ?_))
  refine wp_of e187 c187_274 (rw_iload (pc' := 276) (z := H264329 rp 3) rfl rfl ?_)
  refine wp_of e187 c187_276 (rw_iload (pc' := 278) (z := v264325) rfl rfl ?_)
  have h264424 : MA14 T H264414 rp (d 6) := (MA14_fr w264405 grp ((wfr.rf (l := [(59, 999)])).put' e264415 g264412 rfl) rfl (MA14_fr w264394 grp ((wfr.rf (l := [(58, 999)])).put' e264404 g264401 rfl) rfl (MA14_fr w264383 grp ((wfr.rf (l := [(57, 999)])).put' e264393 g264390 rfl) rfl (MA14_fr w264372 grp ((wfr.rf (l := [(56, 999)])).put' e264382 g264379 rfl) rfl (MA14_fr w264330 grp ((wfr.rf (l := [(55, 999)])).put' e264371 g264368 rfl) rfl (MA14_fr hW grp f264331 rfl h264308))))))
  refine wp_of e187 c187_278 (xs_I (pc' := 279) w264416 g264423 (by decide) sh_60 (by decide) (ty_60 _) (by omega) (by omega) ⟨by omega, by omega⟩ (by omega) (by omega) rfl (fun H264425 e264426 w264427 => ?_))
  have f264428 := f264417.put' e264426 g264423 rfl
  have h264429 : MA14 T H264425 rp (xdper B n (xN B n q) d 6) := MA_put h264424 q264422 grp g264423 (by decide) e264426 (by omega) (fun j hj => xdper_n (k := ((H264329 rp 3).toNat)) (by omega) (by omega) hj)
  refine wp_of e187 c187_279 (rw_aload_n (pc' := 280) (v := .ref r0) rfl rfl rfl ?_)
  have k264430 : H264425 r0 4 = H264414 r0 4 := (wq_u_t e264426 g264423 g0 rfl 4)
  have q264431 : H264425 r0 4 = (rp : Int) := k264430.trans q264420
  refine wp_of e187 c187_280 (xg_K (pc' := 283) lf_9_166 w264427 g0 sh_42 (by decide) (by decide) rfl q264431 rfl ?_)
  refine wp_of e187 c187_283 (xg_R (pc' := 286) lf_9_261 w264427 grp sh_54 (by decide) (by decide) ty_54_15 rfl rfl (fun r264432 q264433 g264434 => ?_))
  refine wp_of e187 c187_286 (rw_iload (pc' := 288) (z := H264329 rp 3) rfl rfl ?_)
  refine wp_of e187 c187_288 (rw_iload (pc' := 290) (z := v264326) rfl rfl ?_)
  have h264435 : MA15 T H264425 rp (d 7) := (MA15_fr w264416 grp ((wfr.rf (l := [(60, 999)])).put' e264426 g264423 rfl) rfl (MA15_fr w264405 grp ((wfr.rf (l := [(59, 999)])).put' e264415 g264412 rfl) rfl (MA15_fr w264394 grp ((wfr.rf (l := [(58, 999)])).put' e264404 g264401 rfl) rfl (MA15_fr w264383 grp ((wfr.rf (l := [(57, 999)])).put' e264393 g264390 rfl) rfl (MA15_fr w264372 grp ((wfr.rf (l := [(56, 999)])).put' e264382 g264379 rfl) rfl (MA15_fr w264330 grp ((wfr.rf (l := [(55, 999)])).put' e264371 g264368 rfl) rfl (MA15_fr hW grp f264331 rfl h264309)))))))
  refine wp_of e187 c187_290 (xs_I (pc' := 291) w264427 g264434 (by decide) sh_61 (by decide) (ty_61 _) (by omega) (by omega) ⟨by omega, by omega⟩ (by omega) (by omega) rfl (fun H264436 e264437 w264438 => ?_))
  have f264439 := f264428.put' e264437 g264434 rfl
  have h264440 : MA15 T H264436 rp (xdper B n (xN B n q) d 7) := MA_put h264435 q264433 grp g264434 (by decide) e264437 (by omega) (fun j hj => xdper_n (k := ((H264329 rp 3).toNat)) (by omega) (by omega) hj)
  refine wp_of e187 c187_291 (rw_aload_n (pc' := 292) (v := .ref r0) rfl rfl rfl ?_)
  have k264441 : H264436 r0 4 = H264425 r0 4 := (wq_u_t e264437 g264434 g0 rfl 4)
  have q264442 : H264436 r0 4 = (rp : Int) := k264441.trans q264431
  refine wp_of e187 c187_292 (xg_K (pc' := 295) lf_9_166 w264438 g0 sh_42 (by decide) (by decide) rfl q264442 rfl ?_)
  refine wp_of e187 c187_295 (xg_R (pc' := 298) lf_9_264 w264438 grp sh_54 (by decide) (by decide) ty_54_16 rfl rfl (fun r264443 q264444 g264445 => ?_))
  refine wp_of e187 c187_298 (rw_iload (pc' := 300) (z := H264329 rp 3) rfl rfl ?_)
  refine wp_of e187 c187_300 (rw_iload (pc' := 302) (z := v264327) rfl rfl ?_)
  have h264446 : MA16 T H264436 rp (d 8) := (MA16_fr w264427 grp ((wfr.rf (l := [(61, 999)])).put' e264437 g264434 rfl) rfl (MA16_fr w264416 grp ((wfr.rf (l := [(60, 999)])).put' e264426 g264423 rfl) rfl (MA16_fr w264405 grp ((wfr.rf (l := [(59, 999)])).put' e264415 g264412 rfl) rfl (MA16_fr w264394 grp ((wfr.rf (l := [(58, 999)])).put' e264404 g264401 rfl) rfl (MA16_fr w264383 grp ((wfr.rf (l := [(57, 999)])).put' e264393 g264390 rfl) rfl (MA16_fr w264372 grp ((wfr.rf (l := [(56, 999)])).put' e264382 g264379 rfl) rfl (MA16_fr w264330 grp ((wfr.rf (l := [(55, 999)])).put' e264371 g264368 rfl) rfl (MA16_fr hW grp f264331 rfl h264310))))))))
  refine wp_of e187 c187_302 (xs_I (pc' := 303) w264438 g264445 (by decide) sh_62 (by decide) (ty_62 _) (by omega) (by omega) ⟨by omega, by omega⟩ (by omega) (by omega) rfl (fun H264447 e264448 w264449 => ?_))
  have f264450 := f264439.put' e264448 g264445 rfl
  have h264451 : MA16 T H264447 rp (xdper B n (xN B n q) d 8) := MA_put h264446 q264444 grp g264445 (by decide) e264448 (by omega) (fun j hj => xdper_n (k := ((H264329 rp 3).toNat)) (by omega) (by omega) hj)
  refine wp_of e187 c187_303 (rw_aload_n (pc' := 304) (v := .ref r0) rfl rfl rfl ?_)
  have k264452 : H264447 r0 4 = H264436 r0 4 := (wq_u_t e264448 g264445 g0 rfl 4)
  have q264453 : H264447 r0 4 = (rp : Int) := k264452.trans q264442
  refine wp_of e187 c187_304 (xg_K (pc' := 307) lf_9_166 w264449 g0 sh_42 (by decide) (by decide) rfl q264453 rfl ?_)
  refine wp_of e187 c187_307 (xg_R (pc' := 310) lf_9_267 w264449 grp sh_54 (by decide) (by decide) ty_54_17 rfl rfl (fun r264454 q264455 g264456 => ?_))
  refine wp_of e187 c187_310 (rw_iload (pc' := 312) (z := H264329 rp 3) rfl rfl ?_)
  refine wp_of e187 c187_312 (rw_iload (pc' := 314) (z := v264328) rfl rfl ?_)
  have h264457 : MA17 T H264447 rp (d 9) := (MA17_fr w264438 grp ((wfr.rf (l := [(62, 999)])).put' e264448 g264445 rfl) rfl (MA17_fr w264427 grp ((wfr.rf (l := [(61, 999)])).put' e264437 g264434 rfl) rfl (MA17_fr w264416 grp ((wfr.rf (l := [(60, 999)])).put' e264426 g264423 rfl) rfl (MA17_fr w264405 grp ((wfr.rf (l := [(59, 999)])).put' e264415 g264412 rfl) rfl (MA17_fr w264394 grp ((wfr.rf (l := [(58, 999)])).put' e264404 g264401 rfl) rfl (MA17_fr w264383 grp ((wfr.rf (l := [(57, 999)])).put' e264393 g264390 rfl) rfl (MA17_fr w264372 grp ((wfr.rf (l := [(56, 999)])).put' e264382 g264379 rfl) rfl (MA17_fr w264330 grp ((wfr.rf (l := [(55, 999)])).put' e264371 g264368 rfl) rfl (MA17_fr hW grp f264331 rfl h264311)))))))))
  refine wp_of e187 c187_314 (xs_Z (pc' := 315) w264449 g264456 (by decide) sh_63 (by decide) (ty_63 _) (by omega) (by omega) ⟨by omega, by omega⟩ (by omega) (by omega) rfl (fun H264458 e264459 w264460 => ?_))
  have f264461 := f264450.put' e264459 g264456 rfl
  have h264462 : MA17 T H264458 rp (xdper B n (xN B n q) d 9) := MA_put h264457 q264455 grp g264456 (by decide) e264459 (by omega) (fun j hj => xdper_n (k := ((H264329 rp 3).toNat)) (by omega) (by omega) hj)
  refine wp_of e187 c187_315 (rw_aload_n (pc' := 316) (v := .ref r0) rfl rfl rfl ?_)
  have k264463 : H264458 r0 4 = H264447 r0 4 := (wq_u_t e264459 g264456 g0 rfl 4)
  have q264464 : H264458 r0 4 = (rp : Int) := k264463.trans q264453
  refine wp_of e187 c187_316 (xg_K (pc' := 319) lf_9_166 w264460 g0 sh_42 (by decide) (by decide) rfl q264464 rfl ?_)
  refine wp_of e187 c187_319 (rw_dup (pc' := 320) rfl rfl ?_)
  have k264465 : H264458 rp 3 = H264329 rp 3 := ((wq_u_t e264459 g264456 grp rfl 3).trans ((wq_u_t e264448 g264445 grp rfl 3).trans ((wq_u_t e264437 g264434 grp rfl 3).trans ((wq_u_t e264426 g264423 grp rfl 3).trans ((wq_u_t e264415 g264412 grp rfl 3).trans ((wq_u_t e264404 g264401 grp rfl 3).trans ((wq_u_t e264393 g264390 grp rfl 3).trans ((wq_u_t e264382 g264379 grp rfl 3).trans (wq_u_t e264371 g264368 grp rfl 3)))))))))
  refine wp_of e187 c187_320 (xg_I (pc' := 323) lf_9_188 w264460 grp sh_54 (by decide) (by decide) ty_54_3 rfl rfl (fun b264466 b264467 => ?_))
  refine wp_of e187 c187_323 (rw_iconst (pc' := 324) rfl ?_)
  refine wp_of e187 c187_324 (rw_iadd (pc' := 325) rfl ?_)
  refine wp_of e187 c187_325 (xp_I (pc' := 328) lf_9_188 w264460 grp sh_54 (by decide) (by decide) ty_54_3 rfl rfl (by omega) (by omega) ⟨by omega, by omega⟩ rfl (fun H264468 e264469 w264470 => ?_))
  have f264471 := f264461.put' e264469 grp rfl
  have k264472 : H264468 rp 3 = (H264458 rp 3) + 1 := wq_u_s e264469
  have k264473 : H264468 rp 0 = H264329 rp 0 := ((wq_u_j e264469 rfl).trans ((wq_u_t e264459 g264456 grp rfl 0).trans ((wq_u_t e264448 g264445 grp rfl 0).trans ((wq_u_t e264437 g264434 grp rfl 0).trans ((wq_u_t e264426 g264423 grp rfl 0).trans ((wq_u_t e264415 g264412 grp rfl 0).trans ((wq_u_t e264404 g264401 grp rfl 0).trans ((wq_u_t e264393 g264390 grp rfl 0).trans ((wq_u_t e264382 g264379 grp rfl 0).trans (wq_u_t e264371 g264368 grp rfl 0))))))))))
  have k264474 : H264468 rp 1 = H264329 rp 1 := ((wq_u_j e264469 rfl).trans ((wq_u_t e264459 g264456 grp rfl 1).trans ((wq_u_t e264448 g264445 grp rfl 1).trans ((wq_u_t e264437 g264434 grp rfl 1).trans ((wq_u_t e264426 g264423 grp rfl 1).trans ((wq_u_t e264415 g264412 grp rfl 1).trans ((wq_u_t e264404 g264401 grp rfl 1).trans ((wq_u_t e264393 g264390 grp rfl 1).trans ((wq_u_t e264382 g264379 grp rfl 1).trans (wq_u_t e264371 g264368 grp rfl 1))))))))))
  have k264475 : H264468 rp 2 = H264329 rp 2 := ((wq_u_j e264469 rfl).trans ((wq_u_t e264459 g264456 grp rfl 2).trans ((wq_u_t e264448 g264445 grp rfl 2).trans ((wq_u_t e264437 g264434 grp rfl 2).trans ((wq_u_t e264426 g264423 grp rfl 2).trans ((wq_u_t e264415 g264412 grp rfl 2).trans ((wq_u_t e264404 g264401 grp rfl 2).trans ((wq_u_t e264393 g264390 grp rfl 2).trans ((wq_u_t e264382 g264379 grp rfl 2).trans (wq_u_t e264371 g264368 grp rfl 2))))))))))
  have k264476 : H264468 rp 4 = H264329 rp 4 := ((wq_u_j e264469 rfl).trans ((wq_u_t e264459 g264456 grp rfl 4).trans ((wq_u_t e264448 g264445 grp rfl 4).trans ((wq_u_t e264437 g264434 grp rfl 4).trans ((wq_u_t e264426 g264423 grp rfl 4).trans ((wq_u_t e264415 g264412 grp rfl 4).trans ((wq_u_t e264404 g264401 grp rfl 4).trans ((wq_u_t e264393 g264390 grp rfl 4).trans ((wq_u_t e264382 g264379 grp rfl 4).trans (wq_u_t e264371 g264368 grp rfl 4))))))))))
  have k264477 : H264468 rp 5 = H264329 rp 5 := ((wq_u_j e264469 rfl).trans ((wq_u_t e264459 g264456 grp rfl 5).trans ((wq_u_t e264448 g264445 grp rfl 5).trans ((wq_u_t e264437 g264434 grp rfl 5).trans ((wq_u_t e264426 g264423 grp rfl 5).trans ((wq_u_t e264415 g264412 grp rfl 5).trans ((wq_u_t e264404 g264401 grp rfl 5).trans ((wq_u_t e264393 g264390 grp rfl 5).trans ((wq_u_t e264382 g264379 grp rfl 5).trans (wq_u_t e264371 g264368 grp rfl 5))))))))))
  have k264478 : H264468 rp 6 = H264329 rp 6 := ((wq_u_j e264469 rfl).trans ((wq_u_t e264459 g264456 grp rfl 6).trans ((wq_u_t e264448 g264445 grp rfl 6).trans ((wq_u_t e264437 g264434 grp rfl 6).trans ((wq_u_t e264426 g264423 grp rfl 6).trans ((wq_u_t e264415 g264412 grp rfl 6).trans ((wq_u_t e264404 g264401 grp rfl 6).trans ((wq_u_t e264393 g264390 grp rfl 6).trans ((wq_u_t e264382 g264379 grp rfl 6).trans (wq_u_t e264371 g264368 grp rfl 6))))))))))
  have k264479 : H264468 rp 7 = H264329 rp 7 := ((wq_u_j e264469 rfl).trans ((wq_u_t e264459 g264456 grp rfl 7).trans ((wq_u_t e264448 g264445 grp rfl 7).trans ((wq_u_t e264437 g264434 grp rfl 7).trans ((wq_u_t e264426 g264423 grp rfl 7).trans ((wq_u_t e264415 g264412 grp rfl 7).trans ((wq_u_t e264404 g264401 grp rfl 7).trans ((wq_u_t e264393 g264390 grp rfl 7).trans ((wq_u_t e264382 g264379 grp rfl 7).trans (wq_u_t e264371 g264368 grp rfl 7))))))))))
  have k264480 : H264468 rp 8 = H264329 rp 8 := ((wq_u_j e264469 rfl).trans ((wq_u_t e264459 g264456 grp rfl 8).trans ((wq_u_t e264448 g264445 grp rfl 8).trans ((wq_u_t e264437 g264434 grp rfl 8).trans ((wq_u_t e264426 g264423 grp rfl 8).trans ((wq_u_t e264415 g264412 grp rfl 8).trans ((wq_u_t e264404 g264401 grp rfl 8).trans ((wq_u_t e264393 g264390 grp rfl 8).trans ((wq_u_t e264382 g264379 grp rfl 8).trans (wq_u_t e264371 g264368 grp rfl 8))))))))))
  have k264481 : H264468 r0 16 = H264329 r0 16 := ((wq_u_t e264469 grp g0 rfl 16).trans ((wq_u_t e264459 g264456 g0 rfl 16).trans ((wq_u_t e264448 g264445 g0 rfl 16).trans ((wq_u_t e264437 g264434 g0 rfl 16).trans ((wq_u_t e264426 g264423 g0 rfl 16).trans ((wq_u_t e264415 g264412 g0 rfl 16).trans ((wq_u_t e264404 g264401 g0 rfl 16).trans ((wq_u_t e264393 g264390 g0 rfl 16).trans ((wq_u_t e264382 g264379 g0 rfl 16).trans (wq_u_t e264371 g264368 g0 rfl 16))))))))))
  have _l := @xdper_v B n (xN B n q) d
  have h264482 : RC T H264468 r0 B n (xl1 B n q d).2.2 := (RC_fr w264460 g0 ((wfr.rf (l := [(54, 3)])).put' e264469 grp rfl) rfl (RC_fr w264449 g0 ((wfr.rf (l := [(63, 999)])).put' e264459 g264456 rfl) rfl (RC_fr w264438 g0 ((wfr.rf (l := [(62, 999)])).put' e264448 g264445 rfl) rfl (RC_fr w264427 g0 ((wfr.rf (l := [(61, 999)])).put' e264437 g264434 rfl) rfl (RC_fr w264416 g0 ((wfr.rf (l := [(60, 999)])).put' e264426 g264423 rfl) rfl (RC_fr w264405 g0 ((wfr.rf (l := [(59, 999)])).put' e264415 g264412 rfl) rfl (RC_fr w264394 g0 ((wfr.rf (l := [(58, 999)])).put' e264404 g264401 rfl) rfl (RC_fr w264383 g0 ((wfr.rf (l := [(57, 999)])).put' e264393 g264390 rfl) rfl (RC_fr w264372 g0 ((wfr.rf (l := [(56, 999)])).put' e264382 g264379 rfl) rfl (RC_fr w264330 g0 ((wfr.rf (l := [(55, 999)])).put' e264371 g264368 rfl) rfl h264342))))))))))
  have h264483 : MA9 T H264468 rp (xdper B n (xN B n q) d 1) := (MA9_fr w264460 grp ((wfr.rf (l := [(54, 3)])).put' e264469 grp rfl) rfl (MA9_fr w264449 grp ((wfr.rf (l := [(63, 999)])).put' e264459 g264456 rfl) rfl (MA9_fr w264438 grp ((wfr.rf (l := [(62, 999)])).put' e264448 g264445 rfl) rfl (MA9_fr w264427 grp ((wfr.rf (l := [(61, 999)])).put' e264437 g264434 rfl) rfl (MA9_fr w264416 grp ((wfr.rf (l := [(60, 999)])).put' e264426 g264423 rfl) rfl (MA9_fr w264405 grp ((wfr.rf (l := [(59, 999)])).put' e264415 g264412 rfl) rfl (MA9_fr w264394 grp ((wfr.rf (l := [(58, 999)])).put' e264404 g264401 rfl) rfl (MA9_fr w264383 grp ((wfr.rf (l := [(57, 999)])).put' e264393 g264390 rfl) rfl (MA9_fr w264372 grp ((wfr.rf (l := [(56, 999)])).put' e264382 g264379 rfl) rfl h264374)))))))))
  have h264484 : MA10 T H264468 rp (xdper B n (xN B n q) d 2) := (MA10_fr w264460 grp ((wfr.rf (l := [(54, 3)])).put' e264469 grp rfl) rfl (MA10_fr w264449 grp ((wfr.rf (l := [(63, 999)])).put' e264459 g264456 rfl) rfl (MA10_fr w264438 grp ((wfr.rf (l := [(62, 999)])).put' e264448 g264445 rfl) rfl (MA10_fr w264427 grp ((wfr.rf (l := [(61, 999)])).put' e264437 g264434 rfl) rfl (MA10_fr w264416 grp ((wfr.rf (l := [(60, 999)])).put' e264426 g264423 rfl) rfl (MA10_fr w264405 grp ((wfr.rf (l := [(59, 999)])).put' e264415 g264412 rfl) rfl (MA10_fr w264394 grp ((wfr.rf (l := [(58, 999)])).put' e264404 g264401 rfl) rfl (MA10_fr w264383 grp ((wfr.rf (l := [(57, 999)])).put' e264393 g264390 rfl) rfl h264385))))))))
  have h264485 : MA11 T H264468 rp (xdper B n (xN B n q) d 3) := (MA11_fr w264460 grp ((wfr.rf (l := [(54, 3)])).put' e264469 grp rfl) rfl (MA11_fr w264449 grp ((wfr.rf (l := [(63, 999)])).put' e264459 g264456 rfl) rfl (MA11_fr w264438 grp ((wfr.rf (l := [(62, 999)])).put' e264448 g264445 rfl) rfl (MA11_fr w264427 grp ((wfr.rf (l := [(61, 999)])).put' e264437 g264434 rfl) rfl (MA11_fr w264416 grp ((wfr.rf (l := [(60, 999)])).put' e264426 g264423 rfl) rfl (MA11_fr w264405 grp ((wfr.rf (l := [(59, 999)])).put' e264415 g264412 rfl) rfl (MA11_fr w264394 grp ((wfr.rf (l := [(58, 999)])).put' e264404 g264401 rfl) rfl h264396)))))))
  have h264486 : MA12 T H264468 rp (xdper B n (xN B n q) d 4) := (MA12_fr w264460 grp ((wfr.rf (l := [(54, 3)])).put' e264469 grp rfl) rfl (MA12_fr w264449 grp ((wfr.rf (l := [(63, 999)])).put' e264459 g264456 rfl) rfl (MA12_fr w264438 grp ((wfr.rf (l := [(62, 999)])).put' e264448 g264445 rfl) rfl (MA12_fr w264427 grp ((wfr.rf (l := [(61, 999)])).put' e264437 g264434 rfl) rfl (MA12_fr w264416 grp ((wfr.rf (l := [(60, 999)])).put' e264426 g264423 rfl) rfl (MA12_fr w264405 grp ((wfr.rf (l := [(59, 999)])).put' e264415 g264412 rfl) rfl h264407))))))
  have h264487 : MA13 T H264468 rp (xdper B n (xN B n q) d 5) := (MA13_fr w264460 grp ((wfr.rf (l := [(54, 3)])).put' e264469 grp rfl) rfl (MA13_fr w264449 grp ((wfr.rf (l := [(63, 999)])).put' e264459 g264456 rfl) rfl (MA13_fr w264438 grp ((wfr.rf (l := [(62, 999)])).put' e264448 g264445 rfl) rfl (MA13_fr w264427 grp ((wfr.rf (l := [(61, 999)])).put' e264437 g264434 rfl) rfl (MA13_fr w264416 grp ((wfr.rf (l := [(60, 999)])).put' e264426 g264423 rfl) rfl h264418)))))
  have h264488 : MA14 T H264468 rp (xdper B n (xN B n q) d 6) := (MA14_fr w264460 grp ((wfr.rf (l := [(54, 3)])).put' e264469 grp rfl) rfl (MA14_fr w264449 grp ((wfr.rf (l := [(63, 999)])).put' e264459 g264456 rfl) rfl (MA14_fr w264438 grp ((wfr.rf (l := [(62, 999)])).put' e264448 g264445 rfl) rfl (MA14_fr w264427 grp ((wfr.rf (l := [(61, 999)])).put' e264437 g264434 rfl) rfl h264429))))
  have h264489 : MA15 T H264468 rp (xdper B n (xN B n q) d 7) := (MA15_fr w264460 grp ((wfr.rf (l := [(54, 3)])).put' e264469 grp rfl) rfl (MA15_fr w264449 grp ((wfr.rf (l := [(63, 999)])).put' e264459 g264456 rfl) rfl (MA15_fr w264438 grp ((wfr.rf (l := [(62, 999)])).put' e264448 g264445 rfl) rfl h264440)))
  have h264490 : MA16 T H264468 rp (xdper B n (xN B n q) d 8) := (MA16_fr w264460 grp ((wfr.rf (l := [(54, 3)])).put' e264469 grp rfl) rfl (MA16_fr w264449 grp ((wfr.rf (l := [(63, 999)])).put' e264459 g264456 rfl) rfl h264451))
  have h264491 : MA17 T H264468 rp (xdper B n (xN B n q) d 9) := (MA17_fr w264460 grp ((wfr.rf (l := [(54, 3)])).put' e264469 grp rfl) rfl h264462)
  have h264492 : MA18 T H264468 rp (d 10) := (MA18_fr w264460 grp ((wfr.rf (l := [(54, 3)])).put' e264469 grp rfl) rfl (MA18_fr w264449 grp ((wfr.rf (l := [(63, 999)])).put' e264459 g264456 rfl) rfl (MA18_fr w264438 grp ((wfr.rf (l := [(62, 999)])).put' e264448 g264445 rfl) rfl (MA18_fr w264427 grp ((wfr.rf (l := [(61, 999)])).put' e264437 g264434 rfl) rfl (MA18_fr w264416 grp ((wfr.rf (l := [(60, 999)])).put' e264426 g264423 rfl) rfl (MA18_fr w264405 grp ((wfr.rf (l := [(59, 999)])).put' e264415 g264412 rfl) rfl (MA18_fr w264394 grp ((wfr.rf (l := [(58, 999)])).put' e264404 g264401 rfl) rfl (MA18_fr w264383 grp ((wfr.rf (l := [(57, 999)])).put' e264393 g264390 rfl) rfl (MA18_fr w264372 grp ((wfr.rf (l := [(56, 999)])).put' e264382 g264379 rfl) rfl (MA18_fr w264330 grp ((wfr.rf (l := [(55, 999)])).put' e264371 g264368 rfl) rfl (MA18_fr hW grp f264331 rfl h264312)))))))))))
  have h264493 : MA19 T H264468 rp (d 11) := (MA19_fr w264460 grp ((wfr.rf (l := [(54, 3)])).put' e264469 grp rfl) rfl (MA19_fr w264449 grp ((wfr.rf (l := [(63, 999)])).put' e264459 g264456 rfl) rfl (MA19_fr w264438 grp ((wfr.rf (l := [(62, 999)])).put' e264448 g264445 rfl) rfl (MA19_fr w264427 grp ((wfr.rf (l := [(61, 999)])).put' e264437 g264434 rfl) rfl (MA19_fr w264416 grp ((wfr.rf (l := [(60, 999)])).put' e264426 g264423 rfl) rfl (MA19_fr w264405 grp ((wfr.rf (l := [(59, 999)])).put' e264415 g264412 rfl) rfl (MA19_fr w264394 grp ((wfr.rf (l := [(58, 999)])).put' e264404 g264401 rfl) rfl (MA19_fr w264383 grp ((wfr.rf (l := [(57, 999)])).put' e264393 g264390 rfl) rfl (MA19_fr w264372 grp ((wfr.rf (l := [(56, 999)])).put' e264382 g264379 rfl) rfl (MA19_fr w264330 grp ((wfr.rf (l := [(55, 999)])).put' e264371 g264368 rfl) rfl (MA19_fr hW grp f264331 rfl h264313)))))))))))
  have h264494 : MA20 T H264468 rp (d 12) := (MA20_fr w264460 grp ((wfr.rf (l := [(54, 3)])).put' e264469 grp rfl) rfl (MA20_fr w264449 grp ((wfr.rf (l := [(63, 999)])).put' e264459 g264456 rfl) rfl (MA20_fr w264438 grp ((wfr.rf (l := [(62, 999)])).put' e264448 g264445 rfl) rfl (MA20_fr w264427 grp ((wfr.rf (l := [(61, 999)])).put' e264437 g264434 rfl) rfl (MA20_fr w264416 grp ((wfr.rf (l := [(60, 999)])).put' e264426 g264423 rfl) rfl (MA20_fr w264405 grp ((wfr.rf (l := [(59, 999)])).put' e264415 g264412 rfl) rfl (MA20_fr w264394 grp ((wfr.rf (l := [(58, 999)])).put' e264404 g264401 rfl) rfl (MA20_fr w264383 grp ((wfr.rf (l := [(57, 999)])).put' e264393 g264390 rfl) rfl (MA20_fr w264372 grp ((wfr.rf (l := [(56, 999)])).put' e264382 g264379 rfl) rfl (MA20_fr w264330 grp ((wfr.rf (l := [(55, 999)])).put' e264371 g264368 rfl) rfl (MA20_fr hW grp f264331 rfl h264314)))))))))))
  have h264495 : MA21 T H264468 rp (d 13) := (MA21_fr w264460 grp ((wfr.rf (l := [(54, 3)])).put' e264469 grp rfl) rfl (MA21_fr w264449 grp ((wfr.rf (l := [(63, 999)])).put' e264459 g264456 rfl) rfl (MA21_fr w264438 grp ((wfr.rf (l := [(62, 999)])).put' e264448 g264445 rfl) rfl (MA21_fr w264427 grp ((wfr.rf (l := [(61, 999)])).put' e264437 g264434 rfl) rfl (MA21_fr w264416 grp ((wfr.rf (l := [(60, 999)])).put' e264426 g264423 rfl) rfl (MA21_fr w264405 grp ((wfr.rf (l := [(59, 999)])).put' e264415 g264412 rfl) rfl (MA21_fr w264394 grp ((wfr.rf (l := [(58, 999)])).put' e264404 g264401 rfl) rfl (MA21_fr w264383 grp ((wfr.rf (l := [(57, 999)])).put' e264393 g264390 rfl) rfl (MA21_fr w264372 grp ((wfr.rf (l := [(56, 999)])).put' e264382 g264379 rfl) rfl (MA21_fr w264330 grp ((wfr.rf (l := [(55, 999)])).put' e264371 g264368 rfl) rfl (MA21_fr hW grp f264331 rfl h264315)))))))))))
  have h264496 : MA22 T H264468 rp (d 14) := (MA22_fr w264460 grp ((wfr.rf (l := [(54, 3)])).put' e264469 grp rfl) rfl (MA22_fr w264449 grp ((wfr.rf (l := [(63, 999)])).put' e264459 g264456 rfl) rfl (MA22_fr w264438 grp ((wfr.rf (l := [(62, 999)])).put' e264448 g264445 rfl) rfl (MA22_fr w264427 grp ((wfr.rf (l := [(61, 999)])).put' e264437 g264434 rfl) rfl (MA22_fr w264416 grp ((wfr.rf (l := [(60, 999)])).put' e264426 g264423 rfl) rfl (MA22_fr w264405 grp ((wfr.rf (l := [(59, 999)])).put' e264415 g264412 rfl) rfl (MA22_fr w264394 grp ((wfr.rf (l := [(58, 999)])).put' e264404 g264401 rfl) rfl (MA22_fr w264383 grp ((wfr.rf (l := [(57, 999)])).put' e264393 g264390 rfl) rfl (MA22_fr w264372 grp ((wfr.rf (l := [(56, 999)])).put' e264382 g264379 rfl) rfl (MA22_fr w264330 grp ((wfr.rf (l := [(55, 999)])).put' e264371 g264368 rfl) rfl (MA22_fr hW grp f264331 rfl h264316)))))))))))
  have h264497 : MA23 T H264468 rp (d 15) := (MA23_fr w264460 grp ((wfr.rf (l := [(54, 3)])).put' e264469 grp rfl) rfl (MA23_fr w264449 grp ((wfr.rf (l := [(63, 999)])).put' e264459 g264456 rfl) rfl (MA23_fr w264438 grp ((wfr.rf (l := [(62, 999)])).put' e264448 g264445 rfl) rfl (MA23_fr w264427 grp ((wfr.rf (l := [(61, 999)])).put' e264437 g264434 rfl) rfl (MA23_fr w264416 grp ((wfr.rf (l := [(60, 999)])).put' e264426 g264423 rfl) rfl (MA23_fr w264405 grp ((wfr.rf (l := [(59, 999)])).put' e264415 g264412 rfl) rfl (MA23_fr w264394 grp ((wfr.rf (l := [(58, 999)])).put' e264404 g264401 rfl) rfl (MA23_fr w264383 grp ((wfr.rf (l := [(57, 999)])).put' e264393 g264390 rfl) rfl (MA23_fr w264372 grp ((wfr.rf (l := [(56, 999)])).put' e264382 g264379 rfl) rfl (MA23_fr w264330 grp ((wfr.rf (l := [(55, 999)])).put' e264371 g264368 rfl) rfl (MA23_fr hW grp f264331 rfl h264317)))))))))))
  have h264498 : MA25 T H264468 rp (d 17) := (MA25_fr w264460 grp ((wfr.rf (l := [(54, 3)])).put' e264469 grp rfl) rfl (MA25_fr w264449 grp ((wfr.rf (l := [(63, 999)])).put' e264459 g264456 rfl) rfl (MA25_fr w264438 grp ((wfr.rf (l := [(62, 999)])).put' e264448 g264445 rfl) rfl (MA25_fr w264427 grp ((wfr.rf (l := [(61, 999)])).put' e264437 g264434 rfl) rfl (MA25_fr w264416 grp ((wfr.rf (l := [(60, 999)])).put' e264426 g264423 rfl) rfl (MA25_fr w264405 grp ((wfr.rf (l := [(59, 999)])).put' e264415 g264412 rfl) rfl (MA25_fr w264394 grp ((wfr.rf (l := [(58, 999)])).put' e264404 g264401 rfl) rfl (MA25_fr w264383 grp ((wfr.rf (l := [(57, 999)])).put' e264393 g264390 rfl) rfl (MA25_fr w264372 grp ((wfr.rf (l := [(56, 999)])).put' e264382 g264379 rfl) rfl (MA25_fr w264330 grp ((wfr.rf (l := [(55, 999)])).put' e264371 g264368 rfl) rfl (MA25_fr hW grp f264331 rfl h264318)))))))))))
  have h264499 : MA26 T H264468 rp (d 16) := (MA26_fr w264460 grp ((wfr.rf (l := [(54, 3)])).put' e264469 grp rfl) rfl (MA26_fr w264449 grp ((wfr.rf (l := [(63, 999)])).put' e264459 g264456 rfl) rfl (MA26_fr w264438 grp ((wfr.rf (l := [(62, 999)])).put' e264448 g264445 rfl) rfl (MA26_fr w264427 grp ((wfr.rf (l := [(61, 999)])).put' e264437 g264434 rfl) rfl (MA26_fr w264416 grp ((wfr.rf (l := [(60, 999)])).put' e264426 g264423 rfl) rfl (MA26_fr w264405 grp ((wfr.rf (l := [(59, 999)])).put' e264415 g264412 rfl) rfl (MA26_fr w264394 grp ((wfr.rf (l := [(58, 999)])).put' e264404 g264401 rfl) rfl (MA26_fr w264383 grp ((wfr.rf (l := [(57, 999)])).put' e264393 g264390 rfl) rfl (MA26_fr w264372 grp ((wfr.rf (l := [(56, 999)])).put' e264382 g264379 rfl) rfl (MA26_fr w264330 grp ((wfr.rf (l := [(55, 999)])).put' e264371 g264368 rfl) rfl (MA26_fr hW grp f264331 rfl h264319)))))))))))
  exact wp_return e187 c187_328 rfl ⟨rfl, w264470, f264471, rfl, (Or.inl ⟨by omega, by omega, (fun a ha ga => ((wq_u_a e264469 ha 3).trans ((wq_u_t e264459 g264456 ga rfl 3).trans ((wq_u_t e264448 g264445 ga rfl 3).trans ((wq_u_t e264437 g264434 ga rfl 3).trans ((wq_u_t e264426 g264423 ga rfl 3).trans ((wq_u_t e264415 g264412 ga rfl 3).trans ((wq_u_t e264404 g264401 ga rfl 3).trans ((wq_u_t e264393 g264390 ga rfl 3).trans ((wq_u_t e264382 g264379 ga rfl 3).trans ((wq_u_t e264371 g264368 ga rfl 3).trans (f264331 a 3 _ ga rfl)))))))))))), h264482, DM_mk hDM_rp.1 ⟨by omega, by omega, by omega, by omega, by omega, by omega, by omega, by omega, by omega, by omega, by omega, by omega⟩ (xdP_per hDM_rp.2.2.1 (k := ((H264329 rp 3)).toNat) (by omega) ⟨by omega, by omega, by omega, by omega, by omega, by omega, by omega, by omega, by omega, by omega, by omega, by omega, by omega, by omega, by omega⟩) h264483 h264484 h264485 h264486 h264487 h264488 h264489 h264490 h264491 h264492 h264493 h264494 h264495 h264496 h264497 h264498 h264499 ⟨rfl, rfl, rfl, rfl, rfl, rfl, rfl, rfl, rfl, (by unfold xdper; rw [wq_u_row (by decide), wq_u_row (by decide), wq_u_row (by decide), wq_u_row (by decide), wq_u_row (by decide), wq_u_row (by decide), wq_u_row (by decide), wq_u_row (by decide), wq_u_row (by decide), wq_u_row (by decide)]), (by unfold xdper; rw [wq_u_row (by decide), wq_u_row (by decide), wq_u_row (by decide), wq_u_row (by decide), wq_u_row (by decide), wq_u_row (by decide), wq_u_row (by decide), wq_u_row (by decide), wq_u_row (by decide), wq_u_row (by decide)]), (by unfold xdper; rw [wq_u_row (by decide), wq_u_row (by decide), wq_u_row (by decide), wq_u_row (by decide), wq_u_row (by decide), wq_u_row (by decide), wq_u_row (by decide), wq_u_row (by decide), wq_u_row (by decide), wq_u_row (by decide)]), (by unfold xdper; rw [wq_u_row (by decide), wq_u_row (by decide), wq_u_row (by decide), wq_u_row (by decide), wq_u_row (by decide), wq_u_row (by decide), wq_u_row (by decide), wq_u_row (by decide), wq_u_row (by decide), wq_u_row (by decide)]), (by unfold xdper; rw [wq_u_row (by decide), wq_u_row (by decide), wq_u_row (by decide), wq_u_row (by decide), wq_u_row (by decide), wq_u_row (by decide), wq_u_row (by decide), wq_u_row (by decide), wq_u_row (by decide), wq_u_row (by decide)]), (by unfold xdper; rw [wq_u_row (by decide), wq_u_row (by decide), wq_u_row (by decide), wq_u_row (by decide), wq_u_row (by decide), wq_u_row (by decide), wq_u_row (by decide), wq_u_row (by decide), wq_u_row (by decide), wq_u_row (by decide)]), (by unfold xdper; rw [wq_u_row (by decide), wq_u_row (by decide), wq_u_row (by decide), wq_u_row (by decide), wq_u_row (by decide), wq_u_row (by decide), wq_u_row (by decide), wq_u_row (by decide), wq_u_row (by decide), wq_u_row (by decide)]), (by unfold xdper; rw [wq_u_row (by decide), wq_u_row (by decide), wq_u_row (by decide), wq_u_row (by decide), wq_u_row (by decide), wq_u_row (by decide), wq_u_row (by decide), wq_u_row (by decide), wq_u_row (by decide), wq_u_row (by decide)])⟩⟩)⟩
set_option maxHeartbeats 60000000 in
theorem u_187_k_t183o {kt : Nat → Option mc_E} {T : wq_T} {H : wq_H} {r0 : Nat} {rp : Nat} {rb : Nat} {B : Nat → Int} {n : Int} {q : Int} {d : xD} (hW : WT T H) (g0 : T.2.2.2 r0 = some 42) (qrp : H r0 4 = (rp : Int)) (grp : T.2.2.2 rp = some 54) (qrb : H r0 5 = (rb : Int)) (grb : T.2.2.2 rb = some 43) (p0 : xK B n q = 1) (hRC_r0 : RC T H r0 B n q) (hDM_rp : DM T H rp r0 d) : ∀ (v264519 : Int) (v264520 : Int) (v264521 : Int) (v264522 : Int) (v264523 : Int) (v264524 : Int) (v264525 : Int) (v264526 : Int) (H264527 : wq_H) (fo264531 : Int) (po264532 : Int), WT T H264527 → wfr [(42, 8), (42, 9), (42, 10), (42, 11), (42, 12), (42, 13), (42, 14), (42, 15)] T H H264527 → ((-9223372036854775808) ≤ v264519 ∧ v264519 ≤ 9223372036854775807) → (0 ≤ v264520 ∧ v264520 ≤ 23) → (0 ≤ v264521 ∧ v264521 ≤ 30) → (0 ≤ v264522 ∧ v264522 ≤ 12) → (0 ≤ v264523 ∧ v264523 ≤ 16) → ((-1) ≤ v264524 ∧ v264524 ≤ 23) → (0 ≤ v264525 ∧ v264525 ≤ 23) → (0 ≤ v264526 ∧ v264526 ≤ 24) → RO T H264527 r0 fo264531 po264532 → ((xl1 B n q d).1 = fo264531) → ((xl1 B n q d).2.1 = po264532) → wp kt 4 187 183 [(0, .ref r0), (1, vL v264519), (3, vI v264520), (4, vI v264521), (5, vI v264522), (6, vI v264523), (7, vI v264524), (9, vI v264525), (10, vI v264526)] [] T H264527 (uq_187_k r0 rp rb B n q d T H) := by
  have f0 : wfr [(54, 3), (42, 8), (42, 9), (42, 10), (42, 11), (42, 12), (42, 13), (42, 14), (42, 15), (56, 999), (57, 999), (60, 999), (63, 999), (58, 999), (59, 999), (55, 999), (61, 999), (62, 999)] T H H := wfr.rf
  have u264500 := RC_k hRC_r0
  have u264501 := DM_k hDM_rp
  have h264502 : MA9 T H rp (d 1) := hDM_rp.2.2.2.1
  have h264503 : MA10 T H rp (d 2) := hDM_rp.2.2.2.2.1
  have h264504 : MA11 T H rp (d 3) := hDM_rp.2.2.2.2.2.1
  have h264505 : MA12 T H rp (d 4) := hDM_rp.2.2.2.2.2.2.1
  have h264506 : MA13 T H rp (d 5) := hDM_rp.2.2.2.2.2.2.2.1
  have h264507 : MA14 T H rp (d 6) := hDM_rp.2.2.2.2.2.2.2.2.1
  have h264508 : MA15 T H rp (d 7) := hDM_rp.2.2.2.2.2.2.2.2.2.1
  have h264509 : MA16 T H rp (d 8) := hDM_rp.2.2.2.2.2.2.2.2.2.2.1
  have h264510 : MA17 T H rp (d 9) := hDM_rp.2.2.2.2.2.2.2.2.2.2.2.1
  have h264511 : MA18 T H rp (d 10) := hDM_rp.2.2.2.2.2.2.2.2.2.2.2.2.1
  have h264512 : MA19 T H rp (d 11) := hDM_rp.2.2.2.2.2.2.2.2.2.2.2.2.2.1
  have h264513 : MA20 T H rp (d 12) := hDM_rp.2.2.2.2.2.2.2.2.2.2.2.2.2.2.1
  have h264514 : MA21 T H rp (d 13) := hDM_rp.2.2.2.2.2.2.2.2.2.2.2.2.2.2.2.1
  have h264515 : MA22 T H rp (d 14) := hDM_rp.2.2.2.2.2.2.2.2.2.2.2.2.2.2.2.2.1
  have h264516 : MA23 T H rp (d 15) := hDM_rp.2.2.2.2.2.2.2.2.2.2.2.2.2.2.2.2.2.1
  have h264517 : MA25 T H rp (d 17) := hDM_rp.2.2.2.2.2.2.2.2.2.2.2.2.2.2.2.2.2.2.1
  have h264518 : MA26 T H rp (d 16) := hDM_rp.2.2.2.2.2.2.2.2.2.2.2.2.2.2.2.2.2.2.2
  intro v264519 v264520 v264521 v264522 v264523 v264524 v264525 v264526 H264527 fo264531 po264532 w264528 f264529 b264533 b264534 b264535 b264536 b264537 b264538 b264539 b264540 h264541 x264542 x264543
  have f264544 : wfr [(54, 3), (42, 8), (42, 9), (42, 10), (42, 11), (42, 12), (42, 13), (42, 14), (42, 15), (56, 999), (57, 999), (60, 999), (63, 999), (58, 999), (59, 999), (55, 999), (61, 999), (62, 999)] T H H264527 := wfr.rf.tr f264529 rfl
  have u264545 := RO_k h264541
  refine wp_of e187 c187_183 (rw_aload_n (pc' := 184) (v := .ref r0) rfl rfl rfl ?_)
  refine wp_of e187 c187_184 (rw_ldcS (pc' := 186) (k := 85) rfl rfl rfl rfl ?_)
  have k264546 : H264527 r0 5 = H r0 5 := (f264529 r0 5 _ g0 rfl)
  have q264547 : H264527 r0 5 = (rb : Int) := k264546.trans qrb
  refine wp_of e187 c187_186 (xc_V (pc' := 189) (r := r0) (as := [.ref 85]) (st := []) (lm_9_240) rfl rfl (Nat.le_of_ble_eq_true rfl) w264528 g0 sh_42 (by decide) rfl (by decide) (u_192_o (fo := fo264531) (po := po264532) (kk := 56377) w264528 g0 rfl q264547 grb (by decide +kernel) h264541) (fun R264548 T264549 H264550 p264551 => ?_))
  obtain ⟨e264552, e264554, z264555, e264553, b264556, p264557⟩ := p264551
  subst e264552
  subst e264553
  subst e264554
  obtain ⟨a264558, a264559⟩ := p264557
  show wp _ _ 187 189 [(0, .ref r0), (1, vL v264519), (3, vI v264520), (4, vI v264521), (5, vI v264522), (6, vI v264523), (7, vI v264524), (9, vI v264525), (10, vI v264526)] [vI z264555] _ H264527 _
  have u264560 := RO_k a264559
  refine wp_of e187 c187_189 (rw_istore (pc' := 191) (z := z264555) (L' := [(11, vI z264555), (0, .ref r0), (1, vL v264519), (3, vI v264520), (4, vI v264521), (5, vI v264522), (6, vI v264523), (7, vI v264524), (9, vI v264525), (10, vI v264526)]) rfl rfl rfl ?_)
  refine wp_of e187 c187_191 (rw_aload_n (pc' := 192) (v := .ref r0) rfl rfl rfl ?_)
  refine wp_of e187 c187_192 (xg_I (pc' := 195) lf_9_75 w264528 g0 sh_42 (by decide) (by decide) ty_42_9 rfl rfl (fun b264561 b264562 => ?_))
  refine wp_of e187 c187_195 (rw_iconst (pc' := 196) rfl ?_)
  refine wp_of e187 c187_196 (rw_icmp_ne (p1 := 200) (p2 := 199) (by decide) rfl ⟨by omega, by omega⟩ ⟨by omega, by omega⟩ (fun c264563 => ?_) (fun c264563 => ?_))
  · exfalso
    omega
  · exact wp_return e187 c187_199 rfl ⟨rfl, w264528, f264544, rfl, (Or.inr ⟨by omega, (fun a ha ga => (f264529 a 3 _ ga rfl)), RO_eq a264559 (by omega) (by omega)⟩)⟩
set_option maxHeartbeats 60000000 in
theorem u_187_k_t134o {kt : Nat → Option mc_E} {T : wq_T} {H : wq_H} {r0 : Nat} {rp : Nat} {rb : Nat} {B : Nat → Int} {n : Int} {q : Int} {d : xD} (hW : WT T H) (g0 : T.2.2.2 r0 = some 42) (qrp : H r0 4 = (rp : Int)) (grp : T.2.2.2 rp = some 54) (qrb : H r0 5 = (rb : Int)) (grb : T.2.2.2 rb = some 43) (p0 : xK B n q = 1) (hRC_r0 : RC T H r0 B n q) (hDM_rp : DM T H rp r0 d) : ∀ (v264583 : Int) (v264584 : Int) (v264585 : Int) (v264586 : Int) (v264587 : Int) (v264588 : Int) (H264589 : wq_H) (fo264593 : Int) (po264594 : Int), WT T H264589 → wfr [(42, 8), (42, 9), (42, 10), (42, 11), (42, 12), (42, 13), (42, 14), (42, 15)] T H H264589 → ((-9223372036854775808) ≤ v264583 ∧ v264583 ≤ 9223372036854775807) → (0 ≤ v264584 ∧ v264584 ≤ 23) → (0 ≤ v264585 ∧ v264585 ≤ 30) → (0 ≤ v264586 ∧ v264586 ≤ 12) → (0 ≤ v264587 ∧ v264587 ≤ 16) → ((-1) ≤ v264588 ∧ v264588 ≤ 23) → RO T H264589 r0 fo264593 po264594 → ((xl1 B n q d).1 = fo264593) → ((xl1 B n q d).2.1 = po264594) → wp kt 4 187 134 [(0, .ref r0), (1, vL v264583), (3, vI v264584), (4, vI v264585), (5, vI v264586), (6, vI v264587), (7, vI v264588)] [] T H264589 (uq_187_k r0 rp rb B n q d T H) := by
  have f0 : wfr [(54, 3), (42, 8), (42, 9), (42, 10), (42, 11), (42, 12), (42, 13), (42, 14), (42, 15), (56, 999), (57, 999), (60, 999), (63, 999), (58, 999), (59, 999), (55, 999), (61, 999), (62, 999)] T H H := wfr.rf
  have u264564 := RC_k hRC_r0
  have u264565 := DM_k hDM_rp
  have h264566 : MA9 T H rp (d 1) := hDM_rp.2.2.2.1
  have h264567 : MA10 T H rp (d 2) := hDM_rp.2.2.2.2.1
  have h264568 : MA11 T H rp (d 3) := hDM_rp.2.2.2.2.2.1
  have h264569 : MA12 T H rp (d 4) := hDM_rp.2.2.2.2.2.2.1
  have h264570 : MA13 T H rp (d 5) := hDM_rp.2.2.2.2.2.2.2.1
  have h264571 : MA14 T H rp (d 6) := hDM_rp.2.2.2.2.2.2.2.2.1
  have h264572 : MA15 T H rp (d 7) := hDM_rp.2.2.2.2.2.2.2.2.2.1
  have h264573 : MA16 T H rp (d 8) := hDM_rp.2.2.2.2.2.2.2.2.2.2.1
  have h264574 : MA17 T H rp (d 9) := hDM_rp.2.2.2.2.2.2.2.2.2.2.2.1
  have h264575 : MA18 T H rp (d 10) := hDM_rp.2.2.2.2.2.2.2.2.2.2.2.2.1
  have h264576 : MA19 T H rp (d 11) := hDM_rp.2.2.2.2.2.2.2.2.2.2.2.2.2.1
  have h264577 : MA20 T H rp (d 12) := hDM_rp.2.2.2.2.2.2.2.2.2.2.2.2.2.2.1
  have h264578 : MA21 T H rp (d 13) := hDM_rp.2.2.2.2.2.2.2.2.2.2.2.2.2.2.2.1
  have h264579 : MA22 T H rp (d 14) := hDM_rp.2.2.2.2.2.2.2.2.2.2.2.2.2.2.2.2.1
  have h264580 : MA23 T H rp (d 15) := hDM_rp.2.2.2.2.2.2.2.2.2.2.2.2.2.2.2.2.2.1
  have h264581 : MA25 T H rp (d 17) := hDM_rp.2.2.2.2.2.2.2.2.2.2.2.2.2.2.2.2.2.2.1
  have h264582 : MA26 T H rp (d 16) := hDM_rp.2.2.2.2.2.2.2.2.2.2.2.2.2.2.2.2.2.2.2
  intro v264583 v264584 v264585 v264586 v264587 v264588 H264589 fo264593 po264594 w264590 f264591 b264595 b264596 b264597 b264598 b264599 b264600 h264601 x264602 x264603
  have f264604 : wfr [(54, 3), (42, 8), (42, 9), (42, 10), (42, 11), (42, 12), (42, 13), (42, 14), (42, 15), (56, 999), (57, 999), (60, 999), (63, 999), (58, 999), (59, 999), (55, 999), (61, 999), (62, 999)] T H H264589 := wfr.rf.tr f264591 rfl
  have u264605 := RO_k h264601
  refine wp_of e187 c187_134 (rw_aload_n (pc' := 135) (v := .ref r0) rfl rfl rfl ?_)
  refine wp_of e187 c187_135 (rw_ldcS (pc' := 137) (k := 84) rfl rfl rfl rfl ?_)
  have k264606 : H264589 r0 5 = H r0 5 := (f264591 r0 5 _ g0 rfl)
  have q264607 : H264589 r0 5 = (rb : Int) := k264606.trans qrb
  refine wp_of e187 c187_137 (xc_V (pc' := 140) (r := r0) (as := [.ref 84]) (st := []) (lm_9_240) rfl rfl (Nat.le_of_ble_eq_true rfl) w264590 g0 sh_42 (by decide) rfl (by decide) (u_192_o (fo := fo264593) (po := po264594) (kk := 14384) w264590 g0 rfl q264607 grb (by decide +kernel) h264601) (fun R264608 T264609 H264610 p264611 => ?_))
  obtain ⟨e264612, e264614, z264615, e264613, b264616, p264617⟩ := p264611
  subst e264612
  subst e264613
  subst e264614
  obtain ⟨a264618, a264619⟩ := p264617
  show wp _ _ 187 140 [(0, .ref r0), (1, vL v264583), (3, vI v264584), (4, vI v264585), (5, vI v264586), (6, vI v264587), (7, vI v264588)] [vI z264615] _ H264589 _
  have u264620 := RO_k a264619
  refine wp_of e187 c187_140 (rw_istore (pc' := 142) (z := z264615) (L' := [(8, vI z264615), (0, .ref r0), (1, vL v264583), (3, vI v264584), (4, vI v264585), (5, vI v264586), (6, vI v264587), (7, vI v264588)]) rfl rfl rfl ?_)
  refine wp_of e187 c187_142 (rw_iload (pc' := 144) (z := z264615) rfl rfl ?_)
  refine wp_of e187 c187_144 (rw_if_eq (p1 := 157) (p2 := 147) (by decide) rfl ⟨by omega, by omega⟩ (fun c264621 => ?_) (fun c264621 => ?_))
  · refine wp_of e187 c187_157 (rw_iconst (pc' := 158) rfl ?_)
    refine wp_of e187 c187_158 (rw_istore (pc' := 160) (z := 0) (L' := [(9, vI 0), (8, vI z264615), (0, .ref r0), (1, vL v264583), (3, vI v264584), (4, vI v264585), (5, vI v264586), (6, vI v264587), (7, vI v264588)]) rfl rfl rfl ?_)
    refine wp_of e187 c187_160 (rw_iload (pc' := 162) (z := z264615) rfl rfl ?_)
    refine wp_of e187 c187_162 (rw_if_eq (p1 := 180) (p2 := 165) (by decide) rfl ⟨by omega, by omega⟩ (fun c264622 => ?_) (fun c264622 => ?_))
    · refine wp_of e187 c187_180 (rw_iconst (pc' := 181) rfl ?_)
      refine wp_of e187 c187_181 (rw_istore (pc' := 183) (z := 0) (L' := [(10, vI 0), (9, vI 0), (8, vI z264615), (0, .ref r0), (1, vL v264583), (3, vI v264584), (4, vI v264585), (5, vI v264586), (6, vI v264587), (7, vI v264588)]) rfl rfl rfl ?_)
      exact wp_lc (ks := [10, 9, 8, 0, 1, 3, 4, 5, 6, 7]) (wl_c rfl (wl_c rfl (wl_c rfl (wl_c rfl (wl_c rfl (wl_c rfl (wl_c rfl (wl_c rfl (wl_c rfl wl_n))))))))) rfl (by decide) (u_187_k_t183o hW g0 qrp grp qrb grb p0 hRC_r0 hDM_rp v264583 v264584 v264585 v264586 v264587 v264588 0 0 H264589 fo264593 po264594 w264590 f264591 ⟨by omega, by omega⟩ ⟨by omega, by omega⟩ ⟨by omega, by omega⟩ ⟨by omega, by omega⟩ ⟨by omega, by omega⟩ ⟨by omega, by omega⟩ ⟨by omega, by omega⟩ ⟨by omega, by omega⟩ a264619 (by omega) (by omega))
    · exfalso
      omega
  · exfalso
    omega
set_option maxHeartbeats 60000000 in
theorem u_187_k_t112k {kt : Nat → Option mc_E} {T : wq_T} {H : wq_H} {r0 : Nat} {rp : Nat} {rb : Nat} {B : Nat → Int} {n : Int} {q : Int} {d : xD} (hW : WT T H) (g0 : T.2.2.2 r0 = some 42) (qrp : H r0 4 = (rp : Int)) (grp : T.2.2.2 rp = some 54) (qrb : H r0 5 = (rb : Int)) (grb : T.2.2.2 rb = some 43) (p0 : xK B n q = 1) (hRC_r0 : RC T H r0 B n q) (hDM_rp : DM T H rp r0 d) : ∀ (v264642 : Int) (v264643 : Int) (v264644 : Int) (v264645 : Int) (v264646 : Int) (H264647 : wq_H), WT T H264647 → wfr [(42, 8), (42, 9), (42, 10), (42, 11), (42, 12), (42, 13), (42, 14), (42, 15)] T H H264647 → ((-9223372036854775808) ≤ v264642 ∧ v264642 ≤ 9223372036854775807) → (0 ≤ v264643 ∧ v264643 ≤ 23) → (0 ≤ v264644 ∧ v264644 ≤ 30) → (0 ≤ v264645 ∧ v264645 ≤ 12) → (0 ≤ v264646 ∧ v264646 ≤ 16) → RC T H264647 r0 B n (xN B n (xN B n (xN B n (xN B n (xN B n (xN B n (xN B n (xN B n (xN B n (xN B n q)))))))))) → DM T H264647 rp r0 d → (xl1 B n q d = xcs B n (xN B n (xN B n (xN B n (xN B n (xN B n (xN B n (xN B n (xN B n (xN B n (xN B n q))))))))))) → (q ≤ (xN B n (xN B n (xN B n (xN B n (xN B n (xN B n (xN B n (xN B n (xN B n (xN B n q))))))))))) → (v264642 = xY B n (xN B n q)) → (v264643 = xV B n (xN B n (xN B n (xN B n q)))) → (v264644 = xV B n (xN B n (xN B n (xN B n (xN B n (xN B n q)))))) → (v264645 = xV B n (xN B n (xN B n (xN B n (xN B n (xN B n (xN B n (xN B n q)))))))) → (v264646 = xV B n (xN B n (xN B n (xN B n (xN B n (xN B n (xN B n (xN B n (xN B n (xN B n q)))))))))) → (v264643 ≤ v264644 ∧ v264644 ≤ v264643 + 7 ∧ v264644 ≤ 23) → (v264645 ≤ v264646 ∧ v264646 ≤ v264645 + 4 ∧ v264646 ≤ 12) → (d 0 3 ≤ 5) → wp kt 4 187 112 [(0, .ref r0), (1, vL v264642), (3, vI v264643), (4, vI v264644), (5, vI v264645), (6, vI v264646)] [] T H264647 (uq_187_k r0 rp rb B n q d T H) := by
  have f0 : wfr [(54, 3), (42, 8), (42, 9), (42, 10), (42, 11), (42, 12), (42, 13), (42, 14), (42, 15), (56, 999), (57, 999), (60, 999), (63, 999), (58, 999), (59, 999), (55, 999), (61, 999), (62, 999)] T H H := wfr.rf
  have u264623 := RC_k hRC_r0
  have u264624 := DM_k hDM_rp
  have h264625 : MA9 T H rp (d 1) := hDM_rp.2.2.2.1
  have h264626 : MA10 T H rp (d 2) := hDM_rp.2.2.2.2.1
  have h264627 : MA11 T H rp (d 3) := hDM_rp.2.2.2.2.2.1
  have h264628 : MA12 T H rp (d 4) := hDM_rp.2.2.2.2.2.2.1
  have h264629 : MA13 T H rp (d 5) := hDM_rp.2.2.2.2.2.2.2.1
  have h264630 : MA14 T H rp (d 6) := hDM_rp.2.2.2.2.2.2.2.2.1
  have h264631 : MA15 T H rp (d 7) := hDM_rp.2.2.2.2.2.2.2.2.2.1
  have h264632 : MA16 T H rp (d 8) := hDM_rp.2.2.2.2.2.2.2.2.2.2.1
  have h264633 : MA17 T H rp (d 9) := hDM_rp.2.2.2.2.2.2.2.2.2.2.2.1
  have h264634 : MA18 T H rp (d 10) := hDM_rp.2.2.2.2.2.2.2.2.2.2.2.2.1
  have h264635 : MA19 T H rp (d 11) := hDM_rp.2.2.2.2.2.2.2.2.2.2.2.2.2.1
  have h264636 : MA20 T H rp (d 12) := hDM_rp.2.2.2.2.2.2.2.2.2.2.2.2.2.2.1
  have h264637 : MA21 T H rp (d 13) := hDM_rp.2.2.2.2.2.2.2.2.2.2.2.2.2.2.2.1
  have h264638 : MA22 T H rp (d 14) := hDM_rp.2.2.2.2.2.2.2.2.2.2.2.2.2.2.2.2.1
  have h264639 : MA23 T H rp (d 15) := hDM_rp.2.2.2.2.2.2.2.2.2.2.2.2.2.2.2.2.2.1
  have h264640 : MA25 T H rp (d 17) := hDM_rp.2.2.2.2.2.2.2.2.2.2.2.2.2.2.2.2.2.2.1
  have h264641 : MA26 T H rp (d 16) := hDM_rp.2.2.2.2.2.2.2.2.2.2.2.2.2.2.2.2.2.2.2
  intro v264642 v264643 v264644 v264645 v264646 H264647 w264648 f264649 b264651 b264652 b264653 b264654 b264655 h264656 h264657 x264658 x264659 x264660 x264661 x264662 x264663 x264664 x264665 x264666 x264667
  have f264668 : wfr [(54, 3), (42, 8), (42, 9), (42, 10), (42, 11), (42, 12), (42, 13), (42, 14), (42, 15), (56, 999), (57, 999), (60, 999), (63, 999), (58, 999), (59, 999), (55, 999), (61, 999), (62, 999)] T H H264647 := wfr.rf.tr f264649 rfl
  have u264669 := RC_k h264656
  have u264670 := DM_k h264657
  refine wp_of e187 c187_112 (rw_aload_n (pc' := 113) (v := .ref r0) rfl rfl rfl ?_)
  refine wp_of e187 c187_113 (rw_ldcS (pc' := 115) (k := 83) rfl rfl rfl rfl ?_)
  have k264671 : H264647 r0 5 = H r0 5 := (f264649 r0 5 _ g0 rfl)
  have q264672 : H264647 r0 5 = (rb : Int) := k264671.trans qrb
  refine wp_of e187 c187_115 (xc_V (pc' := 118) (r := r0) (as := [.ref 83]) (st := []) (lm_9_240) rfl rfl (Nat.le_of_ble_eq_true rfl) w264648 g0 sh_42 (by decide) rfl (by decide) (u_192_k (B := B) (n := n) (q := ((xN B n (xN B n (xN B n (xN B n (xN B n (xN B n (xN B n (xN B n (xN B n (xN B n q)))))))))))) (kk := 8423732) w264648 g0 rfl q264672 grb (by decide +kernel) h264656) (fun R264673 T264674 H264675 p264676 => ?_))
  obtain ⟨e264677, w264679, f264680, z264681, e264678, b264682, p264683⟩ := p264676
  subst e264677
  subst e264678
  rcases p264683 with ⟨a264684, a264685, a264686⟩ | ⟨a264687, a264688, a264689⟩
  · have f264690 := f264668.tr f264680 rfl
    have f264691 := f264649.tr f264680 rfl
    show wp _ _ 187 118 [(0, .ref r0), (1, vL v264642), (3, vI v264643), (4, vI v264644), (5, vI v264645), (6, vI v264646)] [vI z264681] _ H264675 _
    have u264692 := RC_k a264686
    refine wp_of e187 c187_118 (rw_if_eq (p1 := 131) (p2 := 121) (by decide) rfl ⟨by omega, by omega⟩ (fun c264693 => ?_) (fun c264693 => ?_))
    · exfalso
      omega
    · refine wp_of e187 c187_121 (rw_aload_n (pc' := 122) (v := .ref r0) rfl rfl rfl ?_)
      refine wp_of e187 c187_122 (rw_iconst (pc' := 123) rfl ?_)
      refine wp_of e187 c187_123 (rw_bipush (pc' := 125) (z := 23) rfl (by decide) ?_)
      have k264694 : H264675 r0 5 = H264647 r0 5 := (f264680 r0 5 _ g0 rfl)
      have q264695 : H264675 r0 5 = (rb : Int) := k264694.trans q264672
      refine wp_of e187 c187_125 (xc_V (pc' := 128) (r := r0) (as := [vI 0, vI 23]) (st := []) (lm_9_137) rfl rfl (Nat.le_of_ble_eq_true rfl) w264679 g0 sh_42 (by decide) rfl (by decide) (u_184_k (B := B) (n := n) (q := ((xN B n ((xN B n (xN B n (xN B n (xN B n (xN B n (xN B n (xN B n (xN B n (xN B n (xN B n q)))))))))))))) (lo := 0) (hi := 23) w264679 g0 ⟨by omega, by omega⟩ ⟨by omega, by omega⟩ q264695 grb (by omega) (by omega) a264686) (fun R264696 T264697 H264698 p264699 => ?_))
      obtain ⟨e264700, w264702, f264703, z264704, e264701, b264705, p264706⟩ := p264699
      subst e264700
      subst e264701
      rcases p264706 with ⟨a264707, a264708, a264709, a264710⟩ | ⟨a264711, a264712, a264713⟩
      · have f264714 := f264690.tr f264703 rfl
        have f264715 := f264691.tr f264703 rfl
        show wp _ _ 187 128 [(0, .ref r0), (1, vL v264642), (3, vI v264643), (4, vI v264644), (5, vI v264645), (6, vI v264646)] [vI z264704] _ H264698 _
        have u264716 := RC_k a264710
        refine wp_of e187 c187_128 (rw_goto (p1 := 132) (by decide) ?_)
        refine wp_of e187 c187_132 (rw_istore (pc' := 134) (z := z264704) (L' := [(7, vI z264704), (0, .ref r0), (1, vL v264642), (3, vI v264643), (4, vI v264644), (5, vI v264645), (6, vI v264646)]) rfl rfl rfl ?_)
        have _ea : xqa B n ((xN B n (xN B n (xN B n (xN B n (xN B n (xN B n (xN B n (xN B n (xN B n (xN B n q))))))))))) = ((xN B n ((xN B n ((xN B n (xN B n (xN B n (xN B n (xN B n (xN B n (xN B n (xN B n (xN B n (xN B n q))))))))))))))) := by
          unfold xqa
          first | rw [if_pos (by omega)] | rw [if_neg (by omega)]
        have _eh : xhb B n ((xN B n (xN B n (xN B n (xN B n (xN B n (xN B n (xN B n (xN B n (xN B n (xN B n q))))))))))) = z264704 := by
          unfold xhb
          first | (rw [if_pos (by omega)] <;> omega) | (rw [if_neg (by omega)] <;> omega)
        refine wp_of e187 c187_134 (rw_aload_n (pc' := 135) (v := .ref r0) rfl rfl rfl ?_)
        refine wp_of e187 c187_135 (rw_ldcS (pc' := 137) (k := 84) rfl rfl rfl rfl ?_)
        have k264717 : H264698 r0 5 = H264675 r0 5 := (f264703 r0 5 _ g0 rfl)
        have q264718 : H264698 r0 5 = (rb : Int) := k264717.trans q264695
        refine wp_of e187 c187_137 (xc_V (pc' := 140) (r := r0) (as := [.ref 84]) (st := []) (lm_9_240) rfl rfl (Nat.le_of_ble_eq_true rfl) w264702 g0 sh_42 (by decide) rfl (by decide) (u_192_k (B := B) (n := n) (q := ((xN B n ((xN B n ((xN B n (xN B n (xN B n (xN B n (xN B n (xN B n (xN B n (xN B n (xN B n (xN B n q)))))))))))))))) (kk := 14384) w264702 g0 rfl q264718 grb (by decide +kernel) a264710) (fun R264719 T264720 H264721 p264722 => ?_))
        obtain ⟨e264723, w264725, f264726, z264727, e264724, b264728, p264729⟩ := p264722
        subst e264723
        subst e264724
        rcases p264729 with ⟨a264730, a264731, a264732⟩ | ⟨a264733, a264734, a264735⟩
        · have f264736 := f264714.tr f264726 rfl
          have f264737 := f264715.tr f264726 rfl
          show wp _ _ 187 140 [(7, vI z264704), (0, .ref r0), (1, vL v264642), (3, vI v264643), (4, vI v264644), (5, vI v264645), (6, vI v264646)] [vI z264727] _ H264721 _
          have u264738 := RC_k a264732
          refine wp_of e187 c187_140 (rw_istore (pc' := 142) (z := z264727) (L' := [(8, vI z264727), (7, vI z264704), (0, .ref r0), (1, vL v264642), (3, vI v264643), (4, vI v264644), (5, vI v264645), (6, vI v264646)]) rfl rfl rfl ?_)
          refine wp_of e187 c187_142 (rw_iload (pc' := 144) (z := z264727) rfl rfl ?_)
          refine wp_of e187 c187_144 (rw_if_eq (p1 := 157) (p2 := 147) (by decide) rfl ⟨by omega, by omega⟩ (fun c264739 => ?_) (fun c264739 => ?_))
          · exfalso
            omega
          · refine wp_of e187 c187_147 (rw_aload_n (pc' := 148) (v := .ref r0) rfl rfl rfl ?_)
            refine wp_of e187 c187_148 (rw_iconst (pc' := 149) rfl ?_)
            refine wp_of e187 c187_149 (rw_bipush (pc' := 151) (z := 23) rfl (by decide) ?_)
            have k264740 : H264721 r0 5 = H264698 r0 5 := (f264726 r0 5 _ g0 rfl)
            have q264741 : H264721 r0 5 = (rb : Int) := k264740.trans q264718
            refine wp_of e187 c187_151 (xc_V (pc' := 154) (r := r0) (as := [vI 0, vI 23]) (st := []) (lm_9_137) rfl rfl (Nat.le_of_ble_eq_true rfl) w264725 g0 sh_42 (by decide) rfl (by decide) (u_184_k (B := B) (n := n) (q := ((xN B n ((xN B n ((xN B n ((xN B n (xN B n (xN B n (xN B n (xN B n (xN B n (xN B n (xN B n (xN B n (xN B n q)))))))))))))))))) (lo := 0) (hi := 23) w264725 g0 ⟨by omega, by omega⟩ ⟨by omega, by omega⟩ q264741 grb (by omega) (by omega) a264732) (fun R264742 T264743 H264744 p264745 => ?_))
            obtain ⟨e264746, w264748, f264749, z264750, e264747, b264751, p264752⟩ := p264745
            subst e264746
            subst e264747
            rcases p264752 with ⟨a264753, a264754, a264755, a264756⟩ | ⟨a264757, a264758, a264759⟩
            · have f264760 := f264736.tr f264749 rfl
              have f264761 := f264737.tr f264749 rfl
              show wp _ _ 187 154 [(8, vI z264727), (7, vI z264704), (0, .ref r0), (1, vL v264642), (3, vI v264643), (4, vI v264644), (5, vI v264645), (6, vI v264646)] [vI z264750] _ H264744 _
              have u264762 := RC_k a264756
              refine wp_of e187 c187_154 (rw_goto (p1 := 158) (by decide) ?_)
              refine wp_of e187 c187_158 (rw_istore (pc' := 160) (z := z264750) (L' := [(9, vI z264750), (8, vI z264727), (7, vI z264704), (0, .ref r0), (1, vL v264642), (3, vI v264643), (4, vI v264644), (5, vI v264645), (6, vI v264646)]) rfl rfl rfl ?_)
              refine wp_of e187 c187_160 (rw_iload (pc' := 162) (z := z264727) rfl rfl ?_)
              refine wp_of e187 c187_162 (rw_if_eq (p1 := 180) (p2 := 165) (by decide) rfl ⟨by omega, by omega⟩ (fun c264763 => ?_) (fun c264763 => ?_))
              · exfalso
                omega
              · refine wp_of e187 c187_165 (rw_aload_n (pc' := 166) (v := .ref r0) rfl rfl rfl ?_)
                refine wp_of e187 c187_166 (rw_ldcS (pc' := 168) (k := 87) rfl rfl rfl rfl ?_)
                refine wp_of e187 c187_168 (rw_iload (pc' := 170) (z := z264750) rfl rfl ?_)
                refine wp_of e187 c187_170 (rw_iconst (pc' := 171) rfl ?_)
                refine wp_of e187 c187_171 (rw_iadd (pc' := 172) rfl ?_)
                refine wp_of e187 c187_172 (rw_bipush (pc' := 174) (z := 24) rfl (by decide) ?_)
                have k264764 : H264744 r0 5 = H264721 r0 5 := (f264749 r0 5 _ g0 rfl)
                have q264765 : H264744 r0 5 = (rb : Int) := k264764.trans q264741
                refine wp_of e187 c187_174 (xc_V (pc' := 177) (r := r0) (as := [.ref 87, vI (z264750 + 1), vI 24]) (st := []) (lm_9_216) rfl rfl (Nat.le_of_ble_eq_true rfl) w264748 g0 sh_42 (by decide) rfl (by decide) (u_182_k (B := B) (n := n) (q := ((xN B n ((xN B n ((xN B n ((xN B n ((xN B n (xN B n (xN B n (xN B n (xN B n (xN B n (xN B n (xN B n (xN B n (xN B n q)))))))))))))))))))) (kk := 655) (lo := (xV B n (xN B n ((xN B n ((xN B n ((xN B n (xN B n (xN B n (xN B n (xN B n (xN B n (xN B n (xN B n (xN B n (xN B n q)))))))))))))))) + 1)) (hi := (min (xV B n (xN B n ((xN B n ((xN B n ((xN B n (xN B n (xN B n (xN B n (xN B n (xN B n (xN B n (xN B n (xN B n (xN B n q)))))))))))))))) + 24) 24)) w264748 g0 rfl ⟨by omega, by omega⟩ ⟨by omega, by omega⟩ q264765 grb (by decide +kernel) (by omega) (by omega) a264756) (fun R264766 T264767 H264768 p264769 => ?_))
                obtain ⟨e264770, w264772, f264773, z264774, e264771, b264775, p264776⟩ := p264769
                subst e264770
                subst e264771
                rcases p264776 with ⟨a264777, a264778, a264779, a264780, a264781, a264782⟩ | ⟨a264783, a264784, a264785⟩ | ⟨a264786, a264787, a264788, a264789⟩
                · have f264790 := f264760.tr f264773 rfl
                  have f264791 := f264761.tr f264773 rfl
                  show wp _ _ 187 177 [(9, vI z264750), (8, vI z264727), (7, vI z264704), (0, .ref r0), (1, vL v264642), (3, vI v264643), (4, vI v264644), (5, vI v264645), (6, vI v264646)] [vI z264774] _ H264768 _
                  have u264792 := RC_k a264782
                  refine wp_of e187 c187_177 (rw_goto (p1 := 181) (by decide) ?_)
                  refine wp_of e187 c187_181 (rw_istore (pc' := 183) (z := z264774) (L' := [(10, vI z264774), (9, vI z264750), (8, vI z264727), (7, vI z264704), (0, .ref r0), (1, vL v264642), (3, vI v264643), (4, vI v264644), (5, vI v264645), (6, vI v264646)]) rfl rfl rfl ?_)
                  have _eb : xqb B n ((xN B n ((xN B n ((xN B n (xN B n (xN B n (xN B n (xN B n (xN B n (xN B n (xN B n (xN B n (xN B n q))))))))))))))) = ((xN B n (xN B n ((xN B n ((xN B n ((xN B n ((xN B n ((xN B n (xN B n (xN B n (xN B n (xN B n (xN B n (xN B n (xN B n (xN B n (xN B n q)))))))))))))))))))))) := by
                    unfold xqb
                    first | rw [if_pos (by omega)] | rw [if_neg (by omega)]
                  have _enf : xnf B n ((xN B n ((xN B n ((xN B n (xN B n (xN B n (xN B n (xN B n (xN B n (xN B n (xN B n (xN B n (xN B n q))))))))))))))) = z264750 := by
                    unfold xnf
                    first | (rw [if_pos (by omega)] <;> omega) | (rw [if_neg (by omega)] <;> omega)
                  have _ent : xnt B n ((xN B n ((xN B n ((xN B n (xN B n (xN B n (xN B n (xN B n (xN B n (xN B n (xN B n (xN B n (xN B n q))))))))))))))) = z264774 := by
                    unfold xnt
                    first | (rw [if_pos (by omega)] <;> omega) | (rw [if_neg (by omega)] <;> omega)
                  refine wp_of e187 c187_183 (rw_aload_n (pc' := 184) (v := .ref r0) rfl rfl rfl ?_)
                  refine wp_of e187 c187_184 (rw_ldcS (pc' := 186) (k := 85) rfl rfl rfl rfl ?_)
                  have k264793 : H264768 r0 5 = H264744 r0 5 := (f264773 r0 5 _ g0 rfl)
                  have q264794 : H264768 r0 5 = (rb : Int) := k264793.trans q264765
                  refine wp_of e187 c187_186 (xc_V (pc' := 189) (r := r0) (as := [.ref 85]) (st := []) (lm_9_240) rfl rfl (Nat.le_of_ble_eq_true rfl) w264772 g0 sh_42 (by decide) rfl (by decide) (u_192_k (B := B) (n := n) (q := ((xN B n (xN B n ((xN B n ((xN B n ((xN B n ((xN B n ((xN B n (xN B n (xN B n (xN B n (xN B n (xN B n (xN B n (xN B n (xN B n (xN B n q))))))))))))))))))))))) (kk := 56377) w264772 g0 rfl q264794 grb (by decide +kernel) a264782) (fun R264795 T264796 H264797 p264798 => ?_))
                  obtain ⟨e264799, w264801, f264802, z264803, e264800, b264804, p264805⟩ := p264798
                  subst e264799
                  subst e264800
                  rcases p264805 with ⟨a264806, a264807, a264808⟩ | ⟨a264809, a264810, a264811⟩
                  · have f264812 := f264790.tr f264802 rfl
                    have f264813 := f264791.tr f264802 rfl
                    show wp _ _ 187 189 [(10, vI z264774), (9, vI z264750), (8, vI z264727), (7, vI z264704), (0, .ref r0), (1, vL v264642), (3, vI v264643), (4, vI v264644), (5, vI v264645), (6, vI v264646)] [vI z264803] _ H264797 _
                    have u264814 := RC_k a264808
                    refine wp_of e187 c187_189 (rw_istore (pc' := 191) (z := z264803) (L' := [(11, vI z264803), (10, vI z264774), (9, vI z264750), (8, vI z264727), (7, vI z264704), (0, .ref r0), (1, vL v264642), (3, vI v264643), (4, vI v264644), (5, vI v264645), (6, vI v264646)]) rfl rfl rfl ?_)
                    have _ec : xqc B n ((xN B n (xN B n ((xN B n ((xN B n ((xN B n ((xN B n ((xN B n (xN B n (xN B n (xN B n (xN B n (xN B n (xN B n (xN B n (xN B n (xN B n q)))))))))))))))))))))) = ((xN B n ((xN B n (xN B n ((xN B n ((xN B n ((xN B n ((xN B n ((xN B n (xN B n (xN B n (xN B n (xN B n (xN B n (xN B n (xN B n (xN B n (xN B n q)))))))))))))))))))))))) := by
                      unfold xqc
                      first | rw [if_pos (by omega)] | rw [if_neg (by omega)]
                    have _ew : xaw B n ((xN B n (xN B n ((xN B n ((xN B n ((xN B n ((xN B n ((xN B n (xN B n (xN B n (xN B n (xN B n (xN B n (xN B n (xN B n (xN B n (xN B n q)))))))))))))))))))))) = z264803 := by
                      unfold xaw
                      first | (rw [if_pos (by omega)] <;> omega) | (rw [if_neg (by omega)] <;> omega)
                    refine wp_of e187 c187_191 (rw_aload_n (pc' := 192) (v := .ref r0) rfl rfl rfl ?_)
                    refine wp_of e187 c187_192 (xg_I (pc' := 195) lf_9_75 w264801 g0 sh_42 (by decide) (by decide) ty_42_9 rfl rfl (fun b264815 b264816 => ?_))
                    refine wp_of e187 c187_195 (rw_iconst (pc' := 196) rfl ?_)
                    refine wp_of e187 c187_196 (rw_icmp_ne (p1 := 200) (p2 := 199) (by decide) rfl ⟨by omega, by omega⟩ ⟨by omega, by omega⟩ (fun c264817 => ?_) (fun c264817 => ?_))
                    · have o264818 : (xl1 B n q d) = (0, (xN B n (xN B n (xN B n (xN B n (xN B n (xN B n (xN B n (xN B n (xN B n (xN B n q)))))))))), (xN B n ((xN B n (xN B n ((xN B n ((xN B n ((xN B n ((xN B n ((xN B n (xN B n (xN B n (xN B n (xN B n (xN B n (xN B n (xN B n (xN B n (xN B n q)))))))))))))))))))))))) := by
                        rw [x264658]
                        unfold xcs xca xcb xrg
                        try simp only [xs_xs, xs_z]
                        try rw [_ea]
                        try rw [_eb]
                        try rw [_ec]
                        repeat first | rw [xs_0 (by omega)] | rw [xs_1 (by omega)] | rw [if_pos (by omega)] | rw [if_neg (by omega)]
                        first | done | rfl | assumption | (exfalso; omega) | (refine Prod.ext ?_ (Prod.ext ?_ ?_) <;> (try dsimp only) <;> omega)
                      have o264818a : ((xl1 B n q d)).1 = 0 := by rw [o264818]
                      have o264818b : ((xl1 B n q d)).2.1 = (xN B n (xN B n (xN B n (xN B n (xN B n (xN B n (xN B n (xN B n (xN B n (xN B n q)))))))))) := by rw [o264818]
                      have o264818c : ((xl1 B n q d)).2.2 = (xN B n ((xN B n (xN B n ((xN B n ((xN B n ((xN B n ((xN B n ((xN B n (xN B n (xN B n (xN B n (xN B n (xN B n (xN B n (xN B n (xN B n (xN B n q))))))))))))))))))))))) := by rw [o264818]
                      have h264819 : DM T H264797 rp r0 d := (DM_fr w264772 grp f264802 rfl (DM_fr w264748 grp f264773 rfl (DM_fr w264725 grp f264749 rfl (DM_fr w264702 grp f264726 rfl (DM_fr w264679 grp f264703 rfl (DM_fr w264648 grp f264680 rfl h264657))))))
                      exact wp_lc (ks := [11, 10, 9, 8, 7, 0, 1, 3, 4, 5, 6]) (wl_c rfl (wl_c rfl (wl_c rfl (wl_c rfl (wl_c rfl (wl_c rfl (wl_c rfl (wl_c rfl (wl_c rfl (wl_c rfl wl_n)))))))))) rfl (by decide) (u_187_k_t200k hW g0 qrp grp qrb grb p0 hRC_r0 hDM_rp v264642 v264643 v264644 v264645 v264646 z264704 z264750 z264774 z264803 H264797 w264801 f264813 ⟨by omega, by omega⟩ ⟨by omega, by omega⟩ ⟨by omega, by omega⟩ ⟨by omega, by omega⟩ ⟨by omega, by omega⟩ ⟨by omega, by omega⟩ ⟨by omega, by omega⟩ ⟨by omega, by omega⟩ ⟨by omega, by omega⟩ (by rw [show (xl1 B n q d).2.2 = ((xN B n ((xN B n (xN B n ((xN B n ((xN B n ((xN B n ((xN B n ((xN B n (xN B n (xN B n (xN B n (xN B n (xN B n (xN B n (xN B n (xN B n (xN B n q)))))))))))))))))))))))) by omega]; exact a264808) h264819 (by omega) (by omega) (by omega) (by omega) (by omega) (by omega) (by omega) (by omega) (by omega) (by omega) (by omega) (by rw [_ea]; exact _enf) (by rw [_ea]; exact _ent) (by rw [_ea, _eb]; exact _ew) (by omega))
                    · exfalso
                      omega
                  · have f264820 := f264790.tr f264802 rfl
                    have f264821 := f264791.tr f264802 rfl
                    show wp _ _ 187 189 [(10, vI z264774), (9, vI z264750), (8, vI z264727), (7, vI z264704), (0, .ref r0), (1, vL v264642), (3, vI v264643), (4, vI v264644), (5, vI v264645), (6, vI v264646)] [vI z264803] _ H264797 _
                    have u264822 := RC_k a264811
                    refine wp_of e187 c187_189 (rw_istore (pc' := 191) (z := z264803) (L' := [(11, vI z264803), (10, vI z264774), (9, vI z264750), (8, vI z264727), (7, vI z264704), (0, .ref r0), (1, vL v264642), (3, vI v264643), (4, vI v264644), (5, vI v264645), (6, vI v264646)]) rfl rfl rfl ?_)
                    have _ec : xqc B n ((xN B n (xN B n ((xN B n ((xN B n ((xN B n ((xN B n ((xN B n (xN B n (xN B n (xN B n (xN B n (xN B n (xN B n (xN B n (xN B n (xN B n q)))))))))))))))))))))) = ((xN B n (xN B n ((xN B n ((xN B n ((xN B n ((xN B n ((xN B n (xN B n (xN B n (xN B n (xN B n (xN B n (xN B n (xN B n (xN B n (xN B n q)))))))))))))))))))))) := by
                      unfold xqc
                      first | rw [if_pos (by omega)] | rw [if_neg (by omega)]
                    have _ew : xaw B n ((xN B n (xN B n ((xN B n ((xN B n ((xN B n ((xN B n ((xN B n (xN B n (xN B n (xN B n (xN B n (xN B n (xN B n (xN B n (xN B n (xN B n q)))))))))))))))))))))) = z264803 := by
                      unfold xaw
                      first | (rw [if_pos (by omega)] <;> omega) | (rw [if_neg (by omega)] <;> omega)
                    refine wp_of e187 c187_191 (rw_aload_n (pc' := 192) (v := .ref r0) rfl rfl rfl ?_)
                    refine wp_of e187 c187_192 (xg_I (pc' := 195) lf_9_75 w264801 g0 sh_42 (by decide) (by decide) ty_42_9 rfl rfl (fun b264823 b264824 => ?_))
                    refine wp_of e187 c187_195 (rw_iconst (pc' := 196) rfl ?_)
                    refine wp_of e187 c187_196 (rw_icmp_ne (p1 := 200) (p2 := 199) (by decide) rfl ⟨by omega, by omega⟩ ⟨by omega, by omega⟩ (fun c264825 => ?_) (fun c264825 => ?_))
                    · have o264826 : (xl1 B n q d) = (0, (xN B n (xN B n (xN B n (xN B n (xN B n (xN B n (xN B n (xN B n (xN B n (xN B n q)))))))))), (xN B n (xN B n ((xN B n ((xN B n ((xN B n ((xN B n ((xN B n (xN B n (xN B n (xN B n (xN B n (xN B n (xN B n (xN B n (xN B n (xN B n q)))))))))))))))))))))) := by
                        rw [x264658]
                        unfold xcs xca xcb xrg
                        try simp only [xs_xs, xs_z]
                        try rw [_ea]
                        try rw [_eb]
                        try rw [_ec]
                        repeat first | rw [xs_0 (by omega)] | rw [xs_1 (by omega)] | rw [if_pos (by omega)] | rw [if_neg (by omega)]
                        first | done | rfl | assumption | (exfalso; omega) | (refine Prod.ext ?_ (Prod.ext ?_ ?_) <;> (try dsimp only) <;> omega)
                      have o264826a : ((xl1 B n q d)).1 = 0 := by rw [o264826]
                      have o264826b : ((xl1 B n q d)).2.1 = (xN B n (xN B n (xN B n (xN B n (xN B n (xN B n (xN B n (xN B n (xN B n (xN B n q)))))))))) := by rw [o264826]
                      have o264826c : ((xl1 B n q d)).2.2 = (xN B n (xN B n ((xN B n ((xN B n ((xN B n ((xN B n ((xN B n (xN B n (xN B n (xN B n (xN B n (xN B n (xN B n (xN B n (xN B n (xN B n q))))))))))))))))))))) := by rw [o264826]
                      have h264827 : DM T H264797 rp r0 d := (DM_fr w264772 grp f264802 rfl (DM_fr w264748 grp f264773 rfl (DM_fr w264725 grp f264749 rfl (DM_fr w264702 grp f264726 rfl (DM_fr w264679 grp f264703 rfl (DM_fr w264648 grp f264680 rfl h264657))))))
                      exact wp_lc (ks := [11, 10, 9, 8, 7, 0, 1, 3, 4, 5, 6]) (wl_c rfl (wl_c rfl (wl_c rfl (wl_c rfl (wl_c rfl (wl_c rfl (wl_c rfl (wl_c rfl (wl_c rfl (wl_c rfl wl_n)))))))))) rfl (by decide) (u_187_k_t200k hW g0 qrp grp qrb grb p0 hRC_r0 hDM_rp v264642 v264643 v264644 v264645 v264646 z264704 z264750 z264774 z264803 H264797 w264801 f264821 ⟨by omega, by omega⟩ ⟨by omega, by omega⟩ ⟨by omega, by omega⟩ ⟨by omega, by omega⟩ ⟨by omega, by omega⟩ ⟨by omega, by omega⟩ ⟨by omega, by omega⟩ ⟨by omega, by omega⟩ ⟨by omega, by omega⟩ (by rw [show (xl1 B n q d).2.2 = ((xN B n (xN B n ((xN B n ((xN B n ((xN B n ((xN B n ((xN B n (xN B n (xN B n (xN B n (xN B n (xN B n (xN B n (xN B n (xN B n (xN B n q)))))))))))))))))))))) by omega]; exact a264811) h264827 (by omega) (by omega) (by omega) (by omega) (by omega) (by omega) (by omega) (by omega) (by omega) (by omega) (by omega) (by rw [_ea]; exact _enf) (by rw [_ea]; exact _ent) (by rw [_ea, _eb]; exact _ew) (by omega))
                    · exfalso
                      omega
                · have f264828 := f264760.tr f264773 rfl
                  have f264829 := f264761.tr f264773 rfl
                  show wp _ _ 187 177 [(9, vI z264750), (8, vI z264727), (7, vI z264704), (0, .ref r0), (1, vL v264642), (3, vI v264643), (4, vI v264644), (5, vI v264645), (6, vI v264646)] [vI z264774] _ H264768 _
                  have u264830 := RO_k a264785
                  refine wp_of e187 c187_177 (rw_goto (p1 := 181) (by decide) ?_)
                  refine wp_of e187 c187_181 (rw_istore (pc' := 183) (z := z264774) (L' := [(10, vI z264774), (9, vI z264750), (8, vI z264727), (7, vI z264704), (0, .ref r0), (1, vL v264642), (3, vI v264643), (4, vI v264644), (5, vI v264645), (6, vI v264646)]) rfl rfl rfl ?_)
                  have o264831 : (xl1 B n q d) = (xw B n ((xN B n ((xN B n ((xN B n ((xN B n ((xN B n (xN B n (xN B n (xN B n (xN B n (xN B n (xN B n (xN B n (xN B n (xN B n q))))))))))))))))))) 655, ((xN B n ((xN B n ((xN B n ((xN B n ((xN B n (xN B n (xN B n (xN B n (xN B n (xN B n (xN B n (xN B n (xN B n (xN B n q))))))))))))))))))), ((xN B n ((xN B n ((xN B n ((xN B n ((xN B n (xN B n (xN B n (xN B n (xN B n (xN B n (xN B n (xN B n (xN B n (xN B n q)))))))))))))))))))) := by
                    rw [x264658]
                    unfold xcs xca xcb xrg
                    try simp only [xs_xs, xs_z]
                    try rw [_ea]
                    try rw [_eb]
                    try rw [_ec]
                    repeat first | rw [xs_0 (by omega)] | rw [xs_1 (by omega)] | rw [if_pos (by omega)] | rw [if_neg (by omega)]
                    first | done | rfl | assumption | (exfalso; omega) | (refine Prod.ext ?_ (Prod.ext ?_ ?_) <;> (try dsimp only) <;> omega)
                  have o264831a : ((xl1 B n q d)).1 = xw B n ((xN B n ((xN B n ((xN B n ((xN B n ((xN B n (xN B n (xN B n (xN B n (xN B n (xN B n (xN B n (xN B n (xN B n (xN B n q))))))))))))))))))) 655 := by rw [o264831]
                  have o264831b : ((xl1 B n q d)).2.1 = ((xN B n ((xN B n ((xN B n ((xN B n ((xN B n (xN B n (xN B n (xN B n (xN B n (xN B n (xN B n (xN B n (xN B n (xN B n q))))))))))))))))))) := by rw [o264831]
                  have o264831c : ((xl1 B n q d)).2.2 = ((xN B n ((xN B n ((xN B n ((xN B n ((xN B n (xN B n (xN B n (xN B n (xN B n (xN B n (xN B n (xN B n (xN B n (xN B n q))))))))))))))))))) := by rw [o264831]
                  exact wp_lc (ks := [10, 9, 8, 7, 0, 1, 3, 4, 5, 6]) (wl_c rfl (wl_c rfl (wl_c rfl (wl_c rfl (wl_c rfl (wl_c rfl (wl_c rfl (wl_c rfl (wl_c rfl wl_n))))))))) rfl (by decide) (u_187_k_t183o hW g0 qrp grp qrb grb p0 hRC_r0 hDM_rp v264642 v264643 v264644 v264645 v264646 z264704 z264750 z264774 H264768 (xw B n ((xN B n ((xN B n ((xN B n ((xN B n ((xN B n (xN B n (xN B n (xN B n (xN B n (xN B n (xN B n (xN B n (xN B n (xN B n q))))))))))))))))))) 655) (((xN B n ((xN B n ((xN B n ((xN B n ((xN B n (xN B n (xN B n (xN B n (xN B n (xN B n (xN B n (xN B n (xN B n (xN B n q)))))))))))))))))))) w264772 f264829 ⟨by omega, by omega⟩ ⟨by omega, by omega⟩ ⟨by omega, by omega⟩ ⟨by omega, by omega⟩ ⟨by omega, by omega⟩ ⟨by omega, by omega⟩ ⟨by omega, by omega⟩ ⟨by omega, by omega⟩ a264785 (by omega) (by omega))
                · have f264832 := f264760.tr f264773 rfl
                  have f264833 := f264761.tr f264773 rfl
                  show wp _ _ 187 177 [(9, vI z264750), (8, vI z264727), (7, vI z264704), (0, .ref r0), (1, vL v264642), (3, vI v264643), (4, vI v264644), (5, vI v264645), (6, vI v264646)] [vI z264774] _ H264768 _
                  have u264834 := RO_k a264789
                  refine wp_of e187 c187_177 (rw_goto (p1 := 181) (by decide) ?_)
                  refine wp_of e187 c187_181 (rw_istore (pc' := 183) (z := z264774) (L' := [(10, vI z264774), (9, vI z264750), (8, vI z264727), (7, vI z264704), (0, .ref r0), (1, vL v264642), (3, vI v264643), (4, vI v264644), (5, vI v264645), (6, vI v264646)]) rfl rfl rfl ?_)
                  have o264835 : (xl1 B n q d) = (xh B n (xN B n ((xN B n ((xN B n ((xN B n ((xN B n ((xN B n (xN B n (xN B n (xN B n (xN B n (xN B n (xN B n (xN B n (xN B n (xN B n q)))))))))))))))))))) (xV B n (xN B n ((xN B n ((xN B n ((xN B n (xN B n (xN B n (xN B n (xN B n (xN B n (xN B n (xN B n (xN B n (xN B n q)))))))))))))))) + 1) (min (xV B n (xN B n ((xN B n ((xN B n ((xN B n (xN B n (xN B n (xN B n (xN B n (xN B n (xN B n (xN B n (xN B n (xN B n q)))))))))))))))) + 24) 24), (xN B n ((xN B n ((xN B n ((xN B n ((xN B n ((xN B n (xN B n (xN B n (xN B n (xN B n (xN B n (xN B n (xN B n (xN B n (xN B n q)))))))))))))))))))), (xN B n ((xN B n ((xN B n ((xN B n ((xN B n ((xN B n (xN B n (xN B n (xN B n (xN B n (xN B n (xN B n (xN B n (xN B n (xN B n q))))))))))))))))))))) := by
                    rw [x264658]
                    unfold xcs xca xcb xrg
                    try simp only [xs_xs, xs_z]
                    try rw [_ea]
                    try rw [_eb]
                    try rw [_ec]
                    repeat first | rw [xs_0 (by omega)] | rw [xs_1 (by omega)] | rw [if_pos (by omega)] | rw [if_neg (by omega)]
                    first | done | rfl | assumption | (exfalso; omega) | (refine Prod.ext ?_ (Prod.ext ?_ ?_) <;> (try dsimp only) <;> omega)
                  have o264835a : ((xl1 B n q d)).1 = xh B n (xN B n ((xN B n ((xN B n ((xN B n ((xN B n ((xN B n (xN B n (xN B n (xN B n (xN B n (xN B n (xN B n (xN B n (xN B n (xN B n q)))))))))))))))))))) (xV B n (xN B n ((xN B n ((xN B n ((xN B n (xN B n (xN B n (xN B n (xN B n (xN B n (xN B n (xN B n (xN B n (xN B n q)))))))))))))))) + 1) (min (xV B n (xN B n ((xN B n ((xN B n ((xN B n (xN B n (xN B n (xN B n (xN B n (xN B n (xN B n (xN B n (xN B n (xN B n q)))))))))))))))) + 24) 24) := by rw [o264835]
                  have o264835b : ((xl1 B n q d)).2.1 = (xN B n ((xN B n ((xN B n ((xN B n ((xN B n ((xN B n (xN B n (xN B n (xN B n (xN B n (xN B n (xN B n (xN B n (xN B n (xN B n q)))))))))))))))))))) := by rw [o264835]
                  have o264835c : ((xl1 B n q d)).2.2 = (xN B n ((xN B n ((xN B n ((xN B n ((xN B n ((xN B n (xN B n (xN B n (xN B n (xN B n (xN B n (xN B n (xN B n (xN B n (xN B n q)))))))))))))))))))) := by rw [o264835]
                  exact wp_lc (ks := [10, 9, 8, 7, 0, 1, 3, 4, 5, 6]) (wl_c rfl (wl_c rfl (wl_c rfl (wl_c rfl (wl_c rfl (wl_c rfl (wl_c rfl (wl_c rfl (wl_c rfl wl_n))))))))) rfl (by decide) (u_187_k_t183o hW g0 qrp grp qrb grb p0 hRC_r0 hDM_rp v264642 v264643 v264644 v264645 v264646 z264704 z264750 z264774 H264768 (xh B n (xN B n ((xN B n ((xN B n ((xN B n ((xN B n ((xN B n (xN B n (xN B n (xN B n (xN B n (xN B n (xN B n (xN B n (xN B n (xN B n q)))))))))))))))))))) (xV B n (xN B n ((xN B n ((xN B n ((xN B n (xN B n (xN B n (xN B n (xN B n (xN B n (xN B n (xN B n (xN B n (xN B n q)))))))))))))))) + 1) (min (xV B n (xN B n ((xN B n ((xN B n ((xN B n (xN B n (xN B n (xN B n (xN B n (xN B n (xN B n (xN B n (xN B n (xN B n q)))))))))))))))) + 24) 24)) ((xN B n ((xN B n ((xN B n ((xN B n ((xN B n ((xN B n (xN B n (xN B n (xN B n (xN B n (xN B n (xN B n (xN B n (xN B n (xN B n q))))))))))))))))))))) w264772 f264833 ⟨by omega, by omega⟩ ⟨by omega, by omega⟩ ⟨by omega, by omega⟩ ⟨by omega, by omega⟩ ⟨by omega, by omega⟩ ⟨by omega, by omega⟩ ⟨by omega, by omega⟩ ⟨by omega, by omega⟩ a264789 (by omega) (by omega))
            · have f264836 := f264736.tr f264749 rfl
              have f264837 := f264737.tr f264749 rfl
              show wp _ _ 187 154 [(8, vI z264727), (7, vI z264704), (0, .ref r0), (1, vL v264642), (3, vI v264643), (4, vI v264644), (5, vI v264645), (6, vI v264646)] [vI z264750] _ H264744 _
              have u264838 := RO_k a264759
              refine wp_of e187 c187_154 (rw_goto (p1 := 158) (by decide) ?_)
              refine wp_of e187 c187_158 (rw_istore (pc' := 160) (z := z264750) (L' := [(9, vI z264750), (8, vI z264727), (7, vI z264704), (0, .ref r0), (1, vL v264642), (3, vI v264643), (4, vI v264644), (5, vI v264645), (6, vI v264646)]) rfl rfl rfl ?_)
              refine wp_of e187 c187_160 (rw_iload (pc' := 162) (z := z264727) rfl rfl ?_)
              refine wp_of e187 c187_162 (rw_if_eq (p1 := 180) (p2 := 165) (by decide) rfl ⟨by omega, by omega⟩ (fun c264839 => ?_) (fun c264839 => ?_))
              · exfalso
                omega
              · refine wp_of e187 c187_165 (rw_aload_n (pc' := 166) (v := .ref r0) rfl rfl rfl ?_)
                refine wp_of e187 c187_166 (rw_ldcS (pc' := 168) (k := 87) rfl rfl rfl rfl ?_)
                refine wp_of e187 c187_168 (rw_iload (pc' := 170) (z := z264750) rfl rfl ?_)
                refine wp_of e187 c187_170 (rw_iconst (pc' := 171) rfl ?_)
                refine wp_of e187 c187_171 (rw_iadd (pc' := 172) rfl ?_)
                refine wp_of e187 c187_172 (rw_bipush (pc' := 174) (z := 24) rfl (by decide) ?_)
                have k264840 : H264744 r0 5 = H264721 r0 5 := (f264749 r0 5 _ g0 rfl)
                have q264841 : H264744 r0 5 = (rb : Int) := k264840.trans q264741
                refine wp_of e187 c187_174 (xc_V (pc' := 177) (r := r0) (as := [.ref 87, vI (z264750 + 1), vI 24]) (st := []) (lm_9_216) rfl rfl (Nat.le_of_ble_eq_true rfl) w264748 g0 sh_42 (by decide) rfl (by decide) (u_182_o (fo := (xh B n ((xN B n ((xN B n ((xN B n ((xN B n (xN B n (xN B n (xN B n (xN B n (xN B n (xN B n (xN B n (xN B n (xN B n q))))))))))))))))) 0 23)) (po := (((xN B n ((xN B n ((xN B n ((xN B n (xN B n (xN B n (xN B n (xN B n (xN B n (xN B n (xN B n (xN B n (xN B n q))))))))))))))))))) (kk := 655) w264748 g0 rfl ⟨by omega, by omega⟩ ⟨by omega, by omega⟩ q264841 grb (by decide +kernel) a264759) (fun R264842 T264843 H264844 p264845 => ?_))
                obtain ⟨e264846, e264848, z264849, e264847, b264850, p264851⟩ := p264845
                subst e264846
                subst e264847
                subst e264848
                obtain ⟨a264852, a264853⟩ := p264851
                show wp _ _ 187 177 [(9, vI z264750), (8, vI z264727), (7, vI z264704), (0, .ref r0), (1, vL v264642), (3, vI v264643), (4, vI v264644), (5, vI v264645), (6, vI v264646)] [vI z264849] _ H264744 _
                have u264854 := RO_k a264853
                refine wp_of e187 c187_177 (rw_goto (p1 := 181) (by decide) ?_)
                refine wp_of e187 c187_181 (rw_istore (pc' := 183) (z := z264849) (L' := [(10, vI z264849), (9, vI z264750), (8, vI z264727), (7, vI z264704), (0, .ref r0), (1, vL v264642), (3, vI v264643), (4, vI v264644), (5, vI v264645), (6, vI v264646)]) rfl rfl rfl ?_)
                have o264855 : (xl1 B n q d) = (xh B n ((xN B n ((xN B n ((xN B n ((xN B n (xN B n (xN B n (xN B n (xN B n (xN B n (xN B n (xN B n (xN B n (xN B n q))))))))))))))))) 0 23, ((xN B n ((xN B n ((xN B n ((xN B n (xN B n (xN B n (xN B n (xN B n (xN B n (xN B n (xN B n (xN B n (xN B n q))))))))))))))))), ((xN B n ((xN B n ((xN B n ((xN B n (xN B n (xN B n (xN B n (xN B n (xN B n (xN B n (xN B n (xN B n (xN B n q)))))))))))))))))) := by
                  rw [x264658]
                  unfold xcs xca xcb xrg
                  try simp only [xs_xs, xs_z]
                  try rw [_ea]
                  try rw [_eb]
                  try rw [_ec]
                  repeat first | rw [xs_0 (by omega)] | rw [xs_1 (by omega)] | rw [if_pos (by omega)] | rw [if_neg (by omega)]
                  first | done | rfl | assumption | (exfalso; omega) | (refine Prod.ext ?_ (Prod.ext ?_ ?_) <;> (try dsimp only) <;> omega)
                have o264855a : ((xl1 B n q d)).1 = xh B n ((xN B n ((xN B n ((xN B n ((xN B n (xN B n (xN B n (xN B n (xN B n (xN B n (xN B n (xN B n (xN B n (xN B n q))))))))))))))))) 0 23 := by rw [o264855]
                have o264855b : ((xl1 B n q d)).2.1 = ((xN B n ((xN B n ((xN B n ((xN B n (xN B n (xN B n (xN B n (xN B n (xN B n (xN B n (xN B n (xN B n (xN B n q))))))))))))))))) := by rw [o264855]
                have o264855c : ((xl1 B n q d)).2.2 = ((xN B n ((xN B n ((xN B n ((xN B n (xN B n (xN B n (xN B n (xN B n (xN B n (xN B n (xN B n (xN B n (xN B n q))))))))))))))))) := by rw [o264855]
                exact wp_lc (ks := [10, 9, 8, 7, 0, 1, 3, 4, 5, 6]) (wl_c rfl (wl_c rfl (wl_c rfl (wl_c rfl (wl_c rfl (wl_c rfl (wl_c rfl (wl_c rfl (wl_c rfl wl_n))))))))) rfl (by decide) (u_187_k_t183o hW g0 qrp grp qrb grb p0 hRC_r0 hDM_rp v264642 v264643 v264644 v264645 v264646 z264704 z264750 z264849 H264744 (xh B n ((xN B n ((xN B n ((xN B n ((xN B n (xN B n (xN B n (xN B n (xN B n (xN B n (xN B n (xN B n (xN B n (xN B n q))))))))))))))))) 0 23) (((xN B n ((xN B n ((xN B n ((xN B n (xN B n (xN B n (xN B n (xN B n (xN B n (xN B n (xN B n (xN B n (xN B n q)))))))))))))))))) w264748 f264837 ⟨by omega, by omega⟩ ⟨by omega, by omega⟩ ⟨by omega, by omega⟩ ⟨by omega, by omega⟩ ⟨by omega, by omega⟩ ⟨by omega, by omega⟩ ⟨by omega, by omega⟩ ⟨by omega, by omega⟩ a264853 (by omega) (by omega))
        · have f264856 := f264714.tr f264726 rfl
          have f264857 := f264715.tr f264726 rfl
          show wp _ _ 187 140 [(7, vI z264704), (0, .ref r0), (1, vL v264642), (3, vI v264643), (4, vI v264644), (5, vI v264645), (6, vI v264646)] [vI z264727] _ H264721 _
          have u264858 := RC_k a264735
          refine wp_of e187 c187_140 (rw_istore (pc' := 142) (z := z264727) (L' := [(8, vI z264727), (7, vI z264704), (0, .ref r0), (1, vL v264642), (3, vI v264643), (4, vI v264644), (5, vI v264645), (6, vI v264646)]) rfl rfl rfl ?_)
          refine wp_of e187 c187_142 (rw_iload (pc' := 144) (z := z264727) rfl rfl ?_)
          refine wp_of e187 c187_144 (rw_if_eq (p1 := 157) (p2 := 147) (by decide) rfl ⟨by omega, by omega⟩ (fun c264859 => ?_) (fun c264859 => ?_))
          · refine wp_of e187 c187_157 (rw_iconst (pc' := 158) rfl ?_)
            refine wp_of e187 c187_158 (rw_istore (pc' := 160) (z := 0) (L' := [(9, vI 0), (8, vI z264727), (7, vI z264704), (0, .ref r0), (1, vL v264642), (3, vI v264643), (4, vI v264644), (5, vI v264645), (6, vI v264646)]) rfl rfl rfl ?_)
            refine wp_of e187 c187_160 (rw_iload (pc' := 162) (z := z264727) rfl rfl ?_)
            refine wp_of e187 c187_162 (rw_if_eq (p1 := 180) (p2 := 165) (by decide) rfl ⟨by omega, by omega⟩ (fun c264860 => ?_) (fun c264860 => ?_))
            · refine wp_of e187 c187_180 (rw_iconst (pc' := 181) rfl ?_)
              refine wp_of e187 c187_181 (rw_istore (pc' := 183) (z := 0) (L' := [(10, vI 0), (9, vI 0), (8, vI z264727), (7, vI z264704), (0, .ref r0), (1, vL v264642), (3, vI v264643), (4, vI v264644), (5, vI v264645), (6, vI v264646)]) rfl rfl rfl ?_)
              have _eb : xqb B n ((xN B n ((xN B n ((xN B n (xN B n (xN B n (xN B n (xN B n (xN B n (xN B n (xN B n (xN B n (xN B n q))))))))))))))) = ((xN B n ((xN B n ((xN B n (xN B n (xN B n (xN B n (xN B n (xN B n (xN B n (xN B n (xN B n (xN B n q))))))))))))))) := by
                unfold xqb
                first | rw [if_pos (by omega)] | rw [if_neg (by omega)]
              have _enf : xnf B n ((xN B n ((xN B n ((xN B n (xN B n (xN B n (xN B n (xN B n (xN B n (xN B n (xN B n (xN B n (xN B n q))))))))))))))) = 0 := by
                unfold xnf
                first | (rw [if_pos (by omega)] <;> omega) | (rw [if_neg (by omega)] <;> omega)
              have _ent : xnt B n ((xN B n ((xN B n ((xN B n (xN B n (xN B n (xN B n (xN B n (xN B n (xN B n (xN B n (xN B n (xN B n q))))))))))))))) = 0 := by
                unfold xnt
                first | (rw [if_pos (by omega)] <;> omega) | (rw [if_neg (by omega)] <;> omega)
              refine wp_of e187 c187_183 (rw_aload_n (pc' := 184) (v := .ref r0) rfl rfl rfl ?_)
              refine wp_of e187 c187_184 (rw_ldcS (pc' := 186) (k := 85) rfl rfl rfl rfl ?_)
              have k264861 : H264721 r0 5 = H264698 r0 5 := (f264726 r0 5 _ g0 rfl)
              have q264862 : H264721 r0 5 = (rb : Int) := k264861.trans q264718
              refine wp_of e187 c187_186 (xc_V (pc' := 189) (r := r0) (as := [.ref 85]) (st := []) (lm_9_240) rfl rfl (Nat.le_of_ble_eq_true rfl) w264725 g0 sh_42 (by decide) rfl (by decide) (u_192_k (B := B) (n := n) (q := ((xN B n ((xN B n ((xN B n (xN B n (xN B n (xN B n (xN B n (xN B n (xN B n (xN B n (xN B n (xN B n q)))))))))))))))) (kk := 56377) w264725 g0 rfl q264862 grb (by decide +kernel) a264735) (fun R264863 T264864 H264865 p264866 => ?_))
              obtain ⟨e264867, w264869, f264870, z264871, e264868, b264872, p264873⟩ := p264866
              subst e264867
              subst e264868
              rcases p264873 with ⟨a264874, a264875, a264876⟩ | ⟨a264877, a264878, a264879⟩
              · have f264880 := f264856.tr f264870 rfl
                have f264881 := f264857.tr f264870 rfl
                show wp _ _ 187 189 [(10, vI 0), (9, vI 0), (8, vI z264727), (7, vI z264704), (0, .ref r0), (1, vL v264642), (3, vI v264643), (4, vI v264644), (5, vI v264645), (6, vI v264646)] [vI z264871] _ H264865 _
                have u264882 := RC_k a264876
                refine wp_of e187 c187_189 (rw_istore (pc' := 191) (z := z264871) (L' := [(11, vI z264871), (10, vI 0), (9, vI 0), (8, vI z264727), (7, vI z264704), (0, .ref r0), (1, vL v264642), (3, vI v264643), (4, vI v264644), (5, vI v264645), (6, vI v264646)]) rfl rfl rfl ?_)
                have _ec : xqc B n ((xN B n ((xN B n ((xN B n (xN B n (xN B n (xN B n (xN B n (xN B n (xN B n (xN B n (xN B n (xN B n q))))))))))))))) = ((xN B n ((xN B n ((xN B n ((xN B n (xN B n (xN B n (xN B n (xN B n (xN B n (xN B n (xN B n (xN B n (xN B n q))))))))))))))))) := by
                  unfold xqc
                  first | rw [if_pos (by omega)] | rw [if_neg (by omega)]
                have _ew : xaw B n ((xN B n ((xN B n ((xN B n (xN B n (xN B n (xN B n (xN B n (xN B n (xN B n (xN B n (xN B n (xN B n q))))))))))))))) = z264871 := by
                  unfold xaw
                  first | (rw [if_pos (by omega)] <;> omega) | (rw [if_neg (by omega)] <;> omega)
                refine wp_of e187 c187_191 (rw_aload_n (pc' := 192) (v := .ref r0) rfl rfl rfl ?_)
                refine wp_of e187 c187_192 (xg_I (pc' := 195) lf_9_75 w264869 g0 sh_42 (by decide) (by decide) ty_42_9 rfl rfl (fun b264883 b264884 => ?_))
                refine wp_of e187 c187_195 (rw_iconst (pc' := 196) rfl ?_)
                refine wp_of e187 c187_196 (rw_icmp_ne (p1 := 200) (p2 := 199) (by decide) rfl ⟨by omega, by omega⟩ ⟨by omega, by omega⟩ (fun c264885 => ?_) (fun c264885 => ?_))
                · have o264886 : (xl1 B n q d) = (0, (xN B n (xN B n (xN B n (xN B n (xN B n (xN B n (xN B n (xN B n (xN B n (xN B n q)))))))))), (xN B n ((xN B n ((xN B n ((xN B n (xN B n (xN B n (xN B n (xN B n (xN B n (xN B n (xN B n (xN B n (xN B n q))))))))))))))))) := by
                    rw [x264658]
                    unfold xcs xca xcb xrg
                    try simp only [xs_xs, xs_z]
                    try rw [_ea]
                    try rw [_eb]
                    try rw [_ec]
                    repeat first | rw [xs_0 (by omega)] | rw [xs_1 (by omega)] | rw [if_pos (by omega)] | rw [if_neg (by omega)]
                    first | done | rfl | assumption | (exfalso; omega) | (refine Prod.ext ?_ (Prod.ext ?_ ?_) <;> (try dsimp only) <;> omega)
                  have o264886a : ((xl1 B n q d)).1 = 0 := by rw [o264886]
                  have o264886b : ((xl1 B n q d)).2.1 = (xN B n (xN B n (xN B n (xN B n (xN B n (xN B n (xN B n (xN B n (xN B n (xN B n q)))))))))) := by rw [o264886]
                  have o264886c : ((xl1 B n q d)).2.2 = (xN B n ((xN B n ((xN B n ((xN B n (xN B n (xN B n (xN B n (xN B n (xN B n (xN B n (xN B n (xN B n (xN B n q)))))))))))))))) := by rw [o264886]
                  have h264887 : DM T H264865 rp r0 d := (DM_fr w264725 grp f264870 rfl (DM_fr w264702 grp f264726 rfl (DM_fr w264679 grp f264703 rfl (DM_fr w264648 grp f264680 rfl h264657))))
                  exact wp_lc (ks := [11, 10, 9, 8, 7, 0, 1, 3, 4, 5, 6]) (wl_c rfl (wl_c rfl (wl_c rfl (wl_c rfl (wl_c rfl (wl_c rfl (wl_c rfl (wl_c rfl (wl_c rfl (wl_c rfl wl_n)))))))))) rfl (by decide) (u_187_k_t200k hW g0 qrp grp qrb grb p0 hRC_r0 hDM_rp v264642 v264643 v264644 v264645 v264646 z264704 0 0 z264871 H264865 w264869 f264881 ⟨by omega, by omega⟩ ⟨by omega, by omega⟩ ⟨by omega, by omega⟩ ⟨by omega, by omega⟩ ⟨by omega, by omega⟩ ⟨by omega, by omega⟩ ⟨by omega, by omega⟩ ⟨by omega, by omega⟩ ⟨by omega, by omega⟩ (by rw [show (xl1 B n q d).2.2 = ((xN B n ((xN B n ((xN B n ((xN B n (xN B n (xN B n (xN B n (xN B n (xN B n (xN B n (xN B n (xN B n (xN B n q))))))))))))))))) by omega]; exact a264876) h264887 (by omega) (by omega) (by omega) (by omega) (by omega) (by omega) (by omega) (by omega) (by omega) (by omega) (by omega) (by rw [_ea]; exact _enf) (by rw [_ea]; exact _ent) (by rw [_ea, _eb]; exact _ew) (by omega))
                · exfalso
                  omega
              · have f264888 := f264856.tr f264870 rfl
                have f264889 := f264857.tr f264870 rfl
                show wp _ _ 187 189 [(10, vI 0), (9, vI 0), (8, vI z264727), (7, vI z264704), (0, .ref r0), (1, vL v264642), (3, vI v264643), (4, vI v264644), (5, vI v264645), (6, vI v264646)] [vI z264871] _ H264865 _
                have u264890 := RC_k a264879
                refine wp_of e187 c187_189 (rw_istore (pc' := 191) (z := z264871) (L' := [(11, vI z264871), (10, vI 0), (9, vI 0), (8, vI z264727), (7, vI z264704), (0, .ref r0), (1, vL v264642), (3, vI v264643), (4, vI v264644), (5, vI v264645), (6, vI v264646)]) rfl rfl rfl ?_)
                have _ec : xqc B n ((xN B n ((xN B n ((xN B n (xN B n (xN B n (xN B n (xN B n (xN B n (xN B n (xN B n (xN B n (xN B n q))))))))))))))) = ((xN B n ((xN B n ((xN B n (xN B n (xN B n (xN B n (xN B n (xN B n (xN B n (xN B n (xN B n (xN B n q))))))))))))))) := by
                  unfold xqc
                  first | rw [if_pos (by omega)] | rw [if_neg (by omega)]
                have _ew : xaw B n ((xN B n ((xN B n ((xN B n (xN B n (xN B n (xN B n (xN B n (xN B n (xN B n (xN B n (xN B n (xN B n q))))))))))))))) = z264871 := by
                  unfold xaw
                  first | (rw [if_pos (by omega)] <;> omega) | (rw [if_neg (by omega)] <;> omega)
                refine wp_of e187 c187_191 (rw_aload_n (pc' := 192) (v := .ref r0) rfl rfl rfl ?_)
                refine wp_of e187 c187_192 (xg_I (pc' := 195) lf_9_75 w264869 g0 sh_42 (by decide) (by decide) ty_42_9 rfl rfl (fun b264891 b264892 => ?_))
                refine wp_of e187 c187_195 (rw_iconst (pc' := 196) rfl ?_)
                refine wp_of e187 c187_196 (rw_icmp_ne (p1 := 200) (p2 := 199) (by decide) rfl ⟨by omega, by omega⟩ ⟨by omega, by omega⟩ (fun c264893 => ?_) (fun c264893 => ?_))
                · have o264894 : (xl1 B n q d) = (0, (xN B n (xN B n (xN B n (xN B n (xN B n (xN B n (xN B n (xN B n (xN B n (xN B n q)))))))))), (xN B n ((xN B n ((xN B n (xN B n (xN B n (xN B n (xN B n (xN B n (xN B n (xN B n (xN B n (xN B n q))))))))))))))) := by
                    rw [x264658]
                    unfold xcs xca xcb xrg
                    try simp only [xs_xs, xs_z]
                    try rw [_ea]
                    try rw [_eb]
                    try rw [_ec]
                    repeat first | rw [xs_0 (by omega)] | rw [xs_1 (by omega)] | rw [if_pos (by omega)] | rw [if_neg (by omega)]
                    first | done | rfl | assumption | (exfalso; omega) | (refine Prod.ext ?_ (Prod.ext ?_ ?_) <;> (try dsimp only) <;> omega)
                  have o264894a : ((xl1 B n q d)).1 = 0 := by rw [o264894]
                  have o264894b : ((xl1 B n q d)).2.1 = (xN B n (xN B n (xN B n (xN B n (xN B n (xN B n (xN B n (xN B n (xN B n (xN B n q)))))))))) := by rw [o264894]
                  have o264894c : ((xl1 B n q d)).2.2 = (xN B n ((xN B n ((xN B n (xN B n (xN B n (xN B n (xN B n (xN B n (xN B n (xN B n (xN B n (xN B n q)))))))))))))) := by rw [o264894]
                  have h264895 : DM T H264865 rp r0 d := (DM_fr w264725 grp f264870 rfl (DM_fr w264702 grp f264726 rfl (DM_fr w264679 grp f264703 rfl (DM_fr w264648 grp f264680 rfl h264657))))
                  exact wp_lc (ks := [11, 10, 9, 8, 7, 0, 1, 3, 4, 5, 6]) (wl_c rfl (wl_c rfl (wl_c rfl (wl_c rfl (wl_c rfl (wl_c rfl (wl_c rfl (wl_c rfl (wl_c rfl (wl_c rfl wl_n)))))))))) rfl (by decide) (u_187_k_t200k hW g0 qrp grp qrb grb p0 hRC_r0 hDM_rp v264642 v264643 v264644 v264645 v264646 z264704 0 0 z264871 H264865 w264869 f264889 ⟨by omega, by omega⟩ ⟨by omega, by omega⟩ ⟨by omega, by omega⟩ ⟨by omega, by omega⟩ ⟨by omega, by omega⟩ ⟨by omega, by omega⟩ ⟨by omega, by omega⟩ ⟨by omega, by omega⟩ ⟨by omega, by omega⟩ (by rw [show (xl1 B n q d).2.2 = ((xN B n ((xN B n ((xN B n (xN B n (xN B n (xN B n (xN B n (xN B n (xN B n (xN B n (xN B n (xN B n q))))))))))))))) by omega]; exact a264879) h264895 (by omega) (by omega) (by omega) (by omega) (by omega) (by omega) (by omega) (by omega) (by omega) (by omega) (by omega) (by rw [_ea]; exact _enf) (by rw [_ea]; exact _ent) (by rw [_ea, _eb]; exact _ew) (by omega))
                · exfalso
                  omega
            · exfalso
              omega
          · exfalso
            omega
      · have f264896 := f264690.tr f264703 rfl
        have f264897 := f264691.tr f264703 rfl
        show wp _ _ 187 128 [(0, .ref r0), (1, vL v264642), (3, vI v264643), (4, vI v264644), (5, vI v264645), (6, vI v264646)] [vI z264704] _ H264698 _
        have u264898 := RO_k a264713
        refine wp_of e187 c187_128 (rw_goto (p1 := 132) (by decide) ?_)
        refine wp_of e187 c187_132 (rw_istore (pc' := 134) (z := z264704) (L' := [(7, vI z264704), (0, .ref r0), (1, vL v264642), (3, vI v264643), (4, vI v264644), (5, vI v264645), (6, vI v264646)]) rfl rfl rfl ?_)
        have o264899 : (xl1 B n q d) = (xh B n ((xN B n ((xN B n (xN B n (xN B n (xN B n (xN B n (xN B n (xN B n (xN B n (xN B n (xN B n q))))))))))))) 0 23, ((xN B n ((xN B n (xN B n (xN B n (xN B n (xN B n (xN B n (xN B n (xN B n (xN B n (xN B n q))))))))))))), ((xN B n ((xN B n (xN B n (xN B n (xN B n (xN B n (xN B n (xN B n (xN B n (xN B n (xN B n q)))))))))))))) := by
          rw [x264658]
          unfold xcs xca xcb xrg
          try simp only [xs_xs, xs_z]
          try rw [_ea]
          try rw [_eb]
          try rw [_ec]
          repeat first | rw [xs_0 (by omega)] | rw [xs_1 (by omega)] | rw [if_pos (by omega)] | rw [if_neg (by omega)]
          first | done | rfl | assumption | (exfalso; omega) | (refine Prod.ext ?_ (Prod.ext ?_ ?_) <;> (try dsimp only) <;> omega)
        have o264899a : ((xl1 B n q d)).1 = xh B n ((xN B n ((xN B n (xN B n (xN B n (xN B n (xN B n (xN B n (xN B n (xN B n (xN B n (xN B n q))))))))))))) 0 23 := by rw [o264899]
        have o264899b : ((xl1 B n q d)).2.1 = ((xN B n ((xN B n (xN B n (xN B n (xN B n (xN B n (xN B n (xN B n (xN B n (xN B n (xN B n q))))))))))))) := by rw [o264899]
        have o264899c : ((xl1 B n q d)).2.2 = ((xN B n ((xN B n (xN B n (xN B n (xN B n (xN B n (xN B n (xN B n (xN B n (xN B n (xN B n q))))))))))))) := by rw [o264899]
        exact wp_lc (ks := [7, 0, 1, 3, 4, 5, 6]) (wl_c rfl (wl_c rfl (wl_c rfl (wl_c rfl (wl_c rfl (wl_c rfl (wl_c rfl wl_n))))))) rfl (by decide) (u_187_k_t134o hW g0 qrp grp qrb grb p0 hRC_r0 hDM_rp v264642 v264643 v264644 v264645 v264646 z264704 H264698 (xh B n ((xN B n ((xN B n (xN B n (xN B n (xN B n (xN B n (xN B n (xN B n (xN B n (xN B n (xN B n q))))))))))))) 0 23) (((xN B n ((xN B n (xN B n (xN B n (xN B n (xN B n (xN B n (xN B n (xN B n (xN B n (xN B n q)))))))))))))) w264702 f264897 ⟨by omega, by omega⟩ ⟨by omega, by omega⟩ ⟨by omega, by omega⟩ ⟨by omega, by omega⟩ ⟨by omega, by omega⟩ ⟨by omega, by omega⟩ a264713 (by omega) (by omega))
  · have f264900 := f264668.tr f264680 rfl
    have f264901 := f264649.tr f264680 rfl
    show wp _ _ 187 118 [(0, .ref r0), (1, vL v264642), (3, vI v264643), (4, vI v264644), (5, vI v264645), (6, vI v264646)] [vI z264681] _ H264675 _
    have u264902 := RC_k a264689
    refine wp_of e187 c187_118 (rw_if_eq (p1 := 131) (p2 := 121) (by decide) rfl ⟨by omega, by omega⟩ (fun c264903 => ?_) (fun c264903 => ?_))
    · refine wp_of e187 c187_131 (rw_iconst (pc' := 132) rfl ?_)
      refine wp_of e187 c187_132 (rw_istore (pc' := 134) (z := -1) (L' := [(7, vI (-1)), (0, .ref r0), (1, vL v264642), (3, vI v264643), (4, vI v264644), (5, vI v264645), (6, vI v264646)]) rfl rfl rfl ?_)
      have _ea : xqa B n ((xN B n (xN B n (xN B n (xN B n (xN B n (xN B n (xN B n (xN B n (xN B n (xN B n q))))))))))) = ((xN B n (xN B n (xN B n (xN B n (xN B n (xN B n (xN B n (xN B n (xN B n (xN B n q))))))))))) := by
        unfold xqa
        first | rw [if_pos (by omega)] | rw [if_neg (by omega)]
      have _eh : xhb B n ((xN B n (xN B n (xN B n (xN B n (xN B n (xN B n (xN B n (xN B n (xN B n (xN B n q))))))))))) = (-1) := by
        unfold xhb
        first | (rw [if_pos (by omega)] <;> omega) | (rw [if_neg (by omega)] <;> omega)
      refine wp_of e187 c187_134 (rw_aload_n (pc' := 135) (v := .ref r0) rfl rfl rfl ?_)
      refine wp_of e187 c187_135 (rw_ldcS (pc' := 137) (k := 84) rfl rfl rfl rfl ?_)
      have k264904 : H264675 r0 5 = H264647 r0 5 := (f264680 r0 5 _ g0 rfl)
      have q264905 : H264675 r0 5 = (rb : Int) := k264904.trans q264672
      refine wp_of e187 c187_137 (xc_V (pc' := 140) (r := r0) (as := [.ref 84]) (st := []) (lm_9_240) rfl rfl (Nat.le_of_ble_eq_true rfl) w264679 g0 sh_42 (by decide) rfl (by decide) (u_192_k (B := B) (n := n) (q := ((xN B n (xN B n (xN B n (xN B n (xN B n (xN B n (xN B n (xN B n (xN B n (xN B n q)))))))))))) (kk := 14384) w264679 g0 rfl q264905 grb (by decide +kernel) a264689) (fun R264906 T264907 H264908 p264909 => ?_))
      obtain ⟨e264910, w264912, f264913, z264914, e264911, b264915, p264916⟩ := p264909
      subst e264910
      subst e264911
      rcases p264916 with ⟨a264917, a264918, a264919⟩ | ⟨a264920, a264921, a264922⟩
      · have f264923 := f264900.tr f264913 rfl
        have f264924 := f264901.tr f264913 rfl
        show wp _ _ 187 140 [(7, vI (-1)), (0, .ref r0), (1, vL v264642), (3, vI v264643), (4, vI v264644), (5, vI v264645), (6, vI v264646)] [vI z264914] _ H264908 _
        have u264925 := RC_k a264919
        refine wp_of e187 c187_140 (rw_istore (pc' := 142) (z := z264914) (L' := [(8, vI z264914), (7, vI (-1)), (0, .ref r0), (1, vL v264642), (3, vI v264643), (4, vI v264644), (5, vI v264645), (6, vI v264646)]) rfl rfl rfl ?_)
        refine wp_of e187 c187_142 (rw_iload (pc' := 144) (z := z264914) rfl rfl ?_)
        refine wp_of e187 c187_144 (rw_if_eq (p1 := 157) (p2 := 147) (by decide) rfl ⟨by omega, by omega⟩ (fun c264926 => ?_) (fun c264926 => ?_))
        · exfalso
          omega
        · refine wp_of e187 c187_147 (rw_aload_n (pc' := 148) (v := .ref r0) rfl rfl rfl ?_)
          refine wp_of e187 c187_148 (rw_iconst (pc' := 149) rfl ?_)
          refine wp_of e187 c187_149 (rw_bipush (pc' := 151) (z := 23) rfl (by decide) ?_)
          have k264927 : H264908 r0 5 = H264675 r0 5 := (f264913 r0 5 _ g0 rfl)
          have q264928 : H264908 r0 5 = (rb : Int) := k264927.trans q264905
          refine wp_of e187 c187_151 (xc_V (pc' := 154) (r := r0) (as := [vI 0, vI 23]) (st := []) (lm_9_137) rfl rfl (Nat.le_of_ble_eq_true rfl) w264912 g0 sh_42 (by decide) rfl (by decide) (u_184_k (B := B) (n := n) (q := ((xN B n ((xN B n (xN B n (xN B n (xN B n (xN B n (xN B n (xN B n (xN B n (xN B n (xN B n q)))))))))))))) (lo := 0) (hi := 23) w264912 g0 ⟨by omega, by omega⟩ ⟨by omega, by omega⟩ q264928 grb (by omega) (by omega) a264919) (fun R264929 T264930 H264931 p264932 => ?_))
          obtain ⟨e264933, w264935, f264936, z264937, e264934, b264938, p264939⟩ := p264932
          subst e264933
          subst e264934
          rcases p264939 with ⟨a264940, a264941, a264942, a264943⟩ | ⟨a264944, a264945, a264946⟩
          · have f264947 := f264923.tr f264936 rfl
            have f264948 := f264924.tr f264936 rfl
            show wp _ _ 187 154 [(8, vI z264914), (7, vI (-1)), (0, .ref r0), (1, vL v264642), (3, vI v264643), (4, vI v264644), (5, vI v264645), (6, vI v264646)] [vI z264937] _ H264931 _
            have u264949 := RC_k a264943
            refine wp_of e187 c187_154 (rw_goto (p1 := 158) (by decide) ?_)
            refine wp_of e187 c187_158 (rw_istore (pc' := 160) (z := z264937) (L' := [(9, vI z264937), (8, vI z264914), (7, vI (-1)), (0, .ref r0), (1, vL v264642), (3, vI v264643), (4, vI v264644), (5, vI v264645), (6, vI v264646)]) rfl rfl rfl ?_)
            refine wp_of e187 c187_160 (rw_iload (pc' := 162) (z := z264914) rfl rfl ?_)
            refine wp_of e187 c187_162 (rw_if_eq (p1 := 180) (p2 := 165) (by decide) rfl ⟨by omega, by omega⟩ (fun c264950 => ?_) (fun c264950 => ?_))
            · exfalso
              omega
            · refine wp_of e187 c187_165 (rw_aload_n (pc' := 166) (v := .ref r0) rfl rfl rfl ?_)
              refine wp_of e187 c187_166 (rw_ldcS (pc' := 168) (k := 87) rfl rfl rfl rfl ?_)
              refine wp_of e187 c187_168 (rw_iload (pc' := 170) (z := z264937) rfl rfl ?_)
              refine wp_of e187 c187_170 (rw_iconst (pc' := 171) rfl ?_)
              refine wp_of e187 c187_171 (rw_iadd (pc' := 172) rfl ?_)
              refine wp_of e187 c187_172 (rw_bipush (pc' := 174) (z := 24) rfl (by decide) ?_)
              have k264951 : H264931 r0 5 = H264908 r0 5 := (f264936 r0 5 _ g0 rfl)
              have q264952 : H264931 r0 5 = (rb : Int) := k264951.trans q264928
              refine wp_of e187 c187_174 (xc_V (pc' := 177) (r := r0) (as := [.ref 87, vI (z264937 + 1), vI 24]) (st := []) (lm_9_216) rfl rfl (Nat.le_of_ble_eq_true rfl) w264935 g0 sh_42 (by decide) rfl (by decide) (u_182_k (B := B) (n := n) (q := ((xN B n ((xN B n ((xN B n (xN B n (xN B n (xN B n (xN B n (xN B n (xN B n (xN B n (xN B n (xN B n q)))))))))))))))) (kk := 655) (lo := (xV B n (xN B n ((xN B n (xN B n (xN B n (xN B n (xN B n (xN B n (xN B n (xN B n (xN B n (xN B n q)))))))))))) + 1)) (hi := (min (xV B n (xN B n ((xN B n (xN B n (xN B n (xN B n (xN B n (xN B n (xN B n (xN B n (xN B n (xN B n q)))))))))))) + 24) 24)) w264935 g0 rfl ⟨by omega, by omega⟩ ⟨by omega, by omega⟩ q264952 grb (by decide +kernel) (by omega) (by omega) a264943) (fun R264953 T264954 H264955 p264956 => ?_))
              obtain ⟨e264957, w264959, f264960, z264961, e264958, b264962, p264963⟩ := p264956
              subst e264957
              subst e264958
              rcases p264963 with ⟨a264964, a264965, a264966, a264967, a264968, a264969⟩ | ⟨a264970, a264971, a264972⟩ | ⟨a264973, a264974, a264975, a264976⟩
              · have f264977 := f264947.tr f264960 rfl
                have f264978 := f264948.tr f264960 rfl
                show wp _ _ 187 177 [(9, vI z264937), (8, vI z264914), (7, vI (-1)), (0, .ref r0), (1, vL v264642), (3, vI v264643), (4, vI v264644), (5, vI v264645), (6, vI v264646)] [vI z264961] _ H264955 _
                have u264979 := RC_k a264969
                refine wp_of e187 c187_177 (rw_goto (p1 := 181) (by decide) ?_)
                refine wp_of e187 c187_181 (rw_istore (pc' := 183) (z := z264961) (L' := [(10, vI z264961), (9, vI z264937), (8, vI z264914), (7, vI (-1)), (0, .ref r0), (1, vL v264642), (3, vI v264643), (4, vI v264644), (5, vI v264645), (6, vI v264646)]) rfl rfl rfl ?_)
                have _eb : xqb B n ((xN B n (xN B n (xN B n (xN B n (xN B n (xN B n (xN B n (xN B n (xN B n (xN B n q))))))))))) = ((xN B n (xN B n ((xN B n ((xN B n ((xN B n (xN B n (xN B n (xN B n (xN B n (xN B n (xN B n (xN B n (xN B n (xN B n q)))))))))))))))))) := by
                  unfold xqb
                  first | rw [if_pos (by omega)] | rw [if_neg (by omega)]
                have _enf : xnf B n ((xN B n (xN B n (xN B n (xN B n (xN B n (xN B n (xN B n (xN B n (xN B n (xN B n q))))))))))) = z264937 := by
                  unfold xnf
                  first | (rw [if_pos (by omega)] <;> omega) | (rw [if_neg (by omega)] <;> omega)
                have _ent : xnt B n ((xN B n (xN B n (xN B n (xN B n (xN B n (xN B n (xN B n (xN B n (xN B n (xN B n q))))))))))) = z264961 := by
                  unfold xnt
                  first | (rw [if_pos (by omega)] <;> omega) | (rw [if_neg (by omega)] <;> omega)
                refine wp_of e187 c187_183 (rw_aload_n (pc' := 184) (v := .ref r0) rfl rfl rfl ?_)
                refine wp_of e187 c187_184 (rw_ldcS (pc' := 186) (k := 85) rfl rfl rfl rfl ?_)
                have k264980 : H264955 r0 5 = H264931 r0 5 := (f264960 r0 5 _ g0 rfl)
                have q264981 : H264955 r0 5 = (rb : Int) := k264980.trans q264952
                refine wp_of e187 c187_186 (xc_V (pc' := 189) (r := r0) (as := [.ref 85]) (st := []) (lm_9_240) rfl rfl (Nat.le_of_ble_eq_true rfl) w264959 g0 sh_42 (by decide) rfl (by decide) (u_192_k (B := B) (n := n) (q := ((xN B n (xN B n ((xN B n ((xN B n ((xN B n (xN B n (xN B n (xN B n (xN B n (xN B n (xN B n (xN B n (xN B n (xN B n q))))))))))))))))))) (kk := 56377) w264959 g0 rfl q264981 grb (by decide +kernel) a264969) (fun R264982 T264983 H264984 p264985 => ?_))
                obtain ⟨e264986, w264988, f264989, z264990, e264987, b264991, p264992⟩ := p264985
                subst e264986
                subst e264987
                rcases p264992 with ⟨a264993, a264994, a264995⟩ | ⟨a264996, a264997, a264998⟩
                · have f264999 := f264977.tr f264989 rfl
                  have f265000 := f264978.tr f264989 rfl
                  show wp _ _ 187 189 [(10, vI z264961), (9, vI z264937), (8, vI z264914), (7, vI (-1)), (0, .ref r0), (1, vL v264642), (3, vI v264643), (4, vI v264644), (5, vI v264645), (6, vI v264646)] [vI z264990] _ H264984 _
                  have u265001 := RC_k a264995
                  refine wp_of e187 c187_189 (rw_istore (pc' := 191) (z := z264990) (L' := [(11, vI z264990), (10, vI z264961), (9, vI z264937), (8, vI z264914), (7, vI (-1)), (0, .ref r0), (1, vL v264642), (3, vI v264643), (4, vI v264644), (5, vI v264645), (6, vI v264646)]) rfl rfl rfl ?_)
                  have _ec : xqc B n ((xN B n (xN B n ((xN B n ((xN B n ((xN B n (xN B n (xN B n (xN B n (xN B n (xN B n (xN B n (xN B n (xN B n (xN B n q)))))))))))))))))) = ((xN B n ((xN B n (xN B n ((xN B n ((xN B n ((xN B n (xN B n (xN B n (xN B n (xN B n (xN B n (xN B n (xN B n (xN B n (xN B n q)))))))))))))))))))) := by
                    unfold xqc
                    first | rw [if_pos (by omega)] | rw [if_neg (by omega)]
                  have _ew : xaw B n ((xN B n (xN B n ((xN B n ((xN B n ((xN B n (xN B n (xN B n (xN B n (xN B n (xN B n (xN B n (xN B n (xN B n (xN B n q)))))))))))))))))) = z264990 := by
                    unfold xaw
                    first | (rw [if_pos (by omega)] <;> omega) | (rw [if_neg (by omega)] <;> omega)
                  refine wp_of e187 c187_191 (rw_aload_n (pc' := 192) (v := .ref r0) rfl rfl rfl ?_)
                  refine wp_of e187 c187_192 (xg_I (pc' := 195) lf_9_75 w264988 g0 sh_42 (by decide) (by decide) ty_42_9 rfl rfl (fun b265002 b265003 => ?_))
                  refine wp_of e187 c187_195 (rw_iconst (pc' := 196) rfl ?_)
                  refine wp_of e187 c187_196 (rw_icmp_ne (p1 := 200) (p2 := 199) (by decide) rfl ⟨by omega, by omega⟩ ⟨by omega, by omega⟩ (fun c265004 => ?_) (fun c265004 => ?_))
                  · have o265005 : (xl1 B n q d) = (0, (xN B n (xN B n (xN B n (xN B n (xN B n (xN B n (xN B n (xN B n (xN B n (xN B n q)))))))))), (xN B n ((xN B n (xN B n ((xN B n ((xN B n ((xN B n (xN B n (xN B n (xN B n (xN B n (xN B n (xN B n (xN B n (xN B n (xN B n q)))))))))))))))))))) := by
                      rw [x264658]
                      unfold xcs xca xcb xrg
                      try simp only [xs_xs, xs_z]
                      try rw [_ea]
                      try rw [_eb]
                      try rw [_ec]
                      repeat first | rw [xs_0 (by omega)] | rw [xs_1 (by omega)] | rw [if_pos (by omega)] | rw [if_neg (by omega)]
                      first | done | rfl | assumption | (exfalso; omega) | (refine Prod.ext ?_ (Prod.ext ?_ ?_) <;> (try dsimp only) <;> omega)
                    have o265005a : ((xl1 B n q d)).1 = 0 := by rw [o265005]
                    have o265005b : ((xl1 B n q d)).2.1 = (xN B n (xN B n (xN B n (xN B n (xN B n (xN B n (xN B n (xN B n (xN B n (xN B n q)))))))))) := by rw [o265005]
                    have o265005c : ((xl1 B n q d)).2.2 = (xN B n ((xN B n (xN B n ((xN B n ((xN B n ((xN B n (xN B n (xN B n (xN B n (xN B n (xN B n (xN B n (xN B n (xN B n (xN B n q))))))))))))))))))) := by rw [o265005]
                    have h265006 : DM T H264984 rp r0 d := (DM_fr w264959 grp f264989 rfl (DM_fr w264935 grp f264960 rfl (DM_fr w264912 grp f264936 rfl (DM_fr w264679 grp f264913 rfl (DM_fr w264648 grp f264680 rfl h264657)))))
                    exact wp_lc (ks := [11, 10, 9, 8, 7, 0, 1, 3, 4, 5, 6]) (wl_c rfl (wl_c rfl (wl_c rfl (wl_c rfl (wl_c rfl (wl_c rfl (wl_c rfl (wl_c rfl (wl_c rfl (wl_c rfl wl_n)))))))))) rfl (by decide) (u_187_k_t200k hW g0 qrp grp qrb grb p0 hRC_r0 hDM_rp v264642 v264643 v264644 v264645 v264646 (-1) z264937 z264961 z264990 H264984 w264988 f265000 ⟨by omega, by omega⟩ ⟨by omega, by omega⟩ ⟨by omega, by omega⟩ ⟨by omega, by omega⟩ ⟨by omega, by omega⟩ ⟨by omega, by omega⟩ ⟨by omega, by omega⟩ ⟨by omega, by omega⟩ ⟨by omega, by omega⟩ (by rw [show (xl1 B n q d).2.2 = ((xN B n ((xN B n (xN B n ((xN B n ((xN B n ((xN B n (xN B n (xN B n (xN B n (xN B n (xN B n (xN B n (xN B n (xN B n (xN B n q)))))))))))))))))))) by omega]; exact a264995) h265006 (by omega) (by omega) (by omega) (by omega) (by omega) (by omega) (by omega) (by omega) (by omega) (by omega) (by omega) (by rw [_ea]; exact _enf) (by rw [_ea]; exact _ent) (by rw [_ea, _eb]; exact _ew) (by omega))
                  · exfalso
                    omega
                · have f265007 := f264977.tr f264989 rfl
                  have f265008 := f264978.tr f264989 rfl
                  show wp _ _ 187 189 [(10, vI z264961), (9, vI z264937), (8, vI z264914), (7, vI (-1)), (0, .ref r0), (1, vL v264642), (3, vI v264643), (4, vI v264644), (5, vI v264645), (6, vI v264646)] [vI z264990] _ H264984 _
                  have u265009 := RC_k a264998
                  refine wp_of e187 c187_189 (rw_istore (pc' := 191) (z := z264990) (L' := [(11, vI z264990), (10, vI z264961), (9, vI z264937), (8, vI z264914), (7, vI (-1)), (0, .ref r0), (1, vL v264642), (3, vI v264643), (4, vI v264644), (5, vI v264645), (6, vI v264646)]) rfl rfl rfl ?_)
                  have _ec : xqc B n ((xN B n (xN B n ((xN B n ((xN B n ((xN B n (xN B n (xN B n (xN B n (xN B n (xN B n (xN B n (xN B n (xN B n (xN B n q)))))))))))))))))) = ((xN B n (xN B n ((xN B n ((xN B n ((xN B n (xN B n (xN B n (xN B n (xN B n (xN B n (xN B n (xN B n (xN B n (xN B n q)))))))))))))))))) := by
                    unfold xqc
                    first | rw [if_pos (by omega)] | rw [if_neg (by omega)]
                  have _ew : xaw B n ((xN B n (xN B n ((xN B n ((xN B n ((xN B n (xN B n (xN B n (xN B n (xN B n (xN B n (xN B n (xN B n (xN B n (xN B n q)))))))))))))))))) = z264990 := by
                    unfold xaw
                    first | (rw [if_pos (by omega)] <;> omega) | (rw [if_neg (by omega)] <;> omega)
                  refine wp_of e187 c187_191 (rw_aload_n (pc' := 192) (v := .ref r0) rfl rfl rfl ?_)
                  refine wp_of e187 c187_192 (xg_I (pc' := 195) lf_9_75 w264988 g0 sh_42 (by decide) (by decide) ty_42_9 rfl rfl (fun b265010 b265011 => ?_))
                  refine wp_of e187 c187_195 (rw_iconst (pc' := 196) rfl ?_)
                  refine wp_of e187 c187_196 (rw_icmp_ne (p1 := 200) (p2 := 199) (by decide) rfl ⟨by omega, by omega⟩ ⟨by omega, by omega⟩ (fun c265012 => ?_) (fun c265012 => ?_))
                  · have o265013 : (xl1 B n q d) = (0, (xN B n (xN B n (xN B n (xN B n (xN B n (xN B n (xN B n (xN B n (xN B n (xN B n q)))))))))), (xN B n (xN B n ((xN B n ((xN B n ((xN B n (xN B n (xN B n (xN B n (xN B n (xN B n (xN B n (xN B n (xN B n (xN B n q)))))))))))))))))) := by
                      rw [x264658]
                      unfold xcs xca xcb xrg
                      try simp only [xs_xs, xs_z]
                      try rw [_ea]
                      try rw [_eb]
                      try rw [_ec]
                      repeat first | rw [xs_0 (by omega)] | rw [xs_1 (by omega)] | rw [if_pos (by omega)] | rw [if_neg (by omega)]
                      first | done | rfl | assumption | (exfalso; omega) | (refine Prod.ext ?_ (Prod.ext ?_ ?_) <;> (try dsimp only) <;> omega)
                    have o265013a : ((xl1 B n q d)).1 = 0 := by rw [o265013]
                    have o265013b : ((xl1 B n q d)).2.1 = (xN B n (xN B n (xN B n (xN B n (xN B n (xN B n (xN B n (xN B n (xN B n (xN B n q)))))))))) := by rw [o265013]
                    have o265013c : ((xl1 B n q d)).2.2 = (xN B n (xN B n ((xN B n ((xN B n ((xN B n (xN B n (xN B n (xN B n (xN B n (xN B n (xN B n (xN B n (xN B n (xN B n q))))))))))))))))) := by rw [o265013]
                    have h265014 : DM T H264984 rp r0 d := (DM_fr w264959 grp f264989 rfl (DM_fr w264935 grp f264960 rfl (DM_fr w264912 grp f264936 rfl (DM_fr w264679 grp f264913 rfl (DM_fr w264648 grp f264680 rfl h264657)))))
                    exact wp_lc (ks := [11, 10, 9, 8, 7, 0, 1, 3, 4, 5, 6]) (wl_c rfl (wl_c rfl (wl_c rfl (wl_c rfl (wl_c rfl (wl_c rfl (wl_c rfl (wl_c rfl (wl_c rfl (wl_c rfl wl_n)))))))))) rfl (by decide) (u_187_k_t200k hW g0 qrp grp qrb grb p0 hRC_r0 hDM_rp v264642 v264643 v264644 v264645 v264646 (-1) z264937 z264961 z264990 H264984 w264988 f265008 ⟨by omega, by omega⟩ ⟨by omega, by omega⟩ ⟨by omega, by omega⟩ ⟨by omega, by omega⟩ ⟨by omega, by omega⟩ ⟨by omega, by omega⟩ ⟨by omega, by omega⟩ ⟨by omega, by omega⟩ ⟨by omega, by omega⟩ (by rw [show (xl1 B n q d).2.2 = ((xN B n (xN B n ((xN B n ((xN B n ((xN B n (xN B n (xN B n (xN B n (xN B n (xN B n (xN B n (xN B n (xN B n (xN B n q)))))))))))))))))) by omega]; exact a264998) h265014 (by omega) (by omega) (by omega) (by omega) (by omega) (by omega) (by omega) (by omega) (by omega) (by omega) (by omega) (by rw [_ea]; exact _enf) (by rw [_ea]; exact _ent) (by rw [_ea, _eb]; exact _ew) (by omega))
                  · exfalso
                    omega
              · have f265015 := f264947.tr f264960 rfl
                have f265016 := f264948.tr f264960 rfl
                show wp _ _ 187 177 [(9, vI z264937), (8, vI z264914), (7, vI (-1)), (0, .ref r0), (1, vL v264642), (3, vI v264643), (4, vI v264644), (5, vI v264645), (6, vI v264646)] [vI z264961] _ H264955 _
                have u265017 := RO_k a264972
                refine wp_of e187 c187_177 (rw_goto (p1 := 181) (by decide) ?_)
                refine wp_of e187 c187_181 (rw_istore (pc' := 183) (z := z264961) (L' := [(10, vI z264961), (9, vI z264937), (8, vI z264914), (7, vI (-1)), (0, .ref r0), (1, vL v264642), (3, vI v264643), (4, vI v264644), (5, vI v264645), (6, vI v264646)]) rfl rfl rfl ?_)
                have o265018 : (xl1 B n q d) = (xw B n ((xN B n ((xN B n ((xN B n (xN B n (xN B n (xN B n (xN B n (xN B n (xN B n (xN B n (xN B n (xN B n q))))))))))))))) 655, ((xN B n ((xN B n ((xN B n (xN B n (xN B n (xN B n (xN B n (xN B n (xN B n (xN B n (xN B n (xN B n q))))))))))))))), ((xN B n ((xN B n ((xN B n (xN B n (xN B n (xN B n (xN B n (xN B n (xN B n (xN B n (xN B n (xN B n q)))))))))))))))) := by
                  rw [x264658]
                  unfold xcs xca xcb xrg
                  try simp only [xs_xs, xs_z]
                  try rw [_ea]
                  try rw [_eb]
                  try rw [_ec]
                  repeat first | rw [xs_0 (by omega)] | rw [xs_1 (by omega)] | rw [if_pos (by omega)] | rw [if_neg (by omega)]
                  first | done | rfl | assumption | (exfalso; omega) | (refine Prod.ext ?_ (Prod.ext ?_ ?_) <;> (try dsimp only) <;> omega)
                have o265018a : ((xl1 B n q d)).1 = xw B n ((xN B n ((xN B n ((xN B n (xN B n (xN B n (xN B n (xN B n (xN B n (xN B n (xN B n (xN B n (xN B n q))))))))))))))) 655 := by rw [o265018]
                have o265018b : ((xl1 B n q d)).2.1 = ((xN B n ((xN B n ((xN B n (xN B n (xN B n (xN B n (xN B n (xN B n (xN B n (xN B n (xN B n (xN B n q))))))))))))))) := by rw [o265018]
                have o265018c : ((xl1 B n q d)).2.2 = ((xN B n ((xN B n ((xN B n (xN B n (xN B n (xN B n (xN B n (xN B n (xN B n (xN B n (xN B n (xN B n q))))))))))))))) := by rw [o265018]
                exact wp_lc (ks := [10, 9, 8, 7, 0, 1, 3, 4, 5, 6]) (wl_c rfl (wl_c rfl (wl_c rfl (wl_c rfl (wl_c rfl (wl_c rfl (wl_c rfl (wl_c rfl (wl_c rfl wl_n))))))))) rfl (by decide) (u_187_k_t183o hW g0 qrp grp qrb grb p0 hRC_r0 hDM_rp v264642 v264643 v264644 v264645 v264646 (-1) z264937 z264961 H264955 (xw B n ((xN B n ((xN B n ((xN B n (xN B n (xN B n (xN B n (xN B n (xN B n (xN B n (xN B n (xN B n (xN B n q))))))))))))))) 655) (((xN B n ((xN B n ((xN B n (xN B n (xN B n (xN B n (xN B n (xN B n (xN B n (xN B n (xN B n (xN B n q)))))))))))))))) w264959 f265016 ⟨by omega, by omega⟩ ⟨by omega, by omega⟩ ⟨by omega, by omega⟩ ⟨by omega, by omega⟩ ⟨by omega, by omega⟩ ⟨by omega, by omega⟩ ⟨by omega, by omega⟩ ⟨by omega, by omega⟩ a264972 (by omega) (by omega))
              · have f265019 := f264947.tr f264960 rfl
                have f265020 := f264948.tr f264960 rfl
                show wp _ _ 187 177 [(9, vI z264937), (8, vI z264914), (7, vI (-1)), (0, .ref r0), (1, vL v264642), (3, vI v264643), (4, vI v264644), (5, vI v264645), (6, vI v264646)] [vI z264961] _ H264955 _
                have u265021 := RO_k a264976
                refine wp_of e187 c187_177 (rw_goto (p1 := 181) (by decide) ?_)
                refine wp_of e187 c187_181 (rw_istore (pc' := 183) (z := z264961) (L' := [(10, vI z264961), (9, vI z264937), (8, vI z264914), (7, vI (-1)), (0, .ref r0), (1, vL v264642), (3, vI v264643), (4, vI v264644), (5, vI v264645), (6, vI v264646)]) rfl rfl rfl ?_)
                have o265022 : (xl1 B n q d) = (xh B n (xN B n ((xN B n ((xN B n ((xN B n (xN B n (xN B n (xN B n (xN B n (xN B n (xN B n (xN B n (xN B n (xN B n q)))))))))))))))) (xV B n (xN B n ((xN B n (xN B n (xN B n (xN B n (xN B n (xN B n (xN B n (xN B n (xN B n (xN B n q)))))))))))) + 1) (min (xV B n (xN B n ((xN B n (xN B n (xN B n (xN B n (xN B n (xN B n (xN B n (xN B n (xN B n (xN B n q)))))))))))) + 24) 24), (xN B n ((xN B n ((xN B n ((xN B n (xN B n (xN B n (xN B n (xN B n (xN B n (xN B n (xN B n (xN B n (xN B n q)))))))))))))))), (xN B n ((xN B n ((xN B n ((xN B n (xN B n (xN B n (xN B n (xN B n (xN B n (xN B n (xN B n (xN B n (xN B n q))))))))))))))))) := by
                  rw [x264658]
                  unfold xcs xca xcb xrg
                  try simp only [xs_xs, xs_z]
                  try rw [_ea]
                  try rw [_eb]
                  try rw [_ec]
                  repeat first | rw [xs_0 (by omega)] | rw [xs_1 (by omega)] | rw [if_pos (by omega)] | rw [if_neg (by omega)]
                  first | done | rfl | assumption | (exfalso; omega) | (refine Prod.ext ?_ (Prod.ext ?_ ?_) <;> (try dsimp only) <;> omega)
                have o265022a : ((xl1 B n q d)).1 = xh B n (xN B n ((xN B n ((xN B n ((xN B n (xN B n (xN B n (xN B n (xN B n (xN B n (xN B n (xN B n (xN B n (xN B n q)))))))))))))))) (xV B n (xN B n ((xN B n (xN B n (xN B n (xN B n (xN B n (xN B n (xN B n (xN B n (xN B n (xN B n q)))))))))))) + 1) (min (xV B n (xN B n ((xN B n (xN B n (xN B n (xN B n (xN B n (xN B n (xN B n (xN B n (xN B n (xN B n q)))))))))))) + 24) 24) := by rw [o265022]
                have o265022b : ((xl1 B n q d)).2.1 = (xN B n ((xN B n ((xN B n ((xN B n (xN B n (xN B n (xN B n (xN B n (xN B n (xN B n (xN B n (xN B n (xN B n q)))))))))))))))) := by rw [o265022]
                have o265022c : ((xl1 B n q d)).2.2 = (xN B n ((xN B n ((xN B n ((xN B n (xN B n (xN B n (xN B n (xN B n (xN B n (xN B n (xN B n (xN B n (xN B n q)))))))))))))))) := by rw [o265022]
                exact wp_lc (ks := [10, 9, 8, 7, 0, 1, 3, 4, 5, 6]) (wl_c rfl (wl_c rfl (wl_c rfl (wl_c rfl (wl_c rfl (wl_c rfl (wl_c rfl (wl_c rfl (wl_c rfl wl_n))))))))) rfl (by decide) (u_187_k_t183o hW g0 qrp grp qrb grb p0 hRC_r0 hDM_rp v264642 v264643 v264644 v264645 v264646 (-1) z264937 z264961 H264955 (xh B n (xN B n ((xN B n ((xN B n ((xN B n (xN B n (xN B n (xN B n (xN B n (xN B n (xN B n (xN B n (xN B n (xN B n q)))))))))))))))) (xV B n (xN B n ((xN B n (xN B n (xN B n (xN B n (xN B n (xN B n (xN B n (xN B n (xN B n (xN B n q)))))))))))) + 1) (min (xV B n (xN B n ((xN B n (xN B n (xN B n (xN B n (xN B n (xN B n (xN B n (xN B n (xN B n (xN B n q)))))))))))) + 24) 24)) ((xN B n ((xN B n ((xN B n ((xN B n (xN B n (xN B n (xN B n (xN B n (xN B n (xN B n (xN B n (xN B n (xN B n q))))))))))))))))) w264959 f265020 ⟨by omega, by omega⟩ ⟨by omega, by omega⟩ ⟨by omega, by omega⟩ ⟨by omega, by omega⟩ ⟨by omega, by omega⟩ ⟨by omega, by omega⟩ ⟨by omega, by omega⟩ ⟨by omega, by omega⟩ a264976 (by omega) (by omega))
          · have f265023 := f264923.tr f264936 rfl
            have f265024 := f264924.tr f264936 rfl
            show wp _ _ 187 154 [(8, vI z264914), (7, vI (-1)), (0, .ref r0), (1, vL v264642), (3, vI v264643), (4, vI v264644), (5, vI v264645), (6, vI v264646)] [vI z264937] _ H264931 _
            have u265025 := RO_k a264946
            refine wp_of e187 c187_154 (rw_goto (p1 := 158) (by decide) ?_)
            refine wp_of e187 c187_158 (rw_istore (pc' := 160) (z := z264937) (L' := [(9, vI z264937), (8, vI z264914), (7, vI (-1)), (0, .ref r0), (1, vL v264642), (3, vI v264643), (4, vI v264644), (5, vI v264645), (6, vI v264646)]) rfl rfl rfl ?_)
            refine wp_of e187 c187_160 (rw_iload (pc' := 162) (z := z264914) rfl rfl ?_)
            refine wp_of e187 c187_162 (rw_if_eq (p1 := 180) (p2 := 165) (by decide) rfl ⟨by omega, by omega⟩ (fun c265026 => ?_) (fun c265026 => ?_))
            · exfalso
              omega
            · refine wp_of e187 c187_165 (rw_aload_n (pc' := 166) (v := .ref r0) rfl rfl rfl ?_)
              refine wp_of e187 c187_166 (rw_ldcS (pc' := 168) (k := 87) rfl rfl rfl rfl ?_)
              refine wp_of e187 c187_168 (rw_iload (pc' := 170) (z := z264937) rfl rfl ?_)
              refine wp_of e187 c187_170 (rw_iconst (pc' := 171) rfl ?_)
              refine wp_of e187 c187_171 (rw_iadd (pc' := 172) rfl ?_)
              refine wp_of e187 c187_172 (rw_bipush (pc' := 174) (z := 24) rfl (by decide) ?_)
              have k265027 : H264931 r0 5 = H264908 r0 5 := (f264936 r0 5 _ g0 rfl)
              have q265028 : H264931 r0 5 = (rb : Int) := k265027.trans q264928
              refine wp_of e187 c187_174 (xc_V (pc' := 177) (r := r0) (as := [.ref 87, vI (z264937 + 1), vI 24]) (st := []) (lm_9_216) rfl rfl (Nat.le_of_ble_eq_true rfl) w264935 g0 sh_42 (by decide) rfl (by decide) (u_182_o (fo := (xh B n ((xN B n ((xN B n (xN B n (xN B n (xN B n (xN B n (xN B n (xN B n (xN B n (xN B n (xN B n q))))))))))))) 0 23)) (po := (((xN B n ((xN B n (xN B n (xN B n (xN B n (xN B n (xN B n (xN B n (xN B n (xN B n (xN B n q))))))))))))))) (kk := 655) w264935 g0 rfl ⟨by omega, by omega⟩ ⟨by omega, by omega⟩ q265028 grb (by decide +kernel) a264946) (fun R265029 T265030 H265031 p265032 => ?_))
              obtain ⟨e265033, e265035, z265036, e265034, b265037, p265038⟩ := p265032
              subst e265033
              subst e265034
              subst e265035
              obtain ⟨a265039, a265040⟩ := p265038
              show wp _ _ 187 177 [(9, vI z264937), (8, vI z264914), (7, vI (-1)), (0, .ref r0), (1, vL v264642), (3, vI v264643), (4, vI v264644), (5, vI v264645), (6, vI v264646)] [vI z265036] _ H264931 _
              have u265041 := RO_k a265040
              refine wp_of e187 c187_177 (rw_goto (p1 := 181) (by decide) ?_)
              refine wp_of e187 c187_181 (rw_istore (pc' := 183) (z := z265036) (L' := [(10, vI z265036), (9, vI z264937), (8, vI z264914), (7, vI (-1)), (0, .ref r0), (1, vL v264642), (3, vI v264643), (4, vI v264644), (5, vI v264645), (6, vI v264646)]) rfl rfl rfl ?_)
              have o265042 : (xl1 B n q d) = (xh B n ((xN B n ((xN B n (xN B n (xN B n (xN B n (xN B n (xN B n (xN B n (xN B n (xN B n (xN B n q))))))))))))) 0 23, ((xN B n ((xN B n (xN B n (xN B n (xN B n (xN B n (xN B n (xN B n (xN B n (xN B n (xN B n q))))))))))))), ((xN B n ((xN B n (xN B n (xN B n (xN B n (xN B n (xN B n (xN B n (xN B n (xN B n (xN B n q)))))))))))))) := by
                rw [x264658]
                unfold xcs xca xcb xrg
                try simp only [xs_xs, xs_z]
                try rw [_ea]
                try rw [_eb]
                try rw [_ec]
                repeat first | rw [xs_0 (by omega)] | rw [xs_1 (by omega)] | rw [if_pos (by omega)] | rw [if_neg (by omega)]
                first | done | rfl | assumption | (exfalso; omega) | (refine Prod.ext ?_ (Prod.ext ?_ ?_) <;> (try dsimp only) <;> omega)
              have o265042a : ((xl1 B n q d)).1 = xh B n ((xN B n ((xN B n (xN B n (xN B n (xN B n (xN B n (xN B n (xN B n (xN B n (xN B n (xN B n q))))))))))))) 0 23 := by rw [o265042]
              have o265042b : ((xl1 B n q d)).2.1 = ((xN B n ((xN B n (xN B n (xN B n (xN B n (xN B n (xN B n (xN B n (xN B n (xN B n (xN B n q))))))))))))) := by rw [o265042]
              have o265042c : ((xl1 B n q d)).2.2 = ((xN B n ((xN B n (xN B n (xN B n (xN B n (xN B n (xN B n (xN B n (xN B n (xN B n (xN B n q))))))))))))) := by rw [o265042]
              exact wp_lc (ks := [10, 9, 8, 7, 0, 1, 3, 4, 5, 6]) (wl_c rfl (wl_c rfl (wl_c rfl (wl_c rfl (wl_c rfl (wl_c rfl (wl_c rfl (wl_c rfl (wl_c rfl wl_n))))))))) rfl (by decide) (u_187_k_t183o hW g0 qrp grp qrb grb p0 hRC_r0 hDM_rp v264642 v264643 v264644 v264645 v264646 (-1) z264937 z265036 H264931 (xh B n ((xN B n ((xN B n (xN B n (xN B n (xN B n (xN B n (xN B n (xN B n (xN B n (xN B n (xN B n q))))))))))))) 0 23) (((xN B n ((xN B n (xN B n (xN B n (xN B n (xN B n (xN B n (xN B n (xN B n (xN B n (xN B n q)))))))))))))) w264935 f265024 ⟨by omega, by omega⟩ ⟨by omega, by omega⟩ ⟨by omega, by omega⟩ ⟨by omega, by omega⟩ ⟨by omega, by omega⟩ ⟨by omega, by omega⟩ ⟨by omega, by omega⟩ ⟨by omega, by omega⟩ a265040 (by omega) (by omega))
      · have f265043 := f264900.tr f264913 rfl
        have f265044 := f264901.tr f264913 rfl
        show wp _ _ 187 140 [(7, vI (-1)), (0, .ref r0), (1, vL v264642), (3, vI v264643), (4, vI v264644), (5, vI v264645), (6, vI v264646)] [vI z264914] _ H264908 _
        have u265045 := RC_k a264922
        refine wp_of e187 c187_140 (rw_istore (pc' := 142) (z := z264914) (L' := [(8, vI z264914), (7, vI (-1)), (0, .ref r0), (1, vL v264642), (3, vI v264643), (4, vI v264644), (5, vI v264645), (6, vI v264646)]) rfl rfl rfl ?_)
        refine wp_of e187 c187_142 (rw_iload (pc' := 144) (z := z264914) rfl rfl ?_)
        refine wp_of e187 c187_144 (rw_if_eq (p1 := 157) (p2 := 147) (by decide) rfl ⟨by omega, by omega⟩ (fun c265046 => ?_) (fun c265046 => ?_))
        · refine wp_of e187 c187_157 (rw_iconst (pc' := 158) rfl ?_)
          refine wp_of e187 c187_158 (rw_istore (pc' := 160) (z := 0) (L' := [(9, vI 0), (8, vI z264914), (7, vI (-1)), (0, .ref r0), (1, vL v264642), (3, vI v264643), (4, vI v264644), (5, vI v264645), (6, vI v264646)]) rfl rfl rfl ?_)
          refine wp_of e187 c187_160 (rw_iload (pc' := 162) (z := z264914) rfl rfl ?_)
          refine wp_of e187 c187_162 (rw_if_eq (p1 := 180) (p2 := 165) (by decide) rfl ⟨by omega, by omega⟩ (fun c265047 => ?_) (fun c265047 => ?_))
          · refine wp_of e187 c187_180 (rw_iconst (pc' := 181) rfl ?_)
            refine wp_of e187 c187_181 (rw_istore (pc' := 183) (z := 0) (L' := [(10, vI 0), (9, vI 0), (8, vI z264914), (7, vI (-1)), (0, .ref r0), (1, vL v264642), (3, vI v264643), (4, vI v264644), (5, vI v264645), (6, vI v264646)]) rfl rfl rfl ?_)
            have _eb : xqb B n ((xN B n (xN B n (xN B n (xN B n (xN B n (xN B n (xN B n (xN B n (xN B n (xN B n q))))))))))) = ((xN B n (xN B n (xN B n (xN B n (xN B n (xN B n (xN B n (xN B n (xN B n (xN B n q))))))))))) := by
              unfold xqb
              first | rw [if_pos (by omega)] | rw [if_neg (by omega)]
            have _enf : xnf B n ((xN B n (xN B n (xN B n (xN B n (xN B n (xN B n (xN B n (xN B n (xN B n (xN B n q))))))))))) = 0 := by
              unfold xnf
              first | (rw [if_pos (by omega)] <;> omega) | (rw [if_neg (by omega)] <;> omega)
            have _ent : xnt B n ((xN B n (xN B n (xN B n (xN B n (xN B n (xN B n (xN B n (xN B n (xN B n (xN B n q))))))))))) = 0 := by
              unfold xnt
              first | (rw [if_pos (by omega)] <;> omega) | (rw [if_neg (by omega)] <;> omega)
            refine wp_of e187 c187_183 (rw_aload_n (pc' := 184) (v := .ref r0) rfl rfl rfl ?_)
            refine wp_of e187 c187_184 (rw_ldcS (pc' := 186) (k := 85) rfl rfl rfl rfl ?_)
            have k265048 : H264908 r0 5 = H264675 r0 5 := (f264913 r0 5 _ g0 rfl)
            have q265049 : H264908 r0 5 = (rb : Int) := k265048.trans q264905
            refine wp_of e187 c187_186 (xc_V (pc' := 189) (r := r0) (as := [.ref 85]) (st := []) (lm_9_240) rfl rfl (Nat.le_of_ble_eq_true rfl) w264912 g0 sh_42 (by decide) rfl (by decide) (u_192_k (B := B) (n := n) (q := ((xN B n (xN B n (xN B n (xN B n (xN B n (xN B n (xN B n (xN B n (xN B n (xN B n q)))))))))))) (kk := 56377) w264912 g0 rfl q265049 grb (by decide +kernel) a264922) (fun R265050 T265051 H265052 p265053 => ?_))
            obtain ⟨e265054, w265056, f265057, z265058, e265055, b265059, p265060⟩ := p265053
            subst e265054
            subst e265055
            rcases p265060 with ⟨a265061, a265062, a265063⟩ | ⟨a265064, a265065, a265066⟩
            · have f265067 := f265043.tr f265057 rfl
              have f265068 := f265044.tr f265057 rfl
              show wp _ _ 187 189 [(10, vI 0), (9, vI 0), (8, vI z264914), (7, vI (-1)), (0, .ref r0), (1, vL v264642), (3, vI v264643), (4, vI v264644), (5, vI v264645), (6, vI v264646)] [vI z265058] _ H265052 _
              have u265069 := RC_k a265063
              refine wp_of e187 c187_189 (rw_istore (pc' := 191) (z := z265058) (L' := [(11, vI z265058), (10, vI 0), (9, vI 0), (8, vI z264914), (7, vI (-1)), (0, .ref r0), (1, vL v264642), (3, vI v264643), (4, vI v264644), (5, vI v264645), (6, vI v264646)]) rfl rfl rfl ?_)
              have _ec : xqc B n ((xN B n (xN B n (xN B n (xN B n (xN B n (xN B n (xN B n (xN B n (xN B n (xN B n q))))))))))) = ((xN B n ((xN B n (xN B n (xN B n (xN B n (xN B n (xN B n (xN B n (xN B n (xN B n (xN B n q))))))))))))) := by
                unfold xqc
                first | rw [if_pos (by omega)] | rw [if_neg (by omega)]
              have _ew : xaw B n ((xN B n (xN B n (xN B n (xN B n (xN B n (xN B n (xN B n (xN B n (xN B n (xN B n q))))))))))) = z265058 := by
                unfold xaw
                first | (rw [if_pos (by omega)] <;> omega) | (rw [if_neg (by omega)] <;> omega)
              refine wp_of e187 c187_191 (rw_aload_n (pc' := 192) (v := .ref r0) rfl rfl rfl ?_)
              refine wp_of e187 c187_192 (xg_I (pc' := 195) lf_9_75 w265056 g0 sh_42 (by decide) (by decide) ty_42_9 rfl rfl (fun b265070 b265071 => ?_))
              refine wp_of e187 c187_195 (rw_iconst (pc' := 196) rfl ?_)
              refine wp_of e187 c187_196 (rw_icmp_ne (p1 := 200) (p2 := 199) (by decide) rfl ⟨by omega, by omega⟩ ⟨by omega, by omega⟩ (fun c265072 => ?_) (fun c265072 => ?_))
              · have o265073 : (xl1 B n q d) = (0, (xN B n (xN B n (xN B n (xN B n (xN B n (xN B n (xN B n (xN B n (xN B n (xN B n q)))))))))), (xN B n ((xN B n (xN B n (xN B n (xN B n (xN B n (xN B n (xN B n (xN B n (xN B n (xN B n q))))))))))))) := by
                  rw [x264658]
                  unfold xcs xca xcb xrg
                  try simp only [xs_xs, xs_z]
                  try rw [_ea]
                  try rw [_eb]
                  try rw [_ec]
                  repeat first | rw [xs_0 (by omega)] | rw [xs_1 (by omega)] | rw [if_pos (by omega)] | rw [if_neg (by omega)]
                  first | done | rfl | assumption | (exfalso; omega) | (refine Prod.ext ?_ (Prod.ext ?_ ?_) <;> (try dsimp only) <;> omega)
                have o265073a : ((xl1 B n q d)).1 = 0 := by rw [o265073]
                have o265073b : ((xl1 B n q d)).2.1 = (xN B n (xN B n (xN B n (xN B n (xN B n (xN B n (xN B n (xN B n (xN B n (xN B n q)))))))))) := by rw [o265073]
                have o265073c : ((xl1 B n q d)).2.2 = (xN B n ((xN B n (xN B n (xN B n (xN B n (xN B n (xN B n (xN B n (xN B n (xN B n (xN B n q)))))))))))) := by rw [o265073]
                have h265074 : DM T H265052 rp r0 d := (DM_fr w264912 grp f265057 rfl (DM_fr w264679 grp f264913 rfl (DM_fr w264648 grp f264680 rfl h264657)))
                exact wp_lc (ks := [11, 10, 9, 8, 7, 0, 1, 3, 4, 5, 6]) (wl_c rfl (wl_c rfl (wl_c rfl (wl_c rfl (wl_c rfl (wl_c rfl (wl_c rfl (wl_c rfl (wl_c rfl (wl_c rfl wl_n)))))))))) rfl (by decide) (u_187_k_t200k hW g0 qrp grp qrb grb p0 hRC_r0 hDM_rp v264642 v264643 v264644 v264645 v264646 (-1) 0 0 z265058 H265052 w265056 f265068 ⟨by omega, by omega⟩ ⟨by omega, by omega⟩ ⟨by omega, by omega⟩ ⟨by omega, by omega⟩ ⟨by omega, by omega⟩ ⟨by omega, by omega⟩ ⟨by omega, by omega⟩ ⟨by omega, by omega⟩ ⟨by omega, by omega⟩ (by rw [show (xl1 B n q d).2.2 = ((xN B n ((xN B n (xN B n (xN B n (xN B n (xN B n (xN B n (xN B n (xN B n (xN B n (xN B n q))))))))))))) by omega]; exact a265063) h265074 (by omega) (by omega) (by omega) (by omega) (by omega) (by omega) (by omega) (by omega) (by omega) (by omega) (by omega) (by rw [_ea]; exact _enf) (by rw [_ea]; exact _ent) (by rw [_ea, _eb]; exact _ew) (by omega))
              · exfalso
                omega
            · have f265075 := f265043.tr f265057 rfl
              have f265076 := f265044.tr f265057 rfl
              show wp _ _ 187 189 [(10, vI 0), (9, vI 0), (8, vI z264914), (7, vI (-1)), (0, .ref r0), (1, vL v264642), (3, vI v264643), (4, vI v264644), (5, vI v264645), (6, vI v264646)] [vI z265058] _ H265052 _
              have u265077 := RC_k a265066
              refine wp_of e187 c187_189 (rw_istore (pc' := 191) (z := z265058) (L' := [(11, vI z265058), (10, vI 0), (9, vI 0), (8, vI z264914), (7, vI (-1)), (0, .ref r0), (1, vL v264642), (3, vI v264643), (4, vI v264644), (5, vI v264645), (6, vI v264646)]) rfl rfl rfl ?_)
              have _ec : xqc B n ((xN B n (xN B n (xN B n (xN B n (xN B n (xN B n (xN B n (xN B n (xN B n (xN B n q))))))))))) = ((xN B n (xN B n (xN B n (xN B n (xN B n (xN B n (xN B n (xN B n (xN B n (xN B n q))))))))))) := by
                unfold xqc
                first | rw [if_pos (by omega)] | rw [if_neg (by omega)]
              have _ew : xaw B n ((xN B n (xN B n (xN B n (xN B n (xN B n (xN B n (xN B n (xN B n (xN B n (xN B n q))))))))))) = z265058 := by
                unfold xaw
                first | (rw [if_pos (by omega)] <;> omega) | (rw [if_neg (by omega)] <;> omega)
              refine wp_of e187 c187_191 (rw_aload_n (pc' := 192) (v := .ref r0) rfl rfl rfl ?_)
              refine wp_of e187 c187_192 (xg_I (pc' := 195) lf_9_75 w265056 g0 sh_42 (by decide) (by decide) ty_42_9 rfl rfl (fun b265078 b265079 => ?_))
              refine wp_of e187 c187_195 (rw_iconst (pc' := 196) rfl ?_)
              refine wp_of e187 c187_196 (rw_icmp_ne (p1 := 200) (p2 := 199) (by decide) rfl ⟨by omega, by omega⟩ ⟨by omega, by omega⟩ (fun c265080 => ?_) (fun c265080 => ?_))
              · have o265081 : (xl1 B n q d) = (0, (xN B n (xN B n (xN B n (xN B n (xN B n (xN B n (xN B n (xN B n (xN B n (xN B n q)))))))))), (xN B n (xN B n (xN B n (xN B n (xN B n (xN B n (xN B n (xN B n (xN B n (xN B n q))))))))))) := by
                  rw [x264658]
                  unfold xcs xca xcb xrg
                  try simp only [xs_xs, xs_z]
                  try rw [_ea]
                  try rw [_eb]
                  try rw [_ec]
                  repeat first | rw [xs_0 (by omega)] | rw [xs_1 (by omega)] | rw [if_pos (by omega)] | rw [if_neg (by omega)]
                  first | done | rfl | assumption | (exfalso; omega) | (refine Prod.ext ?_ (Prod.ext ?_ ?_) <;> (try dsimp only) <;> omega)
                have o265081a : ((xl1 B n q d)).1 = 0 := by rw [o265081]
                have o265081b : ((xl1 B n q d)).2.1 = (xN B n (xN B n (xN B n (xN B n (xN B n (xN B n (xN B n (xN B n (xN B n (xN B n q)))))))))) := by rw [o265081]
                have o265081c : ((xl1 B n q d)).2.2 = (xN B n (xN B n (xN B n (xN B n (xN B n (xN B n (xN B n (xN B n (xN B n (xN B n q)))))))))) := by rw [o265081]
                have h265082 : DM T H265052 rp r0 d := (DM_fr w264912 grp f265057 rfl (DM_fr w264679 grp f264913 rfl (DM_fr w264648 grp f264680 rfl h264657)))
                exact wp_lc (ks := [11, 10, 9, 8, 7, 0, 1, 3, 4, 5, 6]) (wl_c rfl (wl_c rfl (wl_c rfl (wl_c rfl (wl_c rfl (wl_c rfl (wl_c rfl (wl_c rfl (wl_c rfl (wl_c rfl wl_n)))))))))) rfl (by decide) (u_187_k_t200k hW g0 qrp grp qrb grb p0 hRC_r0 hDM_rp v264642 v264643 v264644 v264645 v264646 (-1) 0 0 z265058 H265052 w265056 f265076 ⟨by omega, by omega⟩ ⟨by omega, by omega⟩ ⟨by omega, by omega⟩ ⟨by omega, by omega⟩ ⟨by omega, by omega⟩ ⟨by omega, by omega⟩ ⟨by omega, by omega⟩ ⟨by omega, by omega⟩ ⟨by omega, by omega⟩ (by rw [show (xl1 B n q d).2.2 = ((xN B n (xN B n (xN B n (xN B n (xN B n (xN B n (xN B n (xN B n (xN B n (xN B n q))))))))))) by omega]; exact a265066) h265082 (by omega) (by omega) (by omega) (by omega) (by omega) (by omega) (by omega) (by omega) (by omega) (by omega) (by omega) (by rw [_ea]; exact _enf) (by rw [_ea]; exact _ent) (by rw [_ea, _eb]; exact _ew) (by omega))
              · exfalso
                omega
          · exfalso
            omega
        · exfalso
          omega
    · exfalso
      omega
set_option maxHeartbeats 60000000 in
theorem u_187_k_t112o {kt : Nat → Option mc_E} {T : wq_T} {H : wq_H} {r0 : Nat} {rp : Nat} {rb : Nat} {B : Nat → Int} {n : Int} {q : Int} {d : xD} (hW : WT T H) (g0 : T.2.2.2 r0 = some 42) (qrp : H r0 4 = (rp : Int)) (grp : T.2.2.2 rp = some 54) (qrb : H r0 5 = (rb : Int)) (grb : T.2.2.2 rb = some 43) (p0 : xK B n q = 1) (hRC_r0 : RC T H r0 B n q) (hDM_rp : DM T H rp r0 d) : ∀ (v265102 : Int) (v265103 : Int) (v265104 : Int) (v265105 : Int) (v265106 : Int) (H265107 : wq_H) (fo265111 : Int) (po265112 : Int), WT T H265107 → wfr [(42, 8), (42, 9), (42, 10), (42, 11), (42, 12), (42, 13), (42, 14), (42, 15)] T H H265107 → ((-9223372036854775808) ≤ v265102 ∧ v265102 ≤ 9223372036854775807) → (0 ≤ v265103 ∧ v265103 ≤ 23) → (0 ≤ v265104 ∧ v265104 ≤ 30) → (0 ≤ v265105 ∧ v265105 ≤ 12) → (0 ≤ v265106 ∧ v265106 ≤ 16) → RO T H265107 r0 fo265111 po265112 → ((xl1 B n q d).1 = fo265111) → ((xl1 B n q d).2.1 = po265112) → wp kt 4 187 112 [(0, .ref r0), (1, vL v265102), (3, vI v265103), (4, vI v265104), (5, vI v265105), (6, vI v265106)] [] T H265107 (uq_187_k r0 rp rb B n q d T H) := by
  have f0 : wfr [(54, 3), (42, 8), (42, 9), (42, 10), (42, 11), (42, 12), (42, 13), (42, 14), (42, 15), (56, 999), (57, 999), (60, 999), (63, 999), (58, 999), (59, 999), (55, 999), (61, 999), (62, 999)] T H H := wfr.rf
  have u265083 := RC_k hRC_r0
  have u265084 := DM_k hDM_rp
  have h265085 : MA9 T H rp (d 1) := hDM_rp.2.2.2.1
  have h265086 : MA10 T H rp (d 2) := hDM_rp.2.2.2.2.1
  have h265087 : MA11 T H rp (d 3) := hDM_rp.2.2.2.2.2.1
  have h265088 : MA12 T H rp (d 4) := hDM_rp.2.2.2.2.2.2.1
  have h265089 : MA13 T H rp (d 5) := hDM_rp.2.2.2.2.2.2.2.1
  have h265090 : MA14 T H rp (d 6) := hDM_rp.2.2.2.2.2.2.2.2.1
  have h265091 : MA15 T H rp (d 7) := hDM_rp.2.2.2.2.2.2.2.2.2.1
  have h265092 : MA16 T H rp (d 8) := hDM_rp.2.2.2.2.2.2.2.2.2.2.1
  have h265093 : MA17 T H rp (d 9) := hDM_rp.2.2.2.2.2.2.2.2.2.2.2.1
  have h265094 : MA18 T H rp (d 10) := hDM_rp.2.2.2.2.2.2.2.2.2.2.2.2.1
  have h265095 : MA19 T H rp (d 11) := hDM_rp.2.2.2.2.2.2.2.2.2.2.2.2.2.1
  have h265096 : MA20 T H rp (d 12) := hDM_rp.2.2.2.2.2.2.2.2.2.2.2.2.2.2.1
  have h265097 : MA21 T H rp (d 13) := hDM_rp.2.2.2.2.2.2.2.2.2.2.2.2.2.2.2.1
  have h265098 : MA22 T H rp (d 14) := hDM_rp.2.2.2.2.2.2.2.2.2.2.2.2.2.2.2.2.1
  have h265099 : MA23 T H rp (d 15) := hDM_rp.2.2.2.2.2.2.2.2.2.2.2.2.2.2.2.2.2.1
  have h265100 : MA25 T H rp (d 17) := hDM_rp.2.2.2.2.2.2.2.2.2.2.2.2.2.2.2.2.2.2.1
  have h265101 : MA26 T H rp (d 16) := hDM_rp.2.2.2.2.2.2.2.2.2.2.2.2.2.2.2.2.2.2.2
  intro v265102 v265103 v265104 v265105 v265106 H265107 fo265111 po265112 w265108 f265109 b265113 b265114 b265115 b265116 b265117 h265118 x265119 x265120
  have f265121 : wfr [(54, 3), (42, 8), (42, 9), (42, 10), (42, 11), (42, 12), (42, 13), (42, 14), (42, 15), (56, 999), (57, 999), (60, 999), (63, 999), (58, 999), (59, 999), (55, 999), (61, 999), (62, 999)] T H H265107 := wfr.rf.tr f265109 rfl
  have u265122 := RO_k h265118
  refine wp_of e187 c187_112 (rw_aload_n (pc' := 113) (v := .ref r0) rfl rfl rfl ?_)
  refine wp_of e187 c187_113 (rw_ldcS (pc' := 115) (k := 83) rfl rfl rfl rfl ?_)
  have k265123 : H265107 r0 5 = H r0 5 := (f265109 r0 5 _ g0 rfl)
  have q265124 : H265107 r0 5 = (rb : Int) := k265123.trans qrb
  refine wp_of e187 c187_115 (xc_V (pc' := 118) (r := r0) (as := [.ref 83]) (st := []) (lm_9_240) rfl rfl (Nat.le_of_ble_eq_true rfl) w265108 g0 sh_42 (by decide) rfl (by decide) (u_192_o (fo := fo265111) (po := po265112) (kk := 8423732) w265108 g0 rfl q265124 grb (by decide +kernel) h265118) (fun R265125 T265126 H265127 p265128 => ?_))
  obtain ⟨e265129, e265131, z265132, e265130, b265133, p265134⟩ := p265128
  subst e265129
  subst e265130
  subst e265131
  obtain ⟨a265135, a265136⟩ := p265134
  show wp _ _ 187 118 [(0, .ref r0), (1, vL v265102), (3, vI v265103), (4, vI v265104), (5, vI v265105), (6, vI v265106)] [vI z265132] _ H265107 _
  have u265137 := RO_k a265136
  refine wp_of e187 c187_118 (rw_if_eq (p1 := 131) (p2 := 121) (by decide) rfl ⟨by omega, by omega⟩ (fun c265138 => ?_) (fun c265138 => ?_))
  · refine wp_of e187 c187_131 (rw_iconst (pc' := 132) rfl ?_)
    refine wp_of e187 c187_132 (rw_istore (pc' := 134) (z := -1) (L' := [(7, vI (-1)), (0, .ref r0), (1, vL v265102), (3, vI v265103), (4, vI v265104), (5, vI v265105), (6, vI v265106)]) rfl rfl rfl ?_)
    exact wp_lc (ks := [7, 0, 1, 3, 4, 5, 6]) (wl_c rfl (wl_c rfl (wl_c rfl (wl_c rfl (wl_c rfl (wl_c rfl (wl_c rfl wl_n))))))) rfl (by decide) (u_187_k_t134o hW g0 qrp grp qrb grb p0 hRC_r0 hDM_rp v265102 v265103 v265104 v265105 v265106 (-1) H265107 fo265111 po265112 w265108 f265109 ⟨by omega, by omega⟩ ⟨by omega, by omega⟩ ⟨by omega, by omega⟩ ⟨by omega, by omega⟩ ⟨by omega, by omega⟩ ⟨by omega, by omega⟩ a265136 (by omega) (by omega))
  · exfalso
    omega
set_option maxHeartbeats 60000000 in
theorem u_187_k_t93o {kt : Nat → Option mc_E} {T : wq_T} {H : wq_H} {r0 : Nat} {rp : Nat} {rb : Nat} {B : Nat → Int} {n : Int} {q : Int} {d : xD} (hW : WT T H) (g0 : T.2.2.2 r0 = some 42) (qrp : H r0 4 = (rp : Int)) (grp : T.2.2.2 rp = some 54) (qrb : H r0 5 = (rb : Int)) (grb : T.2.2.2 rb = some 43) (p0 : xK B n q = 1) (hRC_r0 : RC T H r0 B n q) (hDM_rp : DM T H rp r0 d) : ∀ (v265158 : Int) (v265159 : Int) (v265160 : Int) (v265161 : Int) (H265162 : wq_H) (fo265166 : Int) (po265167 : Int), WT T H265162 → wfr [(42, 8), (42, 9), (42, 10), (42, 11), (42, 12), (42, 13), (42, 14), (42, 15)] T H H265162 → ((-9223372036854775808) ≤ v265158 ∧ v265158 ≤ 9223372036854775807) → (0 ≤ v265159 ∧ v265159 ≤ 23) → (0 ≤ v265160 ∧ v265160 ≤ 30) → (0 ≤ v265161 ∧ v265161 ≤ 12) → RO T H265162 r0 fo265166 po265167 → ((xl1 B n q d).1 = fo265166) → ((xl1 B n q d).2.1 = po265167) → wp kt 4 187 93 [(0, .ref r0), (1, vL v265158), (3, vI v265159), (4, vI v265160), (5, vI v265161)] [] T H265162 (uq_187_k r0 rp rb B n q d T H) := by
  have f0 : wfr [(54, 3), (42, 8), (42, 9), (42, 10), (42, 11), (42, 12), (42, 13), (42, 14), (42, 15), (56, 999), (57, 999), (60, 999), (63, 999), (58, 999), (59, 999), (55, 999), (61, 999), (62, 999)] T H H := wfr.rf
  have u265139 := RC_k hRC_r0
  have u265140 := DM_k hDM_rp
  have h265141 : MA9 T H rp (d 1) := hDM_rp.2.2.2.1
  have h265142 : MA10 T H rp (d 2) := hDM_rp.2.2.2.2.1
  have h265143 : MA11 T H rp (d 3) := hDM_rp.2.2.2.2.2.1
  have h265144 : MA12 T H rp (d 4) := hDM_rp.2.2.2.2.2.2.1
  have h265145 : MA13 T H rp (d 5) := hDM_rp.2.2.2.2.2.2.2.1
  have h265146 : MA14 T H rp (d 6) := hDM_rp.2.2.2.2.2.2.2.2.1
  have h265147 : MA15 T H rp (d 7) := hDM_rp.2.2.2.2.2.2.2.2.2.1
  have h265148 : MA16 T H rp (d 8) := hDM_rp.2.2.2.2.2.2.2.2.2.2.1
  have h265149 : MA17 T H rp (d 9) := hDM_rp.2.2.2.2.2.2.2.2.2.2.2.1
  have h265150 : MA18 T H rp (d 10) := hDM_rp.2.2.2.2.2.2.2.2.2.2.2.2.1
  have h265151 : MA19 T H rp (d 11) := hDM_rp.2.2.2.2.2.2.2.2.2.2.2.2.2.1
  have h265152 : MA20 T H rp (d 12) := hDM_rp.2.2.2.2.2.2.2.2.2.2.2.2.2.2.1
  have h265153 : MA21 T H rp (d 13) := hDM_rp.2.2.2.2.2.2.2.2.2.2.2.2.2.2.2.1
  have h265154 : MA22 T H rp (d 14) := hDM_rp.2.2.2.2.2.2.2.2.2.2.2.2.2.2.2.2.1
  have h265155 : MA23 T H rp (d 15) := hDM_rp.2.2.2.2.2.2.2.2.2.2.2.2.2.2.2.2.2.1
  have h265156 : MA25 T H rp (d 17) := hDM_rp.2.2.2.2.2.2.2.2.2.2.2.2.2.2.2.2.2.2.1
  have h265157 : MA26 T H rp (d 16) := hDM_rp.2.2.2.2.2.2.2.2.2.2.2.2.2.2.2.2.2.2.2
  intro v265158 v265159 v265160 v265161 H265162 fo265166 po265167 w265163 f265164 b265168 b265169 b265170 b265171 h265172 x265173 x265174
  have f265175 : wfr [(54, 3), (42, 8), (42, 9), (42, 10), (42, 11), (42, 12), (42, 13), (42, 14), (42, 15), (56, 999), (57, 999), (60, 999), (63, 999), (58, 999), (59, 999), (55, 999), (61, 999), (62, 999)] T H H265162 := wfr.rf.tr f265164 rfl
  have u265176 := RO_k h265172
  refine wp_of e187 c187_93 (rw_aload_n (pc' := 94) (v := .ref r0) rfl rfl rfl ?_)
  refine wp_of e187 c187_94 (rw_ldcS (pc' := 96) (k := 87) rfl rfl rfl rfl ?_)
  refine wp_of e187 c187_96 (rw_iload (pc' := 98) (z := v265161) rfl rfl ?_)
  refine wp_of e187 c187_98 (rw_bipush (pc' := 100) (z := 12) rfl (by decide) ?_)
  refine wp_of e187 c187_100 (rw_iload (pc' := 102) (z := v265161) rfl rfl ?_)
  refine wp_of e187 c187_102 (rw_iconst (pc' := 103) rfl ?_)
  refine wp_of e187 c187_103 (rw_iadd (pc' := 104) rfl ?_)
  refine wp_of e187 c187_104 (xc_S (pc' := 107) (as := [vI 12, vI (v265161 + 4)]) (st := [vI v265161, .ref 87, .ref r0]) (lm_9_235) rfl rfl (Nat.le_of_ble_eq_true rfl) rfl (by decide) (u_191  w265163 ⟨by omega, by omega⟩ ⟨by omega, by omega⟩) (fun R265177 T265178 H265179 p265180 => ?_))
  obtain ⟨e265181, e265183, z265184, e265182, b265185, p265186⟩ := p265180
  subst e265181
  subst e265182
  subst e265183
  show wp _ _ 187 107 [(0, .ref r0), (1, vL v265158), (3, vI v265159), (4, vI v265160), (5, vI v265161)] [vI z265184, vI v265161, .ref 87, .ref r0] _ H265162 _
  have k265188 : H265162 r0 5 = H r0 5 := (f265164 r0 5 _ g0 rfl)
  have q265189 : H265162 r0 5 = (rb : Int) := k265188.trans qrb
  refine wp_of e187 c187_107 (xc_V (pc' := 110) (r := r0) (as := [.ref 87, vI v265161, vI z265184]) (st := []) (lm_9_216) rfl rfl (Nat.le_of_ble_eq_true rfl) w265163 g0 sh_42 (by decide) rfl (by decide) (u_182_o (fo := fo265166) (po := po265167) (kk := 655) w265163 g0 rfl ⟨by omega, by omega⟩ ⟨by omega, by omega⟩ q265189 grb (by decide +kernel) h265172) (fun R265190 T265191 H265192 p265193 => ?_))
  obtain ⟨e265194, e265196, z265197, e265195, b265198, p265199⟩ := p265193
  subst e265194
  subst e265195
  subst e265196
  obtain ⟨a265200, a265201⟩ := p265199
  show wp _ _ 187 110 [(0, .ref r0), (1, vL v265158), (3, vI v265159), (4, vI v265160), (5, vI v265161)] [vI z265197] _ H265162 _
  have u265202 := RO_k a265201
  refine wp_of e187 c187_110 (rw_istore (pc' := 112) (z := z265197) (L' := [(6, vI z265197), (0, .ref r0), (1, vL v265158), (3, vI v265159), (4, vI v265160), (5, vI v265161)]) rfl rfl rfl ?_)
  exact wp_lc (ks := [6, 0, 1, 3, 4, 5]) (wl_c rfl (wl_c rfl (wl_c rfl (wl_c rfl (wl_c rfl (wl_c rfl wl_n)))))) rfl (by decide) (u_187_k_t112o hW g0 qrp grp qrb grb p0 hRC_r0 hDM_rp v265158 v265159 v265160 v265161 z265197 H265162 fo265166 po265167 w265163 f265164 ⟨by omega, by omega⟩ ⟨by omega, by omega⟩ ⟨by omega, by omega⟩ ⟨by omega, by omega⟩ ⟨by omega, by omega⟩ a265201 (by omega) (by omega))
set_option maxHeartbeats 60000000 in
theorem u_187_k_t82o {kt : Nat → Option mc_E} {T : wq_T} {H : wq_H} {r0 : Nat} {rp : Nat} {rb : Nat} {B : Nat → Int} {n : Int} {q : Int} {d : xD} (hW : WT T H) (g0 : T.2.2.2 r0 = some 42) (qrp : H r0 4 = (rp : Int)) (grp : T.2.2.2 rp = some 54) (qrb : H r0 5 = (rb : Int)) (grb : T.2.2.2 rb = some 43) (p0 : xK B n q = 1) (hRC_r0 : RC T H r0 B n q) (hDM_rp : DM T H rp r0 d) : ∀ (v265222 : Int) (v265223 : Int) (v265224 : Int) (H265225 : wq_H) (fo265229 : Int) (po265230 : Int), WT T H265225 → wfr [(42, 8), (42, 9), (42, 10), (42, 11), (42, 12), (42, 13), (42, 14), (42, 15)] T H H265225 → ((-9223372036854775808) ≤ v265222 ∧ v265222 ≤ 9223372036854775807) → (0 ≤ v265223 ∧ v265223 ≤ 23) → (0 ≤ v265224 ∧ v265224 ≤ 30) → RO T H265225 r0 fo265229 po265230 → ((xl1 B n q d).1 = fo265229) → ((xl1 B n q d).2.1 = po265230) → wp kt 4 187 82 [(0, .ref r0), (1, vL v265222), (3, vI v265223), (4, vI v265224)] [] T H265225 (uq_187_k r0 rp rb B n q d T H) := by
  have f0 : wfr [(54, 3), (42, 8), (42, 9), (42, 10), (42, 11), (42, 12), (42, 13), (42, 14), (42, 15), (56, 999), (57, 999), (60, 999), (63, 999), (58, 999), (59, 999), (55, 999), (61, 999), (62, 999)] T H H := wfr.rf
  have u265203 := RC_k hRC_r0
  have u265204 := DM_k hDM_rp
  have h265205 : MA9 T H rp (d 1) := hDM_rp.2.2.2.1
  have h265206 : MA10 T H rp (d 2) := hDM_rp.2.2.2.2.1
  have h265207 : MA11 T H rp (d 3) := hDM_rp.2.2.2.2.2.1
  have h265208 : MA12 T H rp (d 4) := hDM_rp.2.2.2.2.2.2.1
  have h265209 : MA13 T H rp (d 5) := hDM_rp.2.2.2.2.2.2.2.1
  have h265210 : MA14 T H rp (d 6) := hDM_rp.2.2.2.2.2.2.2.2.1
  have h265211 : MA15 T H rp (d 7) := hDM_rp.2.2.2.2.2.2.2.2.2.1
  have h265212 : MA16 T H rp (d 8) := hDM_rp.2.2.2.2.2.2.2.2.2.2.1
  have h265213 : MA17 T H rp (d 9) := hDM_rp.2.2.2.2.2.2.2.2.2.2.2.1
  have h265214 : MA18 T H rp (d 10) := hDM_rp.2.2.2.2.2.2.2.2.2.2.2.2.1
  have h265215 : MA19 T H rp (d 11) := hDM_rp.2.2.2.2.2.2.2.2.2.2.2.2.2.1
  have h265216 : MA20 T H rp (d 12) := hDM_rp.2.2.2.2.2.2.2.2.2.2.2.2.2.2.1
  have h265217 : MA21 T H rp (d 13) := hDM_rp.2.2.2.2.2.2.2.2.2.2.2.2.2.2.2.1
  have h265218 : MA22 T H rp (d 14) := hDM_rp.2.2.2.2.2.2.2.2.2.2.2.2.2.2.2.2.1
  have h265219 : MA23 T H rp (d 15) := hDM_rp.2.2.2.2.2.2.2.2.2.2.2.2.2.2.2.2.2.1
  have h265220 : MA25 T H rp (d 17) := hDM_rp.2.2.2.2.2.2.2.2.2.2.2.2.2.2.2.2.2.2.1
  have h265221 : MA26 T H rp (d 16) := hDM_rp.2.2.2.2.2.2.2.2.2.2.2.2.2.2.2.2.2.2.2
  intro v265222 v265223 v265224 H265225 fo265229 po265230 w265226 f265227 b265231 b265232 b265233 h265234 x265235 x265236
  have f265237 : wfr [(54, 3), (42, 8), (42, 9), (42, 10), (42, 11), (42, 12), (42, 13), (42, 14), (42, 15), (56, 999), (57, 999), (60, 999), (63, 999), (58, 999), (59, 999), (55, 999), (61, 999), (62, 999)] T H H265225 := wfr.rf.tr f265227 rfl
  have u265238 := RO_k h265234
  refine wp_of e187 c187_82 (rw_aload_n (pc' := 83) (v := .ref r0) rfl rfl rfl ?_)
  refine wp_of e187 c187_83 (rw_ldcS (pc' := 85) (k := 88) rfl rfl rfl rfl ?_)
  refine wp_of e187 c187_85 (rw_iconst (pc' := 86) rfl ?_)
  refine wp_of e187 c187_86 (rw_bipush (pc' := 88) (z := 12) rfl (by decide) ?_)
  have k265239 : H265225 r0 5 = H r0 5 := (f265227 r0 5 _ g0 rfl)
  have q265240 : H265225 r0 5 = (rb : Int) := k265239.trans qrb
  refine wp_of e187 c187_88 (xc_V (pc' := 91) (r := r0) (as := [.ref 88, vI 0, vI 12]) (st := []) (lm_9_216) rfl rfl (Nat.le_of_ble_eq_true rfl) w265226 g0 sh_42 (by decide) rfl (by decide) (u_182_o (fo := fo265229) (po := po265230) (kk := 409031) w265226 g0 rfl ⟨by omega, by omega⟩ ⟨by omega, by omega⟩ q265240 grb (by decide +kernel) h265234) (fun R265241 T265242 H265243 p265244 => ?_))
  obtain ⟨e265245, e265247, z265248, e265246, b265249, p265250⟩ := p265244
  subst e265245
  subst e265246
  subst e265247
  obtain ⟨a265251, a265252⟩ := p265250
  show wp _ _ 187 91 [(0, .ref r0), (1, vL v265222), (3, vI v265223), (4, vI v265224)] [vI z265248] _ H265225 _
  have u265253 := RO_k a265252
  refine wp_of e187 c187_91 (rw_istore (pc' := 93) (z := z265248) (L' := [(5, vI z265248), (0, .ref r0), (1, vL v265222), (3, vI v265223), (4, vI v265224)]) rfl rfl rfl ?_)
  exact wp_lc (ks := [5, 0, 1, 3, 4]) (wl_c rfl (wl_c rfl (wl_c rfl (wl_c rfl (wl_c rfl wl_n))))) rfl (by decide) (u_187_k_t93o hW g0 qrp grp qrb grb p0 hRC_r0 hDM_rp v265222 v265223 v265224 z265248 H265225 fo265229 po265230 w265226 f265227 ⟨by omega, by omega⟩ ⟨by omega, by omega⟩ ⟨by omega, by omega⟩ ⟨by omega, by omega⟩ a265252 (by omega) (by omega))
set_option maxHeartbeats 60000000 in
theorem u_187_k_t64o {kt : Nat → Option mc_E} {T : wq_T} {H : wq_H} {r0 : Nat} {rp : Nat} {rb : Nat} {B : Nat → Int} {n : Int} {q : Int} {d : xD} (hW : WT T H) (g0 : T.2.2.2 r0 = some 42) (qrp : H r0 4 = (rp : Int)) (grp : T.2.2.2 rp = some 54) (qrb : H r0 5 = (rb : Int)) (grb : T.2.2.2 rb = some 43) (p0 : xK B n q = 1) (hRC_r0 : RC T H r0 B n q) (hDM_rp : DM T H rp r0 d) : ∀ (v265273 : Int) (v265274 : Int) (H265275 : wq_H) (fo265279 : Int) (po265280 : Int), WT T H265275 → wfr [(42, 8), (42, 9), (42, 10), (42, 11), (42, 12), (42, 13), (42, 14), (42, 15)] T H H265275 → ((-9223372036854775808) ≤ v265273 ∧ v265273 ≤ 9223372036854775807) → (0 ≤ v265274 ∧ v265274 ≤ 23) → RO T H265275 r0 fo265279 po265280 → ((xl1 B n q d).1 = fo265279) → ((xl1 B n q d).2.1 = po265280) → wp kt 4 187 64 [(0, .ref r0), (1, vL v265273), (3, vI v265274)] [] T H265275 (uq_187_k r0 rp rb B n q d T H) := by
  have f0 : wfr [(54, 3), (42, 8), (42, 9), (42, 10), (42, 11), (42, 12), (42, 13), (42, 14), (42, 15), (56, 999), (57, 999), (60, 999), (63, 999), (58, 999), (59, 999), (55, 999), (61, 999), (62, 999)] T H H := wfr.rf
  have u265254 := RC_k hRC_r0
  have u265255 := DM_k hDM_rp
  have h265256 : MA9 T H rp (d 1) := hDM_rp.2.2.2.1
  have h265257 : MA10 T H rp (d 2) := hDM_rp.2.2.2.2.1
  have h265258 : MA11 T H rp (d 3) := hDM_rp.2.2.2.2.2.1
  have h265259 : MA12 T H rp (d 4) := hDM_rp.2.2.2.2.2.2.1
  have h265260 : MA13 T H rp (d 5) := hDM_rp.2.2.2.2.2.2.2.1
  have h265261 : MA14 T H rp (d 6) := hDM_rp.2.2.2.2.2.2.2.2.1
  have h265262 : MA15 T H rp (d 7) := hDM_rp.2.2.2.2.2.2.2.2.2.1
  have h265263 : MA16 T H rp (d 8) := hDM_rp.2.2.2.2.2.2.2.2.2.2.1
  have h265264 : MA17 T H rp (d 9) := hDM_rp.2.2.2.2.2.2.2.2.2.2.2.1
  have h265265 : MA18 T H rp (d 10) := hDM_rp.2.2.2.2.2.2.2.2.2.2.2.2.1
  have h265266 : MA19 T H rp (d 11) := hDM_rp.2.2.2.2.2.2.2.2.2.2.2.2.2.1
  have h265267 : MA20 T H rp (d 12) := hDM_rp.2.2.2.2.2.2.2.2.2.2.2.2.2.2.1
  have h265268 : MA21 T H rp (d 13) := hDM_rp.2.2.2.2.2.2.2.2.2.2.2.2.2.2.2.1
  have h265269 : MA22 T H rp (d 14) := hDM_rp.2.2.2.2.2.2.2.2.2.2.2.2.2.2.2.2.1
  have h265270 : MA23 T H rp (d 15) := hDM_rp.2.2.2.2.2.2.2.2.2.2.2.2.2.2.2.2.2.1
  have h265271 : MA25 T H rp (d 17) := hDM_rp.2.2.2.2.2.2.2.2.2.2.2.2.2.2.2.2.2.2.1
  have h265272 : MA26 T H rp (d 16) := hDM_rp.2.2.2.2.2.2.2.2.2.2.2.2.2.2.2.2.2.2.2
  intro v265273 v265274 H265275 fo265279 po265280 w265276 f265277 b265281 b265282 h265283 x265284 x265285
  have f265286 : wfr [(54, 3), (42, 8), (42, 9), (42, 10), (42, 11), (42, 12), (42, 13), (42, 14), (42, 15), (56, 999), (57, 999), (60, 999), (63, 999), (58, 999), (59, 999), (55, 999), (61, 999), (62, 999)] T H H265275 := wfr.rf.tr f265277 rfl
  have u265287 := RO_k h265283
  refine wp_of e187 c187_64 (rw_aload_n (pc' := 65) (v := .ref r0) rfl rfl rfl ?_)
  refine wp_of e187 c187_65 (rw_ldcS (pc' := 67) (k := 87) rfl rfl rfl rfl ?_)
  refine wp_of e187 c187_67 (rw_iload_n (pc' := 68) (z := v265274) rfl rfl ?_)
  refine wp_of e187 c187_68 (rw_bipush (pc' := 70) (z := 23) rfl (by decide) ?_)
  refine wp_of e187 c187_70 (rw_iload_n (pc' := 71) (z := v265274) rfl rfl ?_)
  refine wp_of e187 c187_71 (rw_bipush (pc' := 73) (z := 7) rfl (by decide) ?_)
  refine wp_of e187 c187_73 (rw_iadd (pc' := 74) rfl ?_)
  refine wp_of e187 c187_74 (xc_S (pc' := 77) (as := [vI 23, vI (v265274 + 7)]) (st := [vI v265274, .ref 87, .ref r0]) (lm_9_235) rfl rfl (Nat.le_of_ble_eq_true rfl) rfl (by decide) (u_191  w265276 ⟨by omega, by omega⟩ ⟨by omega, by omega⟩) (fun R265288 T265289 H265290 p265291 => ?_))
  obtain ⟨e265292, e265294, z265295, e265293, b265296, p265297⟩ := p265291
  subst e265292
  subst e265293
  subst e265294
  show wp _ _ 187 77 [(0, .ref r0), (1, vL v265273), (3, vI v265274)] [vI z265295, vI v265274, .ref 87, .ref r0] _ H265275 _
  have k265299 : H265275 r0 5 = H r0 5 := (f265277 r0 5 _ g0 rfl)
  have q265300 : H265275 r0 5 = (rb : Int) := k265299.trans qrb
  refine wp_of e187 c187_77 (xc_V (pc' := 80) (r := r0) (as := [.ref 87, vI v265274, vI z265295]) (st := []) (lm_9_216) rfl rfl (Nat.le_of_ble_eq_true rfl) w265276 g0 sh_42 (by decide) rfl (by decide) (u_182_o (fo := fo265279) (po := po265280) (kk := 655) w265276 g0 rfl ⟨by omega, by omega⟩ ⟨by omega, by omega⟩ q265300 grb (by decide +kernel) h265283) (fun R265301 T265302 H265303 p265304 => ?_))
  obtain ⟨e265305, e265307, z265308, e265306, b265309, p265310⟩ := p265304
  subst e265305
  subst e265306
  subst e265307
  obtain ⟨a265311, a265312⟩ := p265310
  show wp _ _ 187 80 [(0, .ref r0), (1, vL v265273), (3, vI v265274)] [vI z265308] _ H265275 _
  have u265313 := RO_k a265312
  refine wp_of e187 c187_80 (rw_istore (pc' := 82) (z := z265308) (L' := [(4, vI z265308), (0, .ref r0), (1, vL v265273), (3, vI v265274)]) rfl rfl rfl ?_)
  exact wp_lc (ks := [4, 0, 1, 3]) (wl_c rfl (wl_c rfl (wl_c rfl (wl_c rfl wl_n)))) rfl (by decide) (u_187_k_t82o hW g0 qrp grp qrb grb p0 hRC_r0 hDM_rp v265273 v265274 z265308 H265275 fo265279 po265280 w265276 f265277 ⟨by omega, by omega⟩ ⟨by omega, by omega⟩ ⟨by omega, by omega⟩ a265312 (by omega) (by omega))
set_option maxHeartbeats 60000000 in
theorem u_187_k_t54o {kt : Nat → Option mc_E} {T : wq_T} {H : wq_H} {r0 : Nat} {rp : Nat} {rb : Nat} {B : Nat → Int} {n : Int} {q : Int} {d : xD} (hW : WT T H) (g0 : T.2.2.2 r0 = some 42) (qrp : H r0 4 = (rp : Int)) (grp : T.2.2.2 rp = some 54) (qrb : H r0 5 = (rb : Int)) (grb : T.2.2.2 rb = some 43) (p0 : xK B n q = 1) (hRC_r0 : RC T H r0 B n q) (hDM_rp : DM T H rp r0 d) : ∀ (v265333 : Int) (H265334 : wq_H) (fo265338 : Int) (po265339 : Int), WT T H265334 → wfr [(42, 8), (42, 9), (42, 10), (42, 11), (42, 12), (42, 13), (42, 14), (42, 15)] T H H265334 → ((-9223372036854775808) ≤ v265333 ∧ v265333 ≤ 9223372036854775807) → RO T H265334 r0 fo265338 po265339 → ((xl1 B n q d).1 = fo265338) → ((xl1 B n q d).2.1 = po265339) → wp kt 4 187 54 [(0, .ref r0), (1, vL v265333)] [] T H265334 (uq_187_k r0 rp rb B n q d T H) := by
  have f0 : wfr [(54, 3), (42, 8), (42, 9), (42, 10), (42, 11), (42, 12), (42, 13), (42, 14), (42, 15), (56, 999), (57, 999), (60, 999), (63, 999), (58, 999), (59, 999), (55, 999), (61, 999), (62, 999)] T H H := wfr.rf
  have u265314 := RC_k hRC_r0
  have u265315 := DM_k hDM_rp
  have h265316 : MA9 T H rp (d 1) := hDM_rp.2.2.2.1
  have h265317 : MA10 T H rp (d 2) := hDM_rp.2.2.2.2.1
  have h265318 : MA11 T H rp (d 3) := hDM_rp.2.2.2.2.2.1
  have h265319 : MA12 T H rp (d 4) := hDM_rp.2.2.2.2.2.2.1
  have h265320 : MA13 T H rp (d 5) := hDM_rp.2.2.2.2.2.2.2.1
  have h265321 : MA14 T H rp (d 6) := hDM_rp.2.2.2.2.2.2.2.2.1
  have h265322 : MA15 T H rp (d 7) := hDM_rp.2.2.2.2.2.2.2.2.2.1
  have h265323 : MA16 T H rp (d 8) := hDM_rp.2.2.2.2.2.2.2.2.2.2.1
  have h265324 : MA17 T H rp (d 9) := hDM_rp.2.2.2.2.2.2.2.2.2.2.2.1
  have h265325 : MA18 T H rp (d 10) := hDM_rp.2.2.2.2.2.2.2.2.2.2.2.2.1
  have h265326 : MA19 T H rp (d 11) := hDM_rp.2.2.2.2.2.2.2.2.2.2.2.2.2.1
  have h265327 : MA20 T H rp (d 12) := hDM_rp.2.2.2.2.2.2.2.2.2.2.2.2.2.2.1
  have h265328 : MA21 T H rp (d 13) := hDM_rp.2.2.2.2.2.2.2.2.2.2.2.2.2.2.2.1
  have h265329 : MA22 T H rp (d 14) := hDM_rp.2.2.2.2.2.2.2.2.2.2.2.2.2.2.2.2.1
  have h265330 : MA23 T H rp (d 15) := hDM_rp.2.2.2.2.2.2.2.2.2.2.2.2.2.2.2.2.2.1
  have h265331 : MA25 T H rp (d 17) := hDM_rp.2.2.2.2.2.2.2.2.2.2.2.2.2.2.2.2.2.2.1
  have h265332 : MA26 T H rp (d 16) := hDM_rp.2.2.2.2.2.2.2.2.2.2.2.2.2.2.2.2.2.2.2
  intro v265333 H265334 fo265338 po265339 w265335 f265336 b265340 h265341 x265342 x265343
  have f265344 : wfr [(54, 3), (42, 8), (42, 9), (42, 10), (42, 11), (42, 12), (42, 13), (42, 14), (42, 15), (56, 999), (57, 999), (60, 999), (63, 999), (58, 999), (59, 999), (55, 999), (61, 999), (62, 999)] T H H265334 := wfr.rf.tr f265336 rfl
  have u265345 := RO_k h265341
  refine wp_of e187 c187_54 (rw_aload_n (pc' := 55) (v := .ref r0) rfl rfl rfl ?_)
  refine wp_of e187 c187_55 (rw_ldcS (pc' := 57) (k := 86) rfl rfl rfl rfl ?_)
  refine wp_of e187 c187_57 (rw_iconst (pc' := 58) rfl ?_)
  refine wp_of e187 c187_58 (rw_bipush (pc' := 60) (z := 23) rfl (by decide) ?_)
  have k265346 : H265334 r0 5 = H r0 5 := (f265336 r0 5 _ g0 rfl)
  have q265347 : H265334 r0 5 = (rb : Int) := k265346.trans qrb
  refine wp_of e187 c187_60 (xc_V (pc' := 63) (r := r0) (as := [.ref 86, vI 0, vI 23]) (st := []) (lm_9_216) rfl rfl (Nat.le_of_ble_eq_true rfl) w265335 g0 sh_42 (by decide) rfl (by decide) (u_182_o (fo := fo265338) (po := po265339) (kk := 2212) w265335 g0 rfl ⟨by omega, by omega⟩ ⟨by omega, by omega⟩ q265347 grb (by decide +kernel) h265341) (fun R265348 T265349 H265350 p265351 => ?_))
  obtain ⟨e265352, e265354, z265355, e265353, b265356, p265357⟩ := p265351
  subst e265352
  subst e265353
  subst e265354
  obtain ⟨a265358, a265359⟩ := p265357
  show wp _ _ 187 63 [(0, .ref r0), (1, vL v265333)] [vI z265355] _ H265334 _
  have u265360 := RO_k a265359
  refine wp_of e187 c187_63 (rw_istore_n (pc' := 64) (z := z265355) (L' := [(3, vI z265355), (0, .ref r0), (1, vL v265333)]) rfl rfl rfl ?_)
  exact wp_lc (ks := [3, 0, 1]) (wl_c rfl (wl_c rfl (wl_c rfl wl_n))) rfl (by decide) (u_187_k_t64o hW g0 qrp grp qrb grb p0 hRC_r0 hDM_rp v265333 z265355 H265334 fo265338 po265339 w265335 f265336 ⟨by omega, by omega⟩ ⟨by omega, by omega⟩ a265359 (by omega) (by omega))
set_option maxHeartbeats 60000000 in
theorem u_187_k_t45o {kt : Nat → Option mc_E} {T : wq_T} {H : wq_H} {r0 : Nat} {rp : Nat} {rb : Nat} {B : Nat → Int} {n : Int} {q : Int} {d : xD} (hW : WT T H) (g0 : T.2.2.2 r0 = some 42) (qrp : H r0 4 = (rp : Int)) (grp : T.2.2.2 rp = some 54) (qrb : H r0 5 = (rb : Int)) (grb : T.2.2.2 rb = some 43) (p0 : xK B n q = 1) (hRC_r0 : RC T H r0 B n q) (hDM_rp : DM T H rp r0 d) : ∀  (H265380 : wq_H) (fo265384 : Int) (po265385 : Int), WT T H265380 → wfr [(42, 8), (42, 9), (42, 10), (42, 11), (42, 12), (42, 13), (42, 14), (42, 15)] T H H265380 → RO T H265380 r0 fo265384 po265385 → ((xl1 B n q d).1 = fo265384) → ((xl1 B n q d).2.1 = po265385) → wp kt 4 187 45 [(0, .ref r0)] [] T H265380 (uq_187_k r0 rp rb B n q d T H) := by
  have f0 : wfr [(54, 3), (42, 8), (42, 9), (42, 10), (42, 11), (42, 12), (42, 13), (42, 14), (42, 15), (56, 999), (57, 999), (60, 999), (63, 999), (58, 999), (59, 999), (55, 999), (61, 999), (62, 999)] T H H := wfr.rf
  have u265361 := RC_k hRC_r0
  have u265362 := DM_k hDM_rp
  have h265363 : MA9 T H rp (d 1) := hDM_rp.2.2.2.1
  have h265364 : MA10 T H rp (d 2) := hDM_rp.2.2.2.2.1
  have h265365 : MA11 T H rp (d 3) := hDM_rp.2.2.2.2.2.1
  have h265366 : MA12 T H rp (d 4) := hDM_rp.2.2.2.2.2.2.1
  have h265367 : MA13 T H rp (d 5) := hDM_rp.2.2.2.2.2.2.2.1
  have h265368 : MA14 T H rp (d 6) := hDM_rp.2.2.2.2.2.2.2.2.1
  have h265369 : MA15 T H rp (d 7) := hDM_rp.2.2.2.2.2.2.2.2.2.1
  have h265370 : MA16 T H rp (d 8) := hDM_rp.2.2.2.2.2.2.2.2.2.2.1
  have h265371 : MA17 T H rp (d 9) := hDM_rp.2.2.2.2.2.2.2.2.2.2.2.1
  have h265372 : MA18 T H rp (d 10) := hDM_rp.2.2.2.2.2.2.2.2.2.2.2.2.1
  have h265373 : MA19 T H rp (d 11) := hDM_rp.2.2.2.2.2.2.2.2.2.2.2.2.2.1
  have h265374 : MA20 T H rp (d 12) := hDM_rp.2.2.2.2.2.2.2.2.2.2.2.2.2.2.1
  have h265375 : MA21 T H rp (d 13) := hDM_rp.2.2.2.2.2.2.2.2.2.2.2.2.2.2.2.1
  have h265376 : MA22 T H rp (d 14) := hDM_rp.2.2.2.2.2.2.2.2.2.2.2.2.2.2.2.2.1
  have h265377 : MA23 T H rp (d 15) := hDM_rp.2.2.2.2.2.2.2.2.2.2.2.2.2.2.2.2.2.1
  have h265378 : MA25 T H rp (d 17) := hDM_rp.2.2.2.2.2.2.2.2.2.2.2.2.2.2.2.2.2.2.1
  have h265379 : MA26 T H rp (d 16) := hDM_rp.2.2.2.2.2.2.2.2.2.2.2.2.2.2.2.2.2.2.2
  intro H265380 fo265384 po265385 w265381 f265382 h265386 x265387 x265388
  have f265389 : wfr [(54, 3), (42, 8), (42, 9), (42, 10), (42, 11), (42, 12), (42, 13), (42, 14), (42, 15), (56, 999), (57, 999), (60, 999), (63, 999), (58, 999), (59, 999), (55, 999), (61, 999), (62, 999)] T H H265380 := wfr.rf.tr f265382 rfl
  have u265390 := RO_k h265386
  refine wp_of e187 c187_45 (rw_aload_n (pc' := 46) (v := .ref r0) rfl rfl rfl ?_)
  refine wp_of e187 c187_46 (xg_L (pc' := 49) lf_9_94 w265381 g0 sh_42 (by decide) (by decide) ty_42_15 rfl rfl (fun b265391 b265392 => ?_))
  refine wp_of e187 c187_49 (rw_lstore_n (pc' := 50) (z := H265380 r0 15) (L' := [(1, vL (H265380 r0 15)), (0, .ref r0)]) rfl rfl rfl ?_)
  refine wp_of e187 c187_50 (rw_aload_n (pc' := 51) (v := .ref r0) rfl rfl rfl ?_)
  refine wp_of e187 c187_51 (xc_V (pc' := 54) (r := r0) (as := []) (st := []) (lm_9_118) rfl rfl (Nat.le_of_ble_eq_true rfl) w265381 g0 sh_42 (by decide) rfl (by decide) (u_172_o (fo := fo265384) (po := po265385) w265381 g0 h265386) (fun R265393 T265394 H265395 p265396 => ?_))
  obtain ⟨e265397, e265399, e265398, p265400⟩ := p265396
  subst e265397
  subst e265398
  subst e265399
  show wp _ _ 187 54 [(1, vL (H265380 r0 15)), (0, .ref r0)] [] _ H265380 _
  have u265402 := RO_k p265400
  exact wp_lc (ks := [1, 0]) (wl_c rfl (wl_c rfl wl_n)) rfl (by decide) (u_187_k_t54o hW g0 qrp grp qrb grb p0 hRC_r0 hDM_rp (H265380 r0 15) H265380 fo265384 po265385 w265381 f265382 ⟨by omega, by omega⟩ p265400 (by omega) (by omega))
set_option maxHeartbeats 60000000 in
theorem u_187_k_t25o {kt : Nat → Option mc_E} {T : wq_T} {H : wq_H} {r0 : Nat} {rp : Nat} {rb : Nat} {B : Nat → Int} {n : Int} {q : Int} {d : xD} (hW : WT T H) (g0 : T.2.2.2 r0 = some 42) (qrp : H r0 4 = (rp : Int)) (grp : T.2.2.2 rp = some 54) (qrb : H r0 5 = (rb : Int)) (grb : T.2.2.2 rb = some 43) (p0 : xK B n q = 1) (hRC_r0 : RC T H r0 B n q) (hDM_rp : DM T H rp r0 d) : ∀  (H265422 : wq_H) (fo265426 : Int) (po265427 : Int), WT T H265422 → wfr [(42, 8), (42, 9), (42, 10), (42, 11), (42, 12), (42, 13), (42, 14), (42, 15)] T H H265422 → RO T H265422 r0 fo265426 po265427 → ((xl1 B n q d).1 = fo265426) → ((xl1 B n q d).2.1 = po265427) → wp kt 4 187 25 [(0, .ref r0)] [] T H265422 (uq_187_k r0 rp rb B n q d T H) := by
  have f0 : wfr [(54, 3), (42, 8), (42, 9), (42, 10), (42, 11), (42, 12), (42, 13), (42, 14), (42, 15), (56, 999), (57, 999), (60, 999), (63, 999), (58, 999), (59, 999), (55, 999), (61, 999), (62, 999)] T H H := wfr.rf
  have u265403 := RC_k hRC_r0
  have u265404 := DM_k hDM_rp
  have h265405 : MA9 T H rp (d 1) := hDM_rp.2.2.2.1
  have h265406 : MA10 T H rp (d 2) := hDM_rp.2.2.2.2.1
  have h265407 : MA11 T H rp (d 3) := hDM_rp.2.2.2.2.2.1
  have h265408 : MA12 T H rp (d 4) := hDM_rp.2.2.2.2.2.2.1
  have h265409 : MA13 T H rp (d 5) := hDM_rp.2.2.2.2.2.2.2.1
  have h265410 : MA14 T H rp (d 6) := hDM_rp.2.2.2.2.2.2.2.2.1
  have h265411 : MA15 T H rp (d 7) := hDM_rp.2.2.2.2.2.2.2.2.2.1
  have h265412 : MA16 T H rp (d 8) := hDM_rp.2.2.2.2.2.2.2.2.2.2.1
  have h265413 : MA17 T H rp (d 9) := hDM_rp.2.2.2.2.2.2.2.2.2.2.2.1
  have h265414 : MA18 T H rp (d 10) := hDM_rp.2.2.2.2.2.2.2.2.2.2.2.2.1
  have h265415 : MA19 T H rp (d 11) := hDM_rp.2.2.2.2.2.2.2.2.2.2.2.2.2.1
  have h265416 : MA20 T H rp (d 12) := hDM_rp.2.2.2.2.2.2.2.2.2.2.2.2.2.2.1
  have h265417 : MA21 T H rp (d 13) := hDM_rp.2.2.2.2.2.2.2.2.2.2.2.2.2.2.2.1
  have h265418 : MA22 T H rp (d 14) := hDM_rp.2.2.2.2.2.2.2.2.2.2.2.2.2.2.2.2.1
  have h265419 : MA23 T H rp (d 15) := hDM_rp.2.2.2.2.2.2.2.2.2.2.2.2.2.2.2.2.2.1
  have h265420 : MA25 T H rp (d 17) := hDM_rp.2.2.2.2.2.2.2.2.2.2.2.2.2.2.2.2.2.2.1
  have h265421 : MA26 T H rp (d 16) := hDM_rp.2.2.2.2.2.2.2.2.2.2.2.2.2.2.2.2.2.2.2
  intro H265422 fo265426 po265427 w265423 f265424 h265428 x265429 x265430
  have f265431 : wfr [(54, 3), (42, 8), (42, 9), (42, 10), (42, 11), (42, 12), (42, 13), (42, 14), (42, 15), (56, 999), (57, 999), (60, 999), (63, 999), (58, 999), (59, 999), (55, 999), (61, 999), (62, 999)] T H H265422 := wfr.rf.tr f265424 rfl
  have u265432 := RO_k h265428
  refine wp_of e187 c187_25 (rw_aload_n (pc' := 26) (v := .ref r0) rfl rfl rfl ?_)
  have k265433 : H265422 r0 4 = H r0 4 := (f265424 r0 4 _ g0 rfl)
  have q265434 : H265422 r0 4 = (rp : Int) := k265433.trans qrp
  refine wp_of e187 c187_26 (xg_K (pc' := 29) lf_9_166 w265423 g0 sh_42 (by decide) (by decide) rfl q265434 rfl ?_)
  refine wp_of e187 c187_29 (rw_aload_n (pc' := 30) (v := .ref r0) rfl rfl rfl ?_)
  refine wp_of e187 c187_30 (xg_L (pc' := 33) lf_9_94 w265423 g0 sh_42 (by decide) (by decide) ty_42_15 rfl rfl (fun b265435 b265436 => ?_))
  refine wp_of e187 c187_33 (xc_V (pc' := 36) (r := rp) (as := [vL (H265422 r0 15)]) (st := []) (lm_9_170) rfl rfl (Nat.le_of_ble_eq_true rfl) w265423 grp sh_54 (by decide) rfl (by decide) (u_190_o  w265423 grp ⟨by omega, by omega⟩) (fun R265437 T265438 H265439 p265440 => ?_))
  obtain ⟨e265441, e265443, z265444, e265442, b265445, p265446⟩ := p265440
  subst e265441
  subst e265442
  subst e265443
  show wp _ _ 187 36 [(0, .ref r0)] [vI z265444] _ H265422 _
  refine wp_of e187 c187_36 (rw_iconst (pc' := 37) rfl ?_)
  refine wp_of e187 c187_37 (rw_icmp_eq (p1 := 45) (p2 := 40) (by decide) rfl ⟨by omega, by omega⟩ ⟨by omega, by omega⟩ (fun c265448 => ?_) (fun c265448 => ?_))
  · exact wp_lc (ks := [0]) (wl_c rfl wl_n) rfl (by decide) (u_187_k_t45o hW g0 qrp grp qrb grb p0 hRC_r0 hDM_rp H265422 fo265426 po265427 w265423 f265424 h265428 (by omega) (by omega))
  · refine wp_of e187 c187_40 (rw_aload_n (pc' := 41) (v := .ref r0) rfl rfl rfl ?_)
    refine wp_of e187 c187_41 (rw_iconst (pc' := 42) rfl ?_)
    refine wp_of e187 c187_42 (xc_V (pc' := 45) (r := r0) (as := [vI 3]) (st := []) (lm_9_121) rfl rfl (Nat.le_of_ble_eq_true rfl) w265423 g0 sh_42 (by decide) rfl (by decide) (u_181_o (fo := fo265426) (po := po265427) w265423 g0 ⟨by omega, by omega⟩ h265428) (fun R265449 T265450 H265451 p265452 => ?_))
    obtain ⟨e265453, e265455, e265454, p265456⟩ := p265452
    subst e265453
    subst e265454
    subst e265455
    show wp _ _ 187 45 [(0, .ref r0)] [] _ H265422 _
    have u265458 := RO_k p265456
    exact wp_lc (ks := [0]) (wl_c rfl wl_n) rfl (by decide) (u_187_k_t45o hW g0 qrp grp qrb grb p0 hRC_r0 hDM_rp H265422 fo265426 po265427 w265423 f265424 p265456 (by omega) (by omega))

set_option maxHeartbeats 60000000 in
theorem u_187_k {kt : Nat → Option mc_E} {T : wq_T} {H : wq_H} {r0 : Nat} {rp : Nat} {rb : Nat} {B : Nat → Int} {n : Int} {q : Int} {d : xD} (hW : WT T H) (g0 : T.2.2.2 r0 = some 42) (qrp : H r0 4 = (rp : Int)) (grp : T.2.2.2 rp = some 54) (qrb : H r0 5 = (rb : Int)) (grb : T.2.2.2 rb = some 43) (p0 : xK B n q = 1) (hRC_r0 : RC T H r0 B n q) (hDM_rp : DM T H rp r0 d) : wpc kt 5 187 [.ref r0] T H (uq_187_k r0 rp rb B n q d T H) := by
  refine wp_enter e187 (Nat.le_of_ble_eq_true rfl) rfl ?_
  have f0 : wfr [(54, 3), (42, 8), (42, 9), (42, 10), (42, 11), (42, 12), (42, 13), (42, 14), (42, 15), (56, 999), (57, 999), (60, 999), (63, 999), (58, 999), (59, 999), (55, 999), (61, 999), (62, 999)] T H H := wfr.rf
  show wp _ _ 187 0 [(0, .ref r0)] [] _ H _
  have u264282 := RC_k hRC_r0
  have u264283 := DM_k hDM_rp
  have h264284 : MA9 T H rp (d 1) := hDM_rp.2.2.2.1
  have h264285 : MA10 T H rp (d 2) := hDM_rp.2.2.2.2.1
  have h264286 : MA11 T H rp (d 3) := hDM_rp.2.2.2.2.2.1
  have h264287 : MA12 T H rp (d 4) := hDM_rp.2.2.2.2.2.2.1
  have h264288 : MA13 T H rp (d 5) := hDM_rp.2.2.2.2.2.2.2.1
  have h264289 : MA14 T H rp (d 6) := hDM_rp.2.2.2.2.2.2.2.2.1
  have h264290 : MA15 T H rp (d 7) := hDM_rp.2.2.2.2.2.2.2.2.2.1
  have h264291 : MA16 T H rp (d 8) := hDM_rp.2.2.2.2.2.2.2.2.2.2.1
  have h264292 : MA17 T H rp (d 9) := hDM_rp.2.2.2.2.2.2.2.2.2.2.2.1
  have h264293 : MA18 T H rp (d 10) := hDM_rp.2.2.2.2.2.2.2.2.2.2.2.2.1
  have h264294 : MA19 T H rp (d 11) := hDM_rp.2.2.2.2.2.2.2.2.2.2.2.2.2.1
  have h264295 : MA20 T H rp (d 12) := hDM_rp.2.2.2.2.2.2.2.2.2.2.2.2.2.2.1
  have h264296 : MA21 T H rp (d 13) := hDM_rp.2.2.2.2.2.2.2.2.2.2.2.2.2.2.2.1
  have h264297 : MA22 T H rp (d 14) := hDM_rp.2.2.2.2.2.2.2.2.2.2.2.2.2.2.2.2.1
  have h264298 : MA23 T H rp (d 15) := hDM_rp.2.2.2.2.2.2.2.2.2.2.2.2.2.2.2.2.2.1
  have h264299 : MA25 T H rp (d 17) := hDM_rp.2.2.2.2.2.2.2.2.2.2.2.2.2.2.2.2.2.2.1
  have h264300 : MA26 T H rp (d 16) := hDM_rp.2.2.2.2.2.2.2.2.2.2.2.2.2.2.2.2.2.2.2
  have f0s : wfr [(42, 8), (42, 9), (42, 10), (42, 11), (42, 12), (42, 13), (42, 14), (42, 15)] T H H := wfr.rf
  refine wp_of e187 c187_0 (rw_aload_n (pc' := 1) (v := .ref r0) rfl rfl rfl ?_)
  refine wp_of e187 c187_1 (rw_aload_n (pc' := 2) (v := .ref r0) rfl rfl rfl ?_)
  refine wp_of e187 c187_2 (xg_K (pc' := 5) lf_9_166 hW g0 sh_42 (by decide) (by decide) rfl qrp rfl ?_)
  refine wp_of e187 c187_5 (xg_I (pc' := 8) lf_9_188 hW grp sh_54 (by decide) (by decide) ty_54_3 rfl rfl (fun b265459 b265460 => ?_))
  refine wp_of e187 c187_8 (rw_bipush (pc' := 10) (z := 6) rfl (by decide) ?_)
  refine wp_of e187 c187_10 (xc_V (pc' := 13) (r := r0) (as := [vI (H rp 3), vI 6]) (st := []) (lm_9_228) rfl rfl (Nat.le_of_ble_eq_true rfl) hW g0 sh_42 (by decide) rfl (by decide) (u_188_k (B := B) (n := n) (q := q) hW g0 ⟨by omega, by omega⟩ ⟨by omega, by omega⟩ qrb grb (by omega) hRC_r0) (fun R265461 T265462 H265463 p265464 => ?_))
  obtain ⟨e265465, w265467, f265468, e265466, p265469⟩ := p265464
  subst e265465
  subst e265466
  rcases p265469 with ⟨a265470, a265471⟩ | ⟨a265472, a265473⟩
  · have f265474 := f0.tr f265468 rfl
    have f265475 := f0s.tr f265468 rfl
    show wp _ _ 187 13 [(0, .ref r0)] [] _ H265463 _
    have u265476 := RC_k a265471
    have _m := @xnm_b B n (xN B n q) d
    refine wp_of e187 c187_13 (rw_aload_n (pc' := 14) (v := .ref r0) rfl rfl rfl ?_)
    refine wp_of e187 c187_14 (xc_V (pc' := 17) (r := r0) (as := []) (st := []) (lm_9_162) rfl rfl (Nat.le_of_ble_eq_true rfl) w265467 g0 sh_42 (by decide) rfl (by decide) (u_189_k (B := B) (n := n) (q := ((xN B n q))) w265467 g0 a265471) (fun R265477 T265478 H265479 p265480 => ?_))
    obtain ⟨e265481, e265483, z265484, e265482, b265485, p265486⟩ := p265480
    subst e265481
    subst e265482
    subst e265483
    rcases p265486 with ⟨a265487, a265488, a265489, a265490⟩ | ⟨a265491, a265492⟩
    · show wp _ _ 187 17 [(0, .ref r0)] [vI z265484] _ H265463 _
      refine wp_of e187 c187_17 (rw_if_ne (p1 := 25) (p2 := 20) (by decide) rfl ⟨by omega, by omega⟩ (fun c265493 => ?_) (fun c265493 => ?_))
      · refine wp_of e187 c187_25 (rw_aload_n (pc' := 26) (v := .ref r0) rfl rfl rfl ?_)
        have k265494 : H265463 r0 4 = H r0 4 := (f265468 r0 4 _ g0 rfl)
        have q265495 : H265463 r0 4 = (rp : Int) := k265494.trans qrp
        refine wp_of e187 c187_26 (xg_K (pc' := 29) lf_9_166 w265467 g0 sh_42 (by decide) (by decide) rfl q265495 rfl ?_)
        refine wp_of e187 c187_29 (rw_aload_n (pc' := 30) (v := .ref r0) rfl rfl rfl ?_)
        refine wp_of e187 c187_30 (xg_L (pc' := 33) lf_9_94 w265467 g0 sh_42 (by decide) (by decide) ty_42_15 rfl rfl (fun b265496 b265497 => ?_))
        have h265498 : DM T H265463 rp r0 d := (DM_fr hW grp f265468 rfl hDM_rp)
        refine wp_of e187 c187_33 (xc_V (pc' := 36) (r := rp) (as := [vL (H265463 r0 15)]) (st := []) (lm_9_170) rfl rfl (Nat.le_of_ble_eq_true rfl) w265467 grp sh_54 (by decide) rfl (by decide) (u_190_k (mm := r0) (d := d) (y := (xY B n (xN B n q))) w265467 grp ⟨by omega, by omega⟩ (by omega) h265498) (fun R265499 T265500 H265501 p265502 => ?_))
        obtain ⟨e265503, e265505, z265506, e265504, b265507, p265508⟩ := p265502
        subst e265503
        subst e265504
        subst e265505
        obtain ⟨a265509, a265510⟩ := p265508
        show wp _ _ 187 36 [(0, .ref r0)] [vI z265506] _ H265463 _
        refine wp_of e187 c187_36 (rw_iconst (pc' := 37) rfl ?_)
        refine wp_of e187 c187_37 (rw_icmp_eq (p1 := 45) (p2 := 40) (by decide) rfl ⟨by omega, by omega⟩ ⟨by omega, by omega⟩ (fun c265511 => ?_) (fun c265511 => ?_))
        · refine wp_of e187 c187_45 (rw_aload_n (pc' := 46) (v := .ref r0) rfl rfl rfl ?_)
          refine wp_of e187 c187_46 (xg_L (pc' := 49) lf_9_94 w265467 g0 sh_42 (by decide) (by decide) ty_42_15 rfl rfl (fun b265512 b265513 => ?_))
          refine wp_of e187 c187_49 (rw_lstore_n (pc' := 50) (z := H265463 r0 15) (L' := [(1, vL (H265463 r0 15)), (0, .ref r0)]) rfl rfl rfl ?_)
          refine wp_of e187 c187_50 (rw_aload_n (pc' := 51) (v := .ref r0) rfl rfl rfl ?_)
          have k265514 : H265463 r0 5 = H r0 5 := (f265468 r0 5 _ g0 rfl)
          have q265515 : H265463 r0 5 = (rb : Int) := k265514.trans qrb
          have u265516 := RC_a a265471
          have h265517 : TM T H265463 rb B := RC_tm a265471 q265515
          refine wp_of e187 c187_51 (xc_V (pc' := 54) (r := r0) (as := []) (st := []) (lm_9_118) rfl rfl (Nat.le_of_ble_eq_true rfl) w265467 g0 sh_42 (by decide) rfl (by decide) (u_172_k (B := B) (n := n) (a := (xE B n ((xN B n q)))) (q := (xN B n ((xN B n q)))) w265467 g0 q265515 grb (by omega) (by omega) (by omega) (by omega) (by omega) (rfl) h265517) (fun R265518 T265519 H265520 p265521 => ?_))
          obtain ⟨e265522, w265524, f265525, e265523, p265526⟩ := p265521
          subst e265522
          subst e265523
          have f265528 := f265474.tr f265525 rfl
          have f265529 := f265475.tr f265525 rfl
          show wp _ _ 187 54 [(1, vL (H265463 r0 15)), (0, .ref r0)] [] _ H265520 _
          have u265530 := RC_k p265526
          refine wp_of e187 c187_54 (rw_aload_n (pc' := 55) (v := .ref r0) rfl rfl rfl ?_)
          refine wp_of e187 c187_55 (rw_ldcS (pc' := 57) (k := 86) rfl rfl rfl rfl ?_)
          refine wp_of e187 c187_57 (rw_iconst (pc' := 58) rfl ?_)
          refine wp_of e187 c187_58 (rw_bipush (pc' := 60) (z := 23) rfl (by decide) ?_)
          have k265531 : H265520 r0 5 = H265463 r0 5 := (f265525 r0 5 _ g0 rfl)
          have q265532 : H265520 r0 5 = (rb : Int) := k265531.trans q265515
          refine wp_of e187 c187_60 (xc_V (pc' := 63) (r := r0) (as := [.ref 86, vI 0, vI 23]) (st := []) (lm_9_216) rfl rfl (Nat.le_of_ble_eq_true rfl) w265524 g0 sh_42 (by decide) rfl (by decide) (u_182_k (B := B) (n := n) (q := ((xN B n ((xN B n q))))) (kk := 2212) (lo := 0) (hi := 23) w265524 g0 rfl ⟨by omega, by omega⟩ ⟨by omega, by omega⟩ q265532 grb (by decide +kernel) (by omega) (by omega) p265526) (fun R265533 T265534 H265535 p265536 => ?_))
          obtain ⟨e265537, w265539, f265540, z265541, e265538, b265542, p265543⟩ := p265536
          subst e265537
          subst e265538
          rcases p265543 with ⟨a265544, a265545, a265546, a265547, a265548, a265549⟩ | ⟨a265550, a265551, a265552⟩ | ⟨a265553, a265554, a265555, a265556⟩
          · have f265557 := f265528.tr f265540 rfl
            have f265558 := f265529.tr f265540 rfl
            show wp _ _ 187 63 [(1, vL (H265463 r0 15)), (0, .ref r0)] [vI z265541] _ H265535 _
            have u265559 := RC_k a265549
            refine wp_of e187 c187_63 (rw_istore_n (pc' := 64) (z := z265541) (L' := [(3, vI z265541), (1, vL (H265463 r0 15)), (0, .ref r0)]) rfl rfl rfl ?_)
            refine wp_of e187 c187_64 (rw_aload_n (pc' := 65) (v := .ref r0) rfl rfl rfl ?_)
            refine wp_of e187 c187_65 (rw_ldcS (pc' := 67) (k := 87) rfl rfl rfl rfl ?_)
            refine wp_of e187 c187_67 (rw_iload_n (pc' := 68) (z := z265541) rfl rfl ?_)
            refine wp_of e187 c187_68 (rw_bipush (pc' := 70) (z := 23) rfl (by decide) ?_)
            refine wp_of e187 c187_70 (rw_iload_n (pc' := 71) (z := z265541) rfl rfl ?_)
            refine wp_of e187 c187_71 (rw_bipush (pc' := 73) (z := 7) rfl (by decide) ?_)
            refine wp_of e187 c187_73 (rw_iadd (pc' := 74) rfl ?_)
            refine wp_of e187 c187_74 (xc_S (pc' := 77) (as := [vI 23, vI (z265541 + 7)]) (st := [vI z265541, .ref 87, .ref r0]) (lm_9_235) rfl rfl (Nat.le_of_ble_eq_true rfl) rfl (by decide) (u_191  w265539 ⟨by omega, by omega⟩ ⟨by omega, by omega⟩) (fun R265560 T265561 H265562 p265563 => ?_))
            obtain ⟨e265564, e265566, z265567, e265565, b265568, p265569⟩ := p265563
            subst e265564
            subst e265565
            subst e265566
            show wp _ _ 187 77 [(3, vI z265541), (1, vL (H265463 r0 15)), (0, .ref r0)] [vI z265567, vI z265541, .ref 87, .ref r0] _ H265535 _
            have k265571 : H265535 r0 5 = H265520 r0 5 := (f265540 r0 5 _ g0 rfl)
            have q265572 : H265535 r0 5 = (rb : Int) := k265571.trans q265532
            refine wp_of e187 c187_77 (xc_V (pc' := 80) (r := r0) (as := [.ref 87, vI z265541, vI z265567]) (st := []) (lm_9_216) rfl rfl (Nat.le_of_ble_eq_true rfl) w265539 g0 sh_42 (by decide) rfl (by decide) (u_182_k (B := B) (n := n) (q := ((xN B n (xN B n ((xN B n ((xN B n q)))))))) (kk := 655) (lo := (xV B n (xN B n (xN B n (xN B n q))) + 0)) (hi := (min (xV B n (xN B n (xN B n (xN B n q))) + 7) 23)) w265539 g0 rfl ⟨by omega, by omega⟩ ⟨by omega, by omega⟩ q265572 grb (by decide +kernel) (by omega) (by omega) a265549) (fun R265573 T265574 H265575 p265576 => ?_))
            obtain ⟨e265577, w265579, f265580, z265581, e265578, b265582, p265583⟩ := p265576
            subst e265577
            subst e265578
            rcases p265583 with ⟨a265584, a265585, a265586, a265587, a265588, a265589⟩ | ⟨a265590, a265591, a265592⟩ | ⟨a265593, a265594, a265595, a265596⟩
            · have f265597 := f265557.tr f265580 rfl
              have f265598 := f265558.tr f265580 rfl
              show wp _ _ 187 80 [(3, vI z265541), (1, vL (H265463 r0 15)), (0, .ref r0)] [vI z265581] _ H265575 _
              have u265599 := RC_k a265589
              refine wp_of e187 c187_80 (rw_istore (pc' := 82) (z := z265581) (L' := [(4, vI z265581), (3, vI z265541), (1, vL (H265463 r0 15)), (0, .ref r0)]) rfl rfl rfl ?_)
              refine wp_of e187 c187_82 (rw_aload_n (pc' := 83) (v := .ref r0) rfl rfl rfl ?_)
              refine wp_of e187 c187_83 (rw_ldcS (pc' := 85) (k := 88) rfl rfl rfl rfl ?_)
              refine wp_of e187 c187_85 (rw_iconst (pc' := 86) rfl ?_)
              refine wp_of e187 c187_86 (rw_bipush (pc' := 88) (z := 12) rfl (by decide) ?_)
              have k265600 : H265575 r0 5 = H265535 r0 5 := (f265580 r0 5 _ g0 rfl)
              have q265601 : H265575 r0 5 = (rb : Int) := k265600.trans q265572
              refine wp_of e187 c187_88 (xc_V (pc' := 91) (r := r0) (as := [.ref 88, vI 0, vI 12]) (st := []) (lm_9_216) rfl rfl (Nat.le_of_ble_eq_true rfl) w265579 g0 sh_42 (by decide) rfl (by decide) (u_182_k (B := B) (n := n) (q := ((xN B n (xN B n ((xN B n (xN B n ((xN B n ((xN B n q))))))))))) (kk := 409031) (lo := 0) (hi := 12) w265579 g0 rfl ⟨by omega, by omega⟩ ⟨by omega, by omega⟩ q265601 grb (by decide +kernel) (by omega) (by omega) a265589) (fun R265602 T265603 H265604 p265605 => ?_))
              obtain ⟨e265606, w265608, f265609, z265610, e265607, b265611, p265612⟩ := p265605
              subst e265606
              subst e265607
              rcases p265612 with ⟨a265613, a265614, a265615, a265616, a265617, a265618⟩ | ⟨a265619, a265620, a265621⟩ | ⟨a265622, a265623, a265624, a265625⟩
              · have f265626 := f265597.tr f265609 rfl
                have f265627 := f265598.tr f265609 rfl
                show wp _ _ 187 91 [(4, vI z265581), (3, vI z265541), (1, vL (H265463 r0 15)), (0, .ref r0)] [vI z265610] _ H265604 _
                have u265628 := RC_k a265618
                refine wp_of e187 c187_91 (rw_istore (pc' := 93) (z := z265610) (L' := [(5, vI z265610), (4, vI z265581), (3, vI z265541), (1, vL (H265463 r0 15)), (0, .ref r0)]) rfl rfl rfl ?_)
                refine wp_of e187 c187_93 (rw_aload_n (pc' := 94) (v := .ref r0) rfl rfl rfl ?_)
                refine wp_of e187 c187_94 (rw_ldcS (pc' := 96) (k := 87) rfl rfl rfl rfl ?_)
                refine wp_of e187 c187_96 (rw_iload (pc' := 98) (z := z265610) rfl rfl ?_)
                refine wp_of e187 c187_98 (rw_bipush (pc' := 100) (z := 12) rfl (by decide) ?_)
                refine wp_of e187 c187_100 (rw_iload (pc' := 102) (z := z265610) rfl rfl ?_)
                refine wp_of e187 c187_102 (rw_iconst (pc' := 103) rfl ?_)
                refine wp_of e187 c187_103 (rw_iadd (pc' := 104) rfl ?_)
                refine wp_of e187 c187_104 (xc_S (pc' := 107) (as := [vI 12, vI (z265610 + 4)]) (st := [vI z265610, .ref 87, .ref r0]) (lm_9_235) rfl rfl (Nat.le_of_ble_eq_true rfl) rfl (by decide) (u_191  w265608 ⟨by omega, by omega⟩ ⟨by omega, by omega⟩) (fun R265629 T265630 H265631 p265632 => ?_))
                obtain ⟨e265633, e265635, z265636, e265634, b265637, p265638⟩ := p265632
                subst e265633
                subst e265634
                subst e265635
                show wp _ _ 187 107 [(5, vI z265610), (4, vI z265581), (3, vI z265541), (1, vL (H265463 r0 15)), (0, .ref r0)] [vI z265636, vI z265610, .ref 87, .ref r0] _ H265604 _
                have k265640 : H265604 r0 5 = H265575 r0 5 := (f265609 r0 5 _ g0 rfl)
                have q265641 : H265604 r0 5 = (rb : Int) := k265640.trans q265601
                refine wp_of e187 c187_107 (xc_V (pc' := 110) (r := r0) (as := [.ref 87, vI z265610, vI z265636]) (st := []) (lm_9_216) rfl rfl (Nat.le_of_ble_eq_true rfl) w265608 g0 sh_42 (by decide) rfl (by decide) (u_182_k (B := B) (n := n) (q := ((xN B n (xN B n ((xN B n (xN B n ((xN B n (xN B n ((xN B n ((xN B n q)))))))))))))) (kk := 655) (lo := (xV B n (xN B n (xN B n (xN B n (xN B n (xN B n (xN B n (xN B n q))))))) + 0)) (hi := (min (xV B n (xN B n (xN B n (xN B n (xN B n (xN B n (xN B n (xN B n q))))))) + 4) 12)) w265608 g0 rfl ⟨by omega, by omega⟩ ⟨by omega, by omega⟩ q265641 grb (by decide +kernel) (by omega) (by omega) a265618) (fun R265642 T265643 H265644 p265645 => ?_))
                obtain ⟨e265646, w265648, f265649, z265650, e265647, b265651, p265652⟩ := p265645
                subst e265646
                subst e265647
                rcases p265652 with ⟨a265653, a265654, a265655, a265656, a265657, a265658⟩ | ⟨a265659, a265660, a265661⟩ | ⟨a265662, a265663, a265664, a265665⟩
                · have f265666 := f265626.tr f265649 rfl
                  have f265667 := f265627.tr f265649 rfl
                  show wp _ _ 187 110 [(5, vI z265610), (4, vI z265581), (3, vI z265541), (1, vL (H265463 r0 15)), (0, .ref r0)] [vI z265650] _ H265644 _
                  have u265668 := RC_k a265658
                  refine wp_of e187 c187_110 (rw_istore (pc' := 112) (z := z265650) (L' := [(6, vI z265650), (5, vI z265610), (4, vI z265581), (3, vI z265541), (1, vL (H265463 r0 15)), (0, .ref r0)]) rfl rfl rfl ?_)
                  have hS : xl1 B n q d = xcs B n (xN B n (xN B n (xN B n (xN B n (xN B n (xN B n (xN B n (xN B n (xN B n (xN B n q)))))))))) := by
                    unfold xl1 xper xbd xrg
                    try simp only [xs_xs, xs_z]
                    repeat first | rw [xs_0 (by omega)] | rw [xs_1 (by omega)] | rw [if_pos (by omega)] | rw [if_neg (by omega)]
                    first | done | rfl
                  have h265669 : DM T H265644 rp r0 d := (DM_fr w265608 grp f265649 rfl (DM_fr w265579 grp f265609 rfl (DM_fr w265539 grp f265580 rfl (DM_fr w265524 grp f265540 rfl (DM_fr w265467 grp f265525 rfl h265498)))))
                  exact wp_lc (ks := [6, 5, 4, 3, 1, 0]) (wl_c rfl (wl_c rfl (wl_c rfl (wl_c rfl (wl_c rfl (wl_c rfl wl_n)))))) rfl (by decide) (u_187_k_t112k hW g0 qrp grp qrb grb p0 hRC_r0 hDM_rp (H265463 r0 15) z265541 z265581 z265610 z265650 H265644 w265648 f265667 ⟨by omega, by omega⟩ ⟨by omega, by omega⟩ ⟨by omega, by omega⟩ ⟨by omega, by omega⟩ ⟨by omega, by omega⟩ a265658 h265669 (hS) (by omega) (by omega) (by omega) (by omega) (by omega) (by omega) (by omega) (by omega) (by omega))
                · have f265670 := f265626.tr f265649 rfl
                  have f265671 := f265627.tr f265649 rfl
                  show wp _ _ 187 110 [(5, vI z265610), (4, vI z265581), (3, vI z265541), (1, vL (H265463 r0 15)), (0, .ref r0)] [vI z265650] _ H265644 _
                  have u265672 := RO_k a265661
                  refine wp_of e187 c187_110 (rw_istore (pc' := 112) (z := z265650) (L' := [(6, vI z265650), (5, vI z265610), (4, vI z265581), (3, vI z265541), (1, vL (H265463 r0 15)), (0, .ref r0)]) rfl rfl rfl ?_)
                  have o265673 : (xl1 B n q d) = (xw B n ((xN B n (xN B n ((xN B n (xN B n ((xN B n (xN B n ((xN B n ((xN B n q))))))))))))) 655, ((xN B n (xN B n ((xN B n (xN B n ((xN B n (xN B n ((xN B n ((xN B n q))))))))))))), ((xN B n (xN B n ((xN B n (xN B n ((xN B n (xN B n ((xN B n ((xN B n q)))))))))))))) := by
                    unfold xl1 xper xbd xcs xca xcb xrg
                    try simp only [xs_xs, xs_z]
                    try rw [_ea]
                    try rw [_eb]
                    try rw [_ec]
                    repeat first | rw [xs_0 (by omega)] | rw [xs_1 (by omega)] | rw [if_pos (by omega)] | rw [if_neg (by omega)]
                    first | done | rfl | assumption | (exfalso; omega) | (refine Prod.ext ?_ (Prod.ext ?_ ?_) <;> (try dsimp only) <;> omega)
                  have o265673a : ((xl1 B n q d)).1 = xw B n ((xN B n (xN B n ((xN B n (xN B n ((xN B n (xN B n ((xN B n ((xN B n q))))))))))))) 655 := by rw [o265673]
                  have o265673b : ((xl1 B n q d)).2.1 = ((xN B n (xN B n ((xN B n (xN B n ((xN B n (xN B n ((xN B n ((xN B n q))))))))))))) := by rw [o265673]
                  have o265673c : ((xl1 B n q d)).2.2 = ((xN B n (xN B n ((xN B n (xN B n ((xN B n (xN B n ((xN B n ((xN B n q))))))))))))) := by rw [o265673]
                  exact wp_lc (ks := [6, 5, 4, 3, 1, 0]) (wl_c rfl (wl_c rfl (wl_c rfl (wl_c rfl (wl_c rfl (wl_c rfl wl_n)))))) rfl (by decide) (u_187_k_t112o hW g0 qrp grp qrb grb p0 hRC_r0 hDM_rp (H265463 r0 15) z265541 z265581 z265610 z265650 H265644 (xw B n ((xN B n (xN B n ((xN B n (xN B n ((xN B n (xN B n ((xN B n ((xN B n q))))))))))))) 655) (((xN B n (xN B n ((xN B n (xN B n ((xN B n (xN B n ((xN B n ((xN B n q)))))))))))))) w265648 f265671 ⟨by omega, by omega⟩ ⟨by omega, by omega⟩ ⟨by omega, by omega⟩ ⟨by omega, by omega⟩ ⟨by omega, by omega⟩ a265661 (by omega) (by omega))
                · have f265674 := f265626.tr f265649 rfl
                  have f265675 := f265627.tr f265649 rfl
                  show wp _ _ 187 110 [(5, vI z265610), (4, vI z265581), (3, vI z265541), (1, vL (H265463 r0 15)), (0, .ref r0)] [vI z265650] _ H265644 _
                  have u265676 := RO_k a265665
                  refine wp_of e187 c187_110 (rw_istore (pc' := 112) (z := z265650) (L' := [(6, vI z265650), (5, vI z265610), (4, vI z265581), (3, vI z265541), (1, vL (H265463 r0 15)), (0, .ref r0)]) rfl rfl rfl ?_)
                  have o265677 : (xl1 B n q d) = (xh B n (xN B n ((xN B n (xN B n ((xN B n (xN B n ((xN B n (xN B n ((xN B n ((xN B n q)))))))))))))) (xV B n (xN B n (xN B n (xN B n (xN B n (xN B n (xN B n (xN B n q))))))) + 0) (min (xV B n (xN B n (xN B n (xN B n (xN B n (xN B n (xN B n (xN B n q))))))) + 4) 12), (xN B n ((xN B n (xN B n ((xN B n (xN B n ((xN B n (xN B n ((xN B n ((xN B n q)))))))))))))), (xN B n ((xN B n (xN B n ((xN B n (xN B n ((xN B n (xN B n ((xN B n ((xN B n q))))))))))))))) := by
                    unfold xl1 xper xbd xcs xca xcb xrg
                    try simp only [xs_xs, xs_z]
                    try rw [_ea]
                    try rw [_eb]
                    try rw [_ec]
                    repeat first | rw [xs_0 (by omega)] | rw [xs_1 (by omega)] | rw [if_pos (by omega)] | rw [if_neg (by omega)]
                    first | done | rfl | assumption | (exfalso; omega) | (refine Prod.ext ?_ (Prod.ext ?_ ?_) <;> (try dsimp only) <;> omega)
                  have o265677a : ((xl1 B n q d)).1 = xh B n (xN B n ((xN B n (xN B n ((xN B n (xN B n ((xN B n (xN B n ((xN B n ((xN B n q)))))))))))))) (xV B n (xN B n (xN B n (xN B n (xN B n (xN B n (xN B n (xN B n q))))))) + 0) (min (xV B n (xN B n (xN B n (xN B n (xN B n (xN B n (xN B n (xN B n q))))))) + 4) 12) := by rw [o265677]
                  have o265677b : ((xl1 B n q d)).2.1 = (xN B n ((xN B n (xN B n ((xN B n (xN B n ((xN B n (xN B n ((xN B n ((xN B n q)))))))))))))) := by rw [o265677]
                  have o265677c : ((xl1 B n q d)).2.2 = (xN B n ((xN B n (xN B n ((xN B n (xN B n ((xN B n (xN B n ((xN B n ((xN B n q)))))))))))))) := by rw [o265677]
                  exact wp_lc (ks := [6, 5, 4, 3, 1, 0]) (wl_c rfl (wl_c rfl (wl_c rfl (wl_c rfl (wl_c rfl (wl_c rfl wl_n)))))) rfl (by decide) (u_187_k_t112o hW g0 qrp grp qrb grb p0 hRC_r0 hDM_rp (H265463 r0 15) z265541 z265581 z265610 z265650 H265644 (xh B n (xN B n ((xN B n (xN B n ((xN B n (xN B n ((xN B n (xN B n ((xN B n ((xN B n q)))))))))))))) (xV B n (xN B n (xN B n (xN B n (xN B n (xN B n (xN B n (xN B n q))))))) + 0) (min (xV B n (xN B n (xN B n (xN B n (xN B n (xN B n (xN B n (xN B n q))))))) + 4) 12)) ((xN B n ((xN B n (xN B n ((xN B n (xN B n ((xN B n (xN B n ((xN B n ((xN B n q))))))))))))))) w265648 f265675 ⟨by omega, by omega⟩ ⟨by omega, by omega⟩ ⟨by omega, by omega⟩ ⟨by omega, by omega⟩ ⟨by omega, by omega⟩ a265665 (by omega) (by omega))
              · have f265678 := f265597.tr f265609 rfl
                have f265679 := f265598.tr f265609 rfl
                show wp _ _ 187 91 [(4, vI z265581), (3, vI z265541), (1, vL (H265463 r0 15)), (0, .ref r0)] [vI z265610] _ H265604 _
                have u265680 := RO_k a265621
                refine wp_of e187 c187_91 (rw_istore (pc' := 93) (z := z265610) (L' := [(5, vI z265610), (4, vI z265581), (3, vI z265541), (1, vL (H265463 r0 15)), (0, .ref r0)]) rfl rfl rfl ?_)
                have o265681 : (xl1 B n q d) = (xw B n ((xN B n (xN B n ((xN B n (xN B n ((xN B n ((xN B n q)))))))))) 409031, ((xN B n (xN B n ((xN B n (xN B n ((xN B n ((xN B n q)))))))))), ((xN B n (xN B n ((xN B n (xN B n ((xN B n ((xN B n q))))))))))) := by
                  unfold xl1 xper xbd xcs xca xcb xrg
                  try simp only [xs_xs, xs_z]
                  try rw [_ea]
                  try rw [_eb]
                  try rw [_ec]
                  repeat first | rw [xs_0 (by omega)] | rw [xs_1 (by omega)] | rw [if_pos (by omega)] | rw [if_neg (by omega)]
                  first | done | rfl | assumption | (exfalso; omega) | (refine Prod.ext ?_ (Prod.ext ?_ ?_) <;> (try dsimp only) <;> omega)
                have o265681a : ((xl1 B n q d)).1 = xw B n ((xN B n (xN B n ((xN B n (xN B n ((xN B n ((xN B n q)))))))))) 409031 := by rw [o265681]
                have o265681b : ((xl1 B n q d)).2.1 = ((xN B n (xN B n ((xN B n (xN B n ((xN B n ((xN B n q)))))))))) := by rw [o265681]
                have o265681c : ((xl1 B n q d)).2.2 = ((xN B n (xN B n ((xN B n (xN B n ((xN B n ((xN B n q)))))))))) := by rw [o265681]
                exact wp_lc (ks := [5, 4, 3, 1, 0]) (wl_c rfl (wl_c rfl (wl_c rfl (wl_c rfl (wl_c rfl wl_n))))) rfl (by decide) (u_187_k_t93o hW g0 qrp grp qrb grb p0 hRC_r0 hDM_rp (H265463 r0 15) z265541 z265581 z265610 H265604 (xw B n ((xN B n (xN B n ((xN B n (xN B n ((xN B n ((xN B n q)))))))))) 409031) (((xN B n (xN B n ((xN B n (xN B n ((xN B n ((xN B n q))))))))))) w265608 f265679 ⟨by omega, by omega⟩ ⟨by omega, by omega⟩ ⟨by omega, by omega⟩ ⟨by omega, by omega⟩ a265621 (by omega) (by omega))
              · have f265682 := f265597.tr f265609 rfl
                have f265683 := f265598.tr f265609 rfl
                show wp _ _ 187 91 [(4, vI z265581), (3, vI z265541), (1, vL (H265463 r0 15)), (0, .ref r0)] [vI z265610] _ H265604 _
                have u265684 := RO_k a265625
                refine wp_of e187 c187_91 (rw_istore (pc' := 93) (z := z265610) (L' := [(5, vI z265610), (4, vI z265581), (3, vI z265541), (1, vL (H265463 r0 15)), (0, .ref r0)]) rfl rfl rfl ?_)
                have o265685 : (xl1 B n q d) = (xh B n (xN B n ((xN B n (xN B n ((xN B n (xN B n ((xN B n ((xN B n q))))))))))) 0 12, (xN B n ((xN B n (xN B n ((xN B n (xN B n ((xN B n ((xN B n q))))))))))), (xN B n ((xN B n (xN B n ((xN B n (xN B n ((xN B n ((xN B n q)))))))))))) := by
                  unfold xl1 xper xbd xcs xca xcb xrg
                  try simp only [xs_xs, xs_z]
                  try rw [_ea]
                  try rw [_eb]
                  try rw [_ec]
                  repeat first | rw [xs_0 (by omega)] | rw [xs_1 (by omega)] | rw [if_pos (by omega)] | rw [if_neg (by omega)]
                  first | done | rfl | assumption | (exfalso; omega) | (refine Prod.ext ?_ (Prod.ext ?_ ?_) <;> (try dsimp only) <;> omega)
                have o265685a : ((xl1 B n q d)).1 = xh B n (xN B n ((xN B n (xN B n ((xN B n (xN B n ((xN B n ((xN B n q))))))))))) 0 12 := by rw [o265685]
                have o265685b : ((xl1 B n q d)).2.1 = (xN B n ((xN B n (xN B n ((xN B n (xN B n ((xN B n ((xN B n q))))))))))) := by rw [o265685]
                have o265685c : ((xl1 B n q d)).2.2 = (xN B n ((xN B n (xN B n ((xN B n (xN B n ((xN B n ((xN B n q))))))))))) := by rw [o265685]
                exact wp_lc (ks := [5, 4, 3, 1, 0]) (wl_c rfl (wl_c rfl (wl_c rfl (wl_c rfl (wl_c rfl wl_n))))) rfl (by decide) (u_187_k_t93o hW g0 qrp grp qrb grb p0 hRC_r0 hDM_rp (H265463 r0 15) z265541 z265581 z265610 H265604 (xh B n (xN B n ((xN B n (xN B n ((xN B n (xN B n ((xN B n ((xN B n q))))))))))) 0 12) ((xN B n ((xN B n (xN B n ((xN B n (xN B n ((xN B n ((xN B n q)))))))))))) w265608 f265683 ⟨by omega, by omega⟩ ⟨by omega, by omega⟩ ⟨by omega, by omega⟩ ⟨by omega, by omega⟩ a265625 (by omega) (by omega))
            · have f265686 := f265557.tr f265580 rfl
              have f265687 := f265558.tr f265580 rfl
              show wp _ _ 187 80 [(3, vI z265541), (1, vL (H265463 r0 15)), (0, .ref r0)] [vI z265581] _ H265575 _
              have u265688 := RO_k a265592
              refine wp_of e187 c187_80 (rw_istore (pc' := 82) (z := z265581) (L' := [(4, vI z265581), (3, vI z265541), (1, vL (H265463 r0 15)), (0, .ref r0)]) rfl rfl rfl ?_)
              have o265689 : (xl1 B n q d) = (xw B n ((xN B n (xN B n ((xN B n ((xN B n q))))))) 655, ((xN B n (xN B n ((xN B n ((xN B n q))))))), ((xN B n (xN B n ((xN B n ((xN B n q)))))))) := by
                unfold xl1 xper xbd xcs xca xcb xrg
                try simp only [xs_xs, xs_z]
                try rw [_ea]
                try rw [_eb]
                try rw [_ec]
                repeat first | rw [xs_0 (by omega)] | rw [xs_1 (by omega)] | rw [if_pos (by omega)] | rw [if_neg (by omega)]
                first | done | rfl | assumption | (exfalso; omega) | (refine Prod.ext ?_ (Prod.ext ?_ ?_) <;> (try dsimp only) <;> omega)
              have o265689a : ((xl1 B n q d)).1 = xw B n ((xN B n (xN B n ((xN B n ((xN B n q))))))) 655 := by rw [o265689]
              have o265689b : ((xl1 B n q d)).2.1 = ((xN B n (xN B n ((xN B n ((xN B n q))))))) := by rw [o265689]
              have o265689c : ((xl1 B n q d)).2.2 = ((xN B n (xN B n ((xN B n ((xN B n q))))))) := by rw [o265689]
              exact wp_lc (ks := [4, 3, 1, 0]) (wl_c rfl (wl_c rfl (wl_c rfl (wl_c rfl wl_n)))) rfl (by decide) (u_187_k_t82o hW g0 qrp grp qrb grb p0 hRC_r0 hDM_rp (H265463 r0 15) z265541 z265581 H265575 (xw B n ((xN B n (xN B n ((xN B n ((xN B n q))))))) 655) (((xN B n (xN B n ((xN B n ((xN B n q)))))))) w265579 f265687 ⟨by omega, by omega⟩ ⟨by omega, by omega⟩ ⟨by omega, by omega⟩ a265592 (by omega) (by omega))
            · have f265690 := f265557.tr f265580 rfl
              have f265691 := f265558.tr f265580 rfl
              show wp _ _ 187 80 [(3, vI z265541), (1, vL (H265463 r0 15)), (0, .ref r0)] [vI z265581] _ H265575 _
              have u265692 := RO_k a265596
              refine wp_of e187 c187_80 (rw_istore (pc' := 82) (z := z265581) (L' := [(4, vI z265581), (3, vI z265541), (1, vL (H265463 r0 15)), (0, .ref r0)]) rfl rfl rfl ?_)
              have o265693 : (xl1 B n q d) = (xh B n (xN B n ((xN B n (xN B n ((xN B n ((xN B n q)))))))) (xV B n (xN B n (xN B n (xN B n q))) + 0) (min (xV B n (xN B n (xN B n (xN B n q))) + 7) 23), (xN B n ((xN B n (xN B n ((xN B n ((xN B n q)))))))), (xN B n ((xN B n (xN B n ((xN B n ((xN B n q))))))))) := by
                unfold xl1 xper xbd xcs xca xcb xrg
                try simp only [xs_xs, xs_z]
                try rw [_ea]
                try rw [_eb]
                try rw [_ec]
                repeat first | rw [xs_0 (by omega)] | rw [xs_1 (by omega)] | rw [if_pos (by omega)] | rw [if_neg (by omega)]
                first | done | rfl | assumption | (exfalso; omega) | (refine Prod.ext ?_ (Prod.ext ?_ ?_) <;> (try dsimp only) <;> omega)
              have o265693a : ((xl1 B n q d)).1 = xh B n (xN B n ((xN B n (xN B n ((xN B n ((xN B n q)))))))) (xV B n (xN B n (xN B n (xN B n q))) + 0) (min (xV B n (xN B n (xN B n (xN B n q))) + 7) 23) := by rw [o265693]
              have o265693b : ((xl1 B n q d)).2.1 = (xN B n ((xN B n (xN B n ((xN B n ((xN B n q)))))))) := by rw [o265693]
              have o265693c : ((xl1 B n q d)).2.2 = (xN B n ((xN B n (xN B n ((xN B n ((xN B n q)))))))) := by rw [o265693]
              exact wp_lc (ks := [4, 3, 1, 0]) (wl_c rfl (wl_c rfl (wl_c rfl (wl_c rfl wl_n)))) rfl (by decide) (u_187_k_t82o hW g0 qrp grp qrb grb p0 hRC_r0 hDM_rp (H265463 r0 15) z265541 z265581 H265575 (xh B n (xN B n ((xN B n (xN B n ((xN B n ((xN B n q)))))))) (xV B n (xN B n (xN B n (xN B n q))) + 0) (min (xV B n (xN B n (xN B n (xN B n q))) + 7) 23)) ((xN B n ((xN B n (xN B n ((xN B n ((xN B n q))))))))) w265579 f265691 ⟨by omega, by omega⟩ ⟨by omega, by omega⟩ ⟨by omega, by omega⟩ a265596 (by omega) (by omega))
          · have f265694 := f265528.tr f265540 rfl
            have f265695 := f265529.tr f265540 rfl
            show wp _ _ 187 63 [(1, vL (H265463 r0 15)), (0, .ref r0)] [vI z265541] _ H265535 _
            have u265696 := RO_k a265552
            refine wp_of e187 c187_63 (rw_istore_n (pc' := 64) (z := z265541) (L' := [(3, vI z265541), (1, vL (H265463 r0 15)), (0, .ref r0)]) rfl rfl rfl ?_)
            have o265697 : (xl1 B n q d) = (xw B n ((xN B n ((xN B n q)))) 2212, ((xN B n ((xN B n q)))), ((xN B n ((xN B n q))))) := by
              unfold xl1 xper xbd xcs xca xcb xrg
              try simp only [xs_xs, xs_z]
              try rw [_ea]
              try rw [_eb]
              try rw [_ec]
              repeat first | rw [xs_0 (by omega)] | rw [xs_1 (by omega)] | rw [if_pos (by omega)] | rw [if_neg (by omega)]
              first | done | rfl | assumption | (exfalso; omega) | (refine Prod.ext ?_ (Prod.ext ?_ ?_) <;> (try dsimp only) <;> omega)
            have o265697a : ((xl1 B n q d)).1 = xw B n ((xN B n ((xN B n q)))) 2212 := by rw [o265697]
            have o265697b : ((xl1 B n q d)).2.1 = ((xN B n ((xN B n q)))) := by rw [o265697]
            have o265697c : ((xl1 B n q d)).2.2 = ((xN B n ((xN B n q)))) := by rw [o265697]
            exact wp_lc (ks := [3, 1, 0]) (wl_c rfl (wl_c rfl (wl_c rfl wl_n))) rfl (by decide) (u_187_k_t64o hW g0 qrp grp qrb grb p0 hRC_r0 hDM_rp (H265463 r0 15) z265541 H265535 (xw B n ((xN B n ((xN B n q)))) 2212) (((xN B n ((xN B n q))))) w265539 f265695 ⟨by omega, by omega⟩ ⟨by omega, by omega⟩ a265552 (by omega) (by omega))
          · have f265698 := f265528.tr f265540 rfl
            have f265699 := f265529.tr f265540 rfl
            show wp _ _ 187 63 [(1, vL (H265463 r0 15)), (0, .ref r0)] [vI z265541] _ H265535 _
            have u265700 := RO_k a265556
            refine wp_of e187 c187_63 (rw_istore_n (pc' := 64) (z := z265541) (L' := [(3, vI z265541), (1, vL (H265463 r0 15)), (0, .ref r0)]) rfl rfl rfl ?_)
            have o265701 : (xl1 B n q d) = (xh B n (xN B n ((xN B n ((xN B n q))))) 0 23, (xN B n ((xN B n ((xN B n q))))), (xN B n ((xN B n ((xN B n q)))))) := by
              unfold xl1 xper xbd xcs xca xcb xrg
              try simp only [xs_xs, xs_z]
              try rw [_ea]
              try rw [_eb]
              try rw [_ec]
              repeat first | rw [xs_0 (by omega)] | rw [xs_1 (by omega)] | rw [if_pos (by omega)] | rw [if_neg (by omega)]
              first | done | rfl | assumption | (exfalso; omega) | (refine Prod.ext ?_ (Prod.ext ?_ ?_) <;> (try dsimp only) <;> omega)
            have o265701a : ((xl1 B n q d)).1 = xh B n (xN B n ((xN B n ((xN B n q))))) 0 23 := by rw [o265701]
            have o265701b : ((xl1 B n q d)).2.1 = (xN B n ((xN B n ((xN B n q))))) := by rw [o265701]
            have o265701c : ((xl1 B n q d)).2.2 = (xN B n ((xN B n ((xN B n q))))) := by rw [o265701]
            exact wp_lc (ks := [3, 1, 0]) (wl_c rfl (wl_c rfl (wl_c rfl wl_n))) rfl (by decide) (u_187_k_t64o hW g0 qrp grp qrb grb p0 hRC_r0 hDM_rp (H265463 r0 15) z265541 H265535 (xh B n (xN B n ((xN B n ((xN B n q))))) 0 23) ((xN B n ((xN B n ((xN B n q)))))) w265539 f265699 ⟨by omega, by omega⟩ ⟨by omega, by omega⟩ a265556 (by omega) (by omega))
        · refine wp_of e187 c187_40 (rw_aload_n (pc' := 41) (v := .ref r0) rfl rfl rfl ?_)
          refine wp_of e187 c187_41 (rw_iconst (pc' := 42) rfl ?_)
          refine wp_of e187 c187_42 (xc_V (pc' := 45) (r := r0) (as := [vI 3]) (st := []) (lm_9_121) rfl rfl (Nat.le_of_ble_eq_true rfl) w265467 g0 sh_42 (by decide) rfl (by decide) (u_181_k (B := B) (n := n) (q := ((xN B n q))) w265467 g0 ⟨by omega, by omega⟩ (by omega) a265471) (fun R265702 T265703 H265704 p265705 => ?_))
          obtain ⟨e265706, w265708, f265709, e265707, p265710⟩ := p265705
          subst e265706
          subst e265707
          have f265712 := f265474.tr f265709 rfl
          have f265713 := f265475.tr f265709 rfl
          show wp _ _ 187 45 [(0, .ref r0)] [] _ H265704 _
          have u265714 := RO_k p265710
          have o265715 : (xl1 B n q d) = (xnm B n (xN B n q) d, (xN B n q), (xN B n q)) := by
            unfold xl1 xper xbd xcs xca xcb xrg
            try simp only [xs_xs, xs_z]
            try rw [_ea]
            try rw [_eb]
            try rw [_ec]
            repeat first | rw [xs_0 (by omega)] | rw [xs_1 (by omega)] | rw [if_pos (by omega)] | rw [if_neg (by omega)]
            first | done | rfl | assumption | (exfalso; omega) | (refine Prod.ext ?_ (Prod.ext ?_ ?_) <;> (try dsimp only) <;> omega)
          have o265715a : ((xl1 B n q d)).1 = xnm B n (xN B n q) d := by rw [o265715]
          have o265715b : ((xl1 B n q d)).2.1 = (xN B n q) := by rw [o265715]
          have o265715c : ((xl1 B n q d)).2.2 = (xN B n q) := by rw [o265715]
          exact wp_lc (ks := [0]) (wl_c rfl wl_n) rfl (by decide) (u_187_k_t45o hW g0 qrp grp qrb grb p0 hRC_r0 hDM_rp H265704 3 (((xN B n q))) w265708 f265713 p265710 (by omega) (by omega))
      · exfalso
        omega
    · show wp _ _ 187 17 [(0, .ref r0)] [vI z265484] _ H265463 _
      refine wp_of e187 c187_17 (rw_if_ne (p1 := 25) (p2 := 20) (by decide) rfl ⟨by omega, by omega⟩ (fun c265716 => ?_) (fun c265716 => ?_))
      · exfalso
        omega
      · refine wp_of e187 c187_20 (rw_aload_n (pc' := 21) (v := .ref r0) rfl rfl rfl ?_)
        refine wp_of e187 c187_21 (rw_iconst (pc' := 22) rfl ?_)
        refine wp_of e187 c187_22 (xc_V (pc' := 25) (r := r0) (as := [vI 1]) (st := []) (lm_9_121) rfl rfl (Nat.le_of_ble_eq_true rfl) w265467 g0 sh_42 (by decide) rfl (by decide) (u_181_k (B := B) (n := n) (q := ((xN B n q))) w265467 g0 ⟨by omega, by omega⟩ (by omega) a265471) (fun R265717 T265718 H265719 p265720 => ?_))
        obtain ⟨e265721, w265723, f265724, e265722, p265725⟩ := p265720
        subst e265721
        subst e265722
        have f265727 := f265474.tr f265724 rfl
        have f265728 := f265475.tr f265724 rfl
        show wp _ _ 187 25 [(0, .ref r0)] [] _ H265719 _
        have u265729 := RO_k p265725
        have o265730 : (xl1 B n q d) = (xnm B n (xN B n q) d, (xN B n q), (xN B n q)) := by
          unfold xl1 xper xbd xcs xca xcb xrg
          try simp only [xs_xs, xs_z]
          try rw [_ea]
          try rw [_eb]
          try rw [_ec]
          repeat first | rw [xs_0 (by omega)] | rw [xs_1 (by omega)] | rw [if_pos (by omega)] | rw [if_neg (by omega)]
          first | done | rfl | assumption | (exfalso; omega) | (refine Prod.ext ?_ (Prod.ext ?_ ?_) <;> (try dsimp only) <;> omega)
        have o265730a : ((xl1 B n q d)).1 = xnm B n (xN B n q) d := by rw [o265730]
        have o265730b : ((xl1 B n q d)).2.1 = (xN B n q) := by rw [o265730]
        have o265730c : ((xl1 B n q d)).2.2 = (xN B n q) := by rw [o265730]
        exact wp_lc (ks := [0]) (wl_c rfl wl_n) rfl (by decide) (u_187_k_t25o hW g0 qrp grp qrb grb p0 hRC_r0 hDM_rp H265719 1 (((xN B n q))) w265723 f265728 p265725 (by omega) (by omega))
  · have f265731 := f0.tr f265468 rfl
    have f265732 := f0s.tr f265468 rfl
    show wp _ _ 187 13 [(0, .ref r0)] [] _ H265463 _
    have u265733 := RO_k a265473
    refine wp_of e187 c187_13 (rw_aload_n (pc' := 14) (v := .ref r0) rfl rfl rfl ?_)
    refine wp_of e187 c187_14 (xc_V (pc' := 17) (r := r0) (as := []) (st := []) (lm_9_162) rfl rfl (Nat.le_of_ble_eq_true rfl) w265467 g0 sh_42 (by decide) rfl (by decide) (u_189_o (fo := 5) (po := q) w265467 g0 a265473) (fun R265734 T265735 H265736 p265737 => ?_))
    obtain ⟨e265738, e265740, z265741, e265739, b265742, p265743⟩ := p265737
    subst e265738
    subst e265739
    subst e265740
    show wp _ _ 187 17 [(0, .ref r0)] [vI z265741] _ H265463 _
    refine wp_of e187 c187_17 (rw_if_ne (p1 := 25) (p2 := 20) (by decide) rfl ⟨by omega, by omega⟩ (fun c265745 => ?_) (fun c265745 => ?_))
    · exfalso
      omega
    · refine wp_of e187 c187_20 (rw_aload_n (pc' := 21) (v := .ref r0) rfl rfl rfl ?_)
      refine wp_of e187 c187_21 (rw_iconst (pc' := 22) rfl ?_)
      refine wp_of e187 c187_22 (xc_V (pc' := 25) (r := r0) (as := [vI 1]) (st := []) (lm_9_121) rfl rfl (Nat.le_of_ble_eq_true rfl) w265467 g0 sh_42 (by decide) rfl (by decide) (u_181_o (fo := 5) (po := q) w265467 g0 ⟨by omega, by omega⟩ a265473) (fun R265746 T265747 H265748 p265749 => ?_))
      obtain ⟨e265750, e265752, e265751, p265753⟩ := p265749
      subst e265750
      subst e265751
      subst e265752
      show wp _ _ 187 25 [(0, .ref r0)] [] _ H265463 _
      have u265755 := RO_k p265753
      have o265756 : (xl1 B n q d) = (5, q, q) := by
        unfold xl1 xper xbd xcs xca xcb xrg
        try simp only [xs_xs, xs_z]
        try rw [_ea]
        try rw [_eb]
        try rw [_ec]
        repeat first | rw [xs_0 (by omega)] | rw [xs_1 (by omega)] | rw [if_pos (by omega)] | rw [if_neg (by omega)]
        first | done | rfl | assumption | (exfalso; omega) | (refine Prod.ext ?_ (Prod.ext ?_ ?_) <;> (try dsimp only) <;> omega)
      have o265756a : ((xl1 B n q d)).1 = 5 := by rw [o265756]
      have o265756b : ((xl1 B n q d)).2.1 = q := by rw [o265756]
      have o265756c : ((xl1 B n q d)).2.2 = q := by rw [o265756]
      exact wp_lc (ks := [0]) (wl_c rfl wl_n) rfl (by decide) (u_187_k_t25o hW g0 qrp grp qrb grb p0 hRC_r0 hDM_rp H265463 5 q w265467 f265732 p265753 (by omega) (by omega))
