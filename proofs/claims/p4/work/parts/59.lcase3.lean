theorem lw_mov (x y : Int32) (z : Int64) : (if ac_movOk x y z then (1 : Int32) else 0) = if rc_movOk x y z then 1 else 0 := by
  have h : ac_movOk x y z ↔ rc_movOk x y z := by
    unfold ac_movOk rc_movOk ac_isMove
    by_cases h1 : ac_isKind x = 0 <;> by_cases h2 : ac_isKind y = 0 <;> by_cases h3 : x = y <;> simp [h1, h2, h3]
  by_cases c : ac_movOk x y z
  · rw [if_pos c, if_pos (h.mp c)]
  · rw [if_neg c, if_neg (fun w => c (h.mpr w))]
set_option maxHeartbeats 4000000 in
set_option maxRecDepth 100000 in
theorem lc_2 {p : Program} {l : Launch} {e : Env} {s : State} {m : MethodId} {below : List Frame} {meth : Method} {c : Code} {b L : Nat} {xs : Nat → Int32} (hL : L ≤ 3072) (C0 : lw_At p s m meth c b L xs) {D : va_G} {ad bd : Nat → Nat} {cI cL cZ : ClassId} (hF : lw_Fix s D ad bd cI cL cZ)
    {i : Nat} (hi : i + 6 ≤ L) {cells slots : Nat} (hce : cells ≤ room_1.cells) (hsl : slots ≤ room_1.slots) {Q : State → Prop} {H : Heap} {locs : List Loc} (hI : lw_Inv s D ad bd cI cL cZ H locs) {ls : Array Slot} (hl : lv_has ls 4 [(0, .ref b), (1, .ref (ad 0)), (2, .ref (bd 0)), (3, .int (nI i))])
    (kk : ∀ (H : Heap) (locs : List Loc), lw_Inv s D ad bd cI cL cZ H locs → W p l e room_1 s m #[Value.ref b] below meth c H locs cells slots Q (F0 m 961 ls [])) : W p l e room_1 s m #[Value.ref b] below meth c H locs cells slots Q (F0 m 240 ls []) := by
  obtain ⟨hx, hb, hr, hml, hown, hts, hX, hbl, hlocks, hgv⟩ := C0
  have hown : s.vm.findClass RL = some m.cls := hown
  have hbA : ¬ (fun q : Nat => s.heap.size ≤ q) b := Nat.not_le.mpr hbl
  obtain ⟨hK2, hK3, hN, hDc, hDr, hAc, hAr, hdis⟩ := hF
  obtain ⟨fi, fl, ai, al, gi, gl, bi, bl, na, nr, na2, nr2, hk, hk2, hPc, hPr, hS⟩ := hI
  obtain ⟨ln, hln, hlen⟩ := hk.2.2.2.2.1
  obtain ⟨ln2, hln2, hlen2⟩ := hk2.1.2.2.2.2.1
  obtain ⟨nt, hnt10, hnt⟩ := hk2.1.2.2.2.2.2.2
  obtain ⟨F9, hF9⟩ : ∃ F, 1048576 ≤ F := ⟨_, Nat.le_refl _⟩
  refine lv_aload_n hx hb dL_law_240 rfl (lv_at hl 1 rfl) ?_
  refine lv_aload_n hx hb dL_law_241 rfl (lv_at hl 0 rfl) ?_
  refine lv_iload_n hx hb dL_law_242 rfl (lv_at hl 3 rfl) ?_
  refine lv_iconst (v := 1) hx hb dL_law_243 (by decide) ?_
  refine lv_iadd hx hb dL_law_244 ?_
  refine am_topi (y := nI (i + 1)) (nI_add i 1) ?_
  refine va_sld hx hb hX hbl hbA hS (i := (nI (i + 1))) (vp_in_nI (by omega) (by omega)) dL_law_245 ?_
  refine am_topi (y := xs (i + 1)) (by rw [nI_clamp (by omega)]) ?_
  refine lv_aload_n hx hb dL_law_246 rfl (lv_at hl 0 rfl) ?_
  refine lv_iload_n hx hb dL_law_247 rfl (lv_at hl 3 rfl) ?_
  refine lv_iconst (v := 2) hx hb dL_law_248 (by decide) ?_
  refine lv_iadd hx hb dL_law_249 ?_
  refine am_topi (y := nI (i + 2)) (nI_add i 2) ?_
  refine va_sld hx hb hX hbl hbA hS (i := (nI (i + 2))) (vp_in_nI (by omega) (by omega)) dL_law_250 ?_
  refine am_topi (y := xs (i + 2)) (by rw [nI_clamp (by omega)]) ?_
  refine lv_aload_n hx hb dL_law_251 rfl (lv_at hl 0 rfl) ?_
  refine lv_iload_n hx hb dL_law_252 rfl (lv_at hl 3 rfl) ?_
  refine lv_iconst (v := 3) hx hb dL_law_253 (by decide) ?_
  refine lv_iadd hx hb dL_law_254 ?_
  refine am_topi (y := nI (i + 3)) (nI_add i 3) ?_
  refine va_sld hx hb hX hbl hbA hS (i := (nI (i + 3))) (vp_in_nI (by omega) (by omega)) dL_law_255 ?_
  refine am_topi (y := xs (i + 3)) (by rw [nI_clamp (by omega)]) ?_
  refine lv_i2l (v := (xs (i + 3)).toInt64) hx hb dL_law_256 rfl ?_
  refine lv_bipush (v := 32) hx hb dL_law_257 (by decide) ?_
  refine lv_lshl (v := ((xs (i + 3)).toInt64) <<< ((32 : Int32).toInt64 &&& 63)) hx hb dL_law_259 rfl ?_
  refine lv_aload_n hx hb dL_law_260 rfl (lv_at hl 0 rfl) ?_
  refine lv_iload_n hx hb dL_law_261 rfl (lv_at hl 3 rfl) ?_
  refine lv_iconst (v := 4) hx hb dL_law_262 (by decide) ?_
  refine lv_iadd hx hb dL_law_263 ?_
  refine am_topi (y := nI (i + 4)) (nI_add i 4) ?_
  refine va_sld hx hb hX hbl hbA hS (i := (nI (i + 4))) (vp_in_nI (by omega) (by omega)) dL_law_264 ?_
  refine am_topi (y := xs (i + 4)) (by rw [nI_clamp (by omega)]) ?_
  refine lv_i2l (v := (xs (i + 4)).toInt64) hx hb dL_law_265 rfl ?_
  refine lv_ldc2 (v := 4294967295) hx hb hown (lw_ht hts 640 _ rfl) dL_law_266 ?_
  refine lv_land hx hb dL_law_269 ?_
  refine lv_lor hx hb dL_law_270 ?_
  refine lw_callMi (va_runV (As := [.int (xs (i + 1)), .int (xs (i + 2)), .long ((((xs (i + 3)).toInt64) <<< ((32 : Int32).toInt64 &&& 63)) ||| (((xs (i + 4)).toInt64) &&& 4294967295))]) (rest := []) ⟨hx, hb, hml, hown, hts⟩ (c_X0_change l D ad cI cL fi fl ai al (lw_Ac ad) (xs (i + 1)) (xs (i + 2)) ((((xs (i + 3)).toInt64) <<< ((32 : Int32).toInt64 &&& 63)) ||| (((xs (i + 4)).toInt64) &&& 4294967295)) ) (cwV 3 hts (lw_gV (am_in 211 rfl) (am_in 212 rfl) (am_in 213 rfl) (am_in 29 rfl) (am_in 214 rfl)) rfl rfl rfl (by decide +kernel) ⟨Nat.le_of_ble_eq_true rfl, Nat.le_of_ble_eq_true rfl⟩) (am_preVM 0 0 rfl rfl rfl hPc hK2 hN (hDc _ _ _ _)) rfl rfl hl.1 rfl (lv_room (Nat.le_of_ble_eq_true rfl)) dL_law_271 ⟨hce, hsl⟩) hS hAc hPr (lw_dis (hDr _ _ _ _) (fun q h g => hdis q g h)) (fun H locs hPc hPr hS => ?_)
  obtain ⟨na, nr, hk⟩ := ck_change (fl := fl) (al := al) (xs (i + 1)) (xs (i + 2)) ((((xs (i + 3)).toInt64) <<< ((32 : Int32).toInt64 &&& 63)) ||| (((xs (i + 4)).toInt64) &&& 4294967295)) hk
  refine lv_aload_n hx hb dL_law_274 rfl (lv_at hl 2 rfl) ?_
  refine lv_aload_n hx hb dL_law_275 rfl (lv_at hl 0 rfl) ?_
  refine lv_iload_n hx hb dL_law_276 rfl (lv_at hl 3 rfl) ?_
  refine lv_iconst (v := 1) hx hb dL_law_277 (by decide) ?_
  refine lv_iadd hx hb dL_law_278 ?_
  refine am_topi (y := nI (i + 1)) (nI_add i 1) ?_
  refine va_sld hx hb hX hbl hbA hS (i := (nI (i + 1))) (vp_in_nI (by omega) (by omega)) dL_law_279 ?_
  refine am_topi (y := xs (i + 1)) (by rw [nI_clamp (by omega)]) ?_
  refine lv_aload_n hx hb dL_law_280 rfl (lv_at hl 0 rfl) ?_
  refine lv_iload_n hx hb dL_law_281 rfl (lv_at hl 3 rfl) ?_
  refine lv_iconst (v := 2) hx hb dL_law_282 (by decide) ?_
  refine lv_iadd hx hb dL_law_283 ?_
  refine am_topi (y := nI (i + 2)) (nI_add i 2) ?_
  refine va_sld hx hb hX hbl hbA hS (i := (nI (i + 2))) (vp_in_nI (by omega) (by omega)) dL_law_284 ?_
  refine am_topi (y := xs (i + 2)) (by rw [nI_clamp (by omega)]) ?_
  refine lv_aload_n hx hb dL_law_285 rfl (lv_at hl 0 rfl) ?_
  refine lv_iload_n hx hb dL_law_286 rfl (lv_at hl 3 rfl) ?_
  refine lv_iconst (v := 3) hx hb dL_law_287 (by decide) ?_
  refine lv_iadd hx hb dL_law_288 ?_
  refine am_topi (y := nI (i + 3)) (nI_add i 3) ?_
  refine va_sld hx hb hX hbl hbA hS (i := (nI (i + 3))) (vp_in_nI (by omega) (by omega)) dL_law_289 ?_
  refine am_topi (y := xs (i + 3)) (by rw [nI_clamp (by omega)]) ?_
  refine lv_i2l (v := (xs (i + 3)).toInt64) hx hb dL_law_290 rfl ?_
  refine lv_bipush (v := 32) hx hb dL_law_291 (by decide) ?_
  refine lv_lshl (v := ((xs (i + 3)).toInt64) <<< ((32 : Int32).toInt64 &&& 63)) hx hb dL_law_293 rfl ?_
  refine lv_aload_n hx hb dL_law_294 rfl (lv_at hl 0 rfl) ?_
  refine lv_iload_n hx hb dL_law_295 rfl (lv_at hl 3 rfl) ?_
  refine lv_iconst (v := 4) hx hb dL_law_296 (by decide) ?_
  refine lv_iadd hx hb dL_law_297 ?_
  refine am_topi (y := nI (i + 4)) (nI_add i 4) ?_
  refine va_sld hx hb hX hbl hbA hS (i := (nI (i + 4))) (vp_in_nI (by omega) (by omega)) dL_law_298 ?_
  refine am_topi (y := xs (i + 4)) (by rw [nI_clamp (by omega)]) ?_
  refine lv_i2l (v := (xs (i + 4)).toInt64) hx hb dL_law_299 rfl ?_
  refine lv_ldc2 (v := 4294967295) hx hb hown (lw_ht hts 640 _ rfl) dL_law_300 ?_
  refine lv_land hx hb dL_law_303 ?_
  refine lv_lor hx hb dL_law_304 ?_
  refine lw_callMi (va_runV (As := [.int (xs (i + 1)), .int (xs (i + 2)), .long ((((xs (i + 3)).toInt64) <<< ((32 : Int32).toInt64 &&& 63)) ||| (((xs (i + 4)).toInt64) &&& 4294967295))]) (rest := [.int (if ac_movOk (xs (i + 1)) (xs (i + 2)) ((((xs (i + 3)).toInt64) <<< ((32 : Int32).toInt64 &&& 63)) ||| (((xs (i + 4)).toInt64) &&& 4294967295)) then 1 else 0)]) ⟨hx, hb, hml, hown, hts⟩ (c_X5_change l D bd cI cL cZ gi gl bi bl (lw_Ar bd) (xs (i + 1)) (xs (i + 2)) ((((xs (i + 3)).toInt64) <<< ((32 : Int32).toInt64 &&& 63)) ||| (((xs (i + 4)).toInt64) &&& 4294967295)) ) (cwV 3 hts (lw_gV (am_in 514 rfl) (am_in 515 rfl) (am_in 516 rfl) (am_in 35 rfl) (am_in 517 rfl)) rfl rfl rfl (by decide +kernel) ⟨Nat.le_of_ble_eq_true rfl, Nat.le_of_ble_eq_true rfl⟩) (am_preVM 5 0 rfl rfl rfl hPr hK3 hN (hDr _ _ _ _)) rfl rfl hl.1 rfl (lv_room (Nat.le_of_ble_eq_true rfl)) dL_law_305 ⟨hce, hsl⟩) hS hAr hPc (lw_dis (hDc _ _ _ _) hdis) (fun H locs hPr hPc hS => ?_)
  obtain ⟨na2, nr2, hk2⟩ := rk_change (xs (i + 1)) (xs (i + 2)) ((((xs (i + 3)).toInt64) <<< ((32 : Int32).toInt64 &&& 63)) ||| (((xs (i + 4)).toInt64) &&& 4294967295)) hk2
  refine lv_icmp_eq (tgt := 961) hx hb dL_law_308 (by decide) (fun c_9 => ?_) (fun c_9 => ?_)
  · exact kk _ _ ⟨_, _, _, _, _, _, _, _, _, _, _, _, hk, hk2, hPc, hPr, hS⟩
  · exact absurd (lw_mov _ _ _) c_9
