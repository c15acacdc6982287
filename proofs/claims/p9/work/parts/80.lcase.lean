def lw_Ac (ad : Nat → Nat) (q : Nat) : Prop := ∃ k, k < 24 ∧ q = ad k
def lw_Ar (bd : Nat → Nat) (q : Nat) : Prop := ∃ k, k < 22 ∧ q = bd k
/-- what is fixed over the law's whole run -/
def lw_Fix (s : State) (D : va_G) (ad bd : Nat → Nat) (cI cL cZ : ClassId) : Prop :=
  va_K D vwCl [(cI, .int), (cL, .long)] s ∧ va_K D vwCl [(cI, .int), (cL, .long), (cZ, .boolean)] s ∧ am_nw nwL s ∧
  (∀ fi fl ai al, va_D (lw_Ac ad) (ac_w ad cI cL fi fl ai al)) ∧ (∀ fi fl ai al, va_D (lw_Ar bd) (rm_w bd cI cL cZ fi fl ai al)) ∧
  (∀ q, lw_Ac ad q → s.heap.size ≤ q) ∧ (∀ q, lw_Ar bd q → s.heap.size ≤ q) ∧ ∀ q, lw_Ac ad q → ¬ lw_Ar bd q
def lw_RI (i : Nat) (fi : Nat → Int32) (fl : Nat → Int64) (ai : Nat → Nat → Int32) (al : Nat → Nat → Int64) (gi : Nat → Int32) (gl : Nat → Int64) (bi : Nat → Nat → Int32) (bl : Nat → Nat → Int64) : Prop := lw_R fi fl ai al gi gl bi bl
def lw_Inv (i : Nat) (s : State) (D : va_G) (ad bd : Nat → Nat) (cI cL cZ : ClassId) (H : Heap) (locs : List Loc) : Prop :=
  ∃ fi fl ai al gi gl bi bl na nr na2 nr2, ac_K na nr fi ai ∧ rc_K na2 nr2 gi bi bl ∧ lw_RI i fi fl ai al gi gl bi bl ∧ va_P D vwCl (ac_w ad cI cL fi fl ai al) H ∧ va_P D vwCl (rm_w bd cI cL cZ gi gl bi bl) H ∧ va_S (fun q : Nat => s.heap.size ≤ q) s.heap H locs
theorem lw_dis {A B : Nat → Prop} {w : va_W} (hD : va_D A w) (h : ∀ q, A q → ¬ B q) : ∀ (k : Nat) (q : Nat × va_E), w[k]? = some q → ¬ B q.1 := fun k q hq => h q.1 (hD.2 k q hq)
theorem lw_Inv_up {i : Nat} {s : State} {D : va_G} {ad bd : Nat → Nat} {cI cL cZ : ClassId} {H : Heap} {locs : List Loc} (h : lw_Inv i s D ad bd cI cL cZ H locs) : lw_Inv (i + 6) s D ad bd cI cL cZ H locs := by
  obtain ⟨fi, fl, ai, al, gi, gl, bi, bl, na, nr, na2, nr2, hk, hk2, hR, hPc, hPr, hS⟩ := h
  exact ⟨fi, fl, ai, al, gi, gl, bi, bl, na, nr, na2, nr2, hk, hk2, hR, hPc, hPr, hS⟩
set_option maxHeartbeats 4000000 in
set_option maxRecDepth 100000 in
theorem lc_8 {p : Program} {l : Launch} {e : Env} {s : State} {m : MethodId} {below : List Frame} {meth : Method} {c : Code} {b L : Nat} {xs : Nat → Int32} (hL : L ≤ 3072) (C0 : lw_At p s m meth c b L xs) {D : va_G} {ad bd : Nat → Nat} {cI cL cZ : ClassId} (hF : lw_Fix s D ad bd cI cL cZ)
    {i : Nat} (hi : i + 6 ≤ L) {cells slots : Nat} (hce : cells ≤ room_1.cells) (hsl : slots ≤ room_1.slots) {Q : State → Prop} {H : Heap} {locs : List Loc} (hI : lw_Inv i s D ad bd cI cL cZ H locs) {ls : Array Slot} (hl : lv_has ls 4 [(0, .ref b), (1, .ref (ad 0)), (2, .ref (bd 0)), (3, .int (nI i))])
    (kk : ∀ (H : Heap) (locs : List Loc), lw_Inv (i + 6) s D ad bd cI cL cZ H locs → W p l e room_1 s m #[Value.ref b] below meth c H locs cells slots Q (F0 m 961 ls [])) : W p l e room_1 s m #[Value.ref b] below meth c H locs cells slots Q (F0 m 668 ls []) := by
  obtain ⟨hx, hb, hr, hml, hown, hts, hX9, hbl, hlocks, hgv⟩ := C0
  have hown : s.vm.findClass RL = some m.cls := hown
  have hbA : ¬ (fun q : Nat => s.heap.size ≤ q) b := Nat.not_le.mpr hbl
  obtain ⟨hK2, hK3, hN, hDc, hDr, hAc, hAr, hdis⟩ := hF
  obtain ⟨fi, fl, ai, al, gi, gl, bi, bl, na, nr, na2, nr2, hk, hk2, hR, hPc, hPr, hS⟩ := hI
  obtain ⟨ln, hln, hlen⟩ := hk.2.2.2.2.1
  obtain ⟨ln2, hln2, hlen2⟩ := hk2.1.2.2.2.2.1
  obtain ⟨nt, hnt10, hnt⟩ := hk2.1.2.2.2.2.2.2
  obtain ⟨F9, hF9⟩ : ∃ F, 1048576 ≤ F := ⟨_, Nat.le_refl _⟩
  have hX : ln ≤ 10 ∧ fi 5 = nI ln ∧ ln2 ≤ 10 ∧ (gi 2 = nI ln2 ∨ gi 2 = -1) ∧ nt ≤ 10 ∧ gi 5 = nI nt ∧ 1048576 ≤ F9 := ⟨hln, hlen, hln2, hlen2, hnt10, hnt, hF9⟩
  have hk0 := hk
  have hk20 := hk2
  have hR0 := hR
  refine lv_aload_n hx hb dL_law_668 rfl (lv_at hl 1 rfl) ?_
  refine am_callRl (W.runV (As := []) (rest := []) ⟨hx, hb, hml, hown, hts⟩ (c_X0_states l D ad cI cL fi fl ai al na hk.1 hk.2.1) (cwV 0 hts (lw_gV (am_in 252 rfl) (am_in 253 rfl) (am_in 254 rfl) (am_in 29 rfl) (am_in 255 rfl)) rfl rfl rfl (by decide +kernel) ⟨Nat.le_of_ble_eq_true rfl, Nat.le_of_ble_eq_true rfl⟩) (am_preVR 0 0 rfl rfl rfl hPc hK2 hN) rfl rfl hl.1 rfl (lv_room (Nat.le_of_ble_eq_true rfl)) dL_law_669 ⟨hce, hsl⟩) ?_
  refine lv_pop2_2 hx hb dL_law_672 rfl ?_
  refine lv_aload_n hx hb dL_law_673 rfl (lv_at hl 2 rfl) ?_
  refine am_callRl (W.runV (As := []) (rest := []) ⟨hx, hb, hml, hown, hts⟩ (c_X5_states l D bd cI cL cZ gi gl bi bl na2 hk2.1.1 hk2.1.2.1) (cwV 0 hts (lw_gV (am_in 547 rfl) (am_in 548 rfl) (am_in 549 rfl) (am_in 35 rfl) (am_in 550 rfl)) rfl rfl rfl (by decide +kernel) ⟨Nat.le_of_ble_eq_true rfl, Nat.le_of_ble_eq_true rfl⟩) (am_preVR 5 0 rfl rfl rfl hPr hK3 hN) rfl rfl hl.1 rfl (lv_room (Nat.le_of_ble_eq_true rfl)) dL_law_674 ⟨hce, hsl⟩) ?_
  refine lv_pop2_2 hx hb dL_law_677 rfl ?_
  refine lv_goto (tgt := 961) hx hb dL_law_678 (by decide) ?_
  exact kk _ _ ⟨_, _, _, _, _, _, _, _, _, _, _, _, hk, hk2, hR, hPc, hPr, hS⟩
set_option maxHeartbeats 4000000 in
set_option maxRecDepth 100000 in
theorem lc_10 {p : Program} {l : Launch} {e : Env} {s : State} {m : MethodId} {below : List Frame} {meth : Method} {c : Code} {b L : Nat} {xs : Nat → Int32} (hL : L ≤ 3072) (C0 : lw_At p s m meth c b L xs) {D : va_G} {ad bd : Nat → Nat} {cI cL cZ : ClassId} (hF : lw_Fix s D ad bd cI cL cZ)
    {i : Nat} (hi : i + 6 ≤ L) {cells slots : Nat} (hce : cells ≤ room_1.cells) (hsl : slots ≤ room_1.slots) {Q : State → Prop} {H : Heap} {locs : List Loc} (hI : lw_Inv i s D ad bd cI cL cZ H locs) {ls : Array Slot} (hl : lv_has ls 4 [(0, .ref b), (1, .ref (ad 0)), (2, .ref (bd 0)), (3, .int (nI i))])
    (kk : ∀ (H : Heap) (locs : List Loc), lw_Inv (i + 6) s D ad bd cI cL cZ H locs → W p l e room_1 s m #[Value.ref b] below meth c H locs cells slots Q (F0 m 961 ls [])) : W p l e room_1 s m #[Value.ref b] below meth c H locs cells slots Q (F0 m 734 ls []) := by
  obtain ⟨hx, hb, hr, hml, hown, hts, hX9, hbl, hlocks, hgv⟩ := C0
  have hown : s.vm.findClass RL = some m.cls := hown
  have hbA : ¬ (fun q : Nat => s.heap.size ≤ q) b := Nat.not_le.mpr hbl
  obtain ⟨hK2, hK3, hN, hDc, hDr, hAc, hAr, hdis⟩ := hF
  obtain ⟨fi, fl, ai, al, gi, gl, bi, bl, na, nr, na2, nr2, hk, hk2, hR, hPc, hPr, hS⟩ := hI
  obtain ⟨ln, hln, hlen⟩ := hk.2.2.2.2.1
  obtain ⟨ln2, hln2, hlen2⟩ := hk2.1.2.2.2.2.1
  obtain ⟨nt, hnt10, hnt⟩ := hk2.1.2.2.2.2.2.2
  obtain ⟨F9, hF9⟩ : ∃ F, 1048576 ≤ F := ⟨_, Nat.le_refl _⟩
  have hX : ln ≤ 10 ∧ fi 5 = nI ln ∧ ln2 ≤ 10 ∧ (gi 2 = nI ln2 ∨ gi 2 = -1) ∧ nt ≤ 10 ∧ gi 5 = nI nt ∧ 1048576 ≤ F9 := ⟨hln, hlen, hln2, hlen2, hnt10, hnt, hF9⟩
  have hk0 := hk
  have hk20 := hk2
  have hR0 := hR
  refine lv_aload_n hx hb dL_law_734 rfl (lv_at hl 1 rfl) ?_
  refine lv_aload_n hx hb dL_law_735 rfl (lv_at hl 0 rfl) ?_
  refine lv_iload_n hx hb dL_law_736 rfl (lv_at hl 3 rfl) ?_
  refine lv_iconst (v := 1) hx hb dL_law_737 (by decide) ?_
  refine lv_iadd hx hb dL_law_738 ?_
  refine am_topi (y := nI (i + 1)) (nI_add i 1) ?_
  refine va_sld hx hb hX9 hbl hbA hS (i := (nI (i + 1))) (vp_in_nI (by omega) (by omega)) dL_law_739 ?_
  refine am_topi (y := xs (i + 1)) (by rw [nI_clamp (by omega)]) ?_
  refine am_callRi (W.runV (As := [.int (xs (i + 1))]) (rest := []) ⟨hx, hb, hml, hown, hts⟩ (c_X0_step l D ad cI cL fi fl ai al (xs (i + 1)) ln hlen hln) (cwV 1 hts (lw_gV (am_in 351 rfl) (am_in 352 rfl) (am_in 353 rfl) (am_in 29 rfl) (am_in 354 rfl)) rfl rfl rfl (by decide +kernel) ⟨Nat.le_of_ble_eq_true rfl, Nat.le_of_ble_eq_true rfl⟩) (am_preVR 0 0 rfl rfl rfl hPc hK2 hN) rfl rfl hl.1 rfl (lv_room (Nat.le_of_ble_eq_true rfl)) dL_law_740 ⟨hce, hsl⟩) ?_
  refine lv_pop hx hb dL_law_743 rfl ?_
  refine lv_aload_n hx hb dL_law_744 rfl (lv_at hl 2 rfl) ?_
  refine lv_aload_n hx hb dL_law_745 rfl (lv_at hl 0 rfl) ?_
  refine lv_iload_n hx hb dL_law_746 rfl (lv_at hl 3 rfl) ?_
  refine lv_iconst (v := 1) hx hb dL_law_747 (by decide) ?_
  refine lv_iadd hx hb dL_law_748 ?_
  refine am_topi (y := nI (i + 1)) (nI_add i 1) ?_
  refine va_sld hx hb hX9 hbl hbA hS (i := (nI (i + 1))) (vp_in_nI (by omega) (by omega)) dL_law_749 ?_
  refine am_topi (y := xs (i + 1)) (by rw [nI_clamp (by omega)]) ?_
  refine am_callRi (W.runV (As := [.int (xs (i + 1))]) (rest := []) ⟨hx, hb, hml, hown, hts⟩ (c_X5_step l D bd cI cL cZ gi gl bi bl (xs (i + 1)) ln2 hlen2 hln2) (cwV 1 hts (lw_gV (am_in 588 rfl) (am_in 589 rfl) (am_in 590 rfl) (am_in 35 rfl) (am_in 591 rfl)) rfl rfl rfl (by decide +kernel) ⟨Nat.le_of_ble_eq_true rfl, Nat.le_of_ble_eq_true rfl⟩) (am_preVR 5 0 rfl rfl rfl hPr hK3 hN) rfl rfl hl.1 rfl (lv_room (Nat.le_of_ble_eq_true rfl)) dL_law_750 ⟨hce, hsl⟩) ?_
  refine lv_pop hx hb dL_law_753 rfl ?_
  refine lv_goto (tgt := 961) hx hb dL_law_754 (by decide) ?_
  exact kk _ _ ⟨_, _, _, _, _, _, _, _, _, _, _, _, hk, hk2, hR, hPc, hPr, hS⟩
set_option maxHeartbeats 4000000 in
set_option maxRecDepth 100000 in
theorem lc_6 {p : Program} {l : Launch} {e : Env} {s : State} {m : MethodId} {below : List Frame} {meth : Method} {c : Code} {b L : Nat} {xs : Nat → Int32} (hL : L ≤ 3072) (C0 : lw_At p s m meth c b L xs) {D : va_G} {ad bd : Nat → Nat} {cI cL cZ : ClassId} (hF : lw_Fix s D ad bd cI cL cZ)
    {i : Nat} (hi : i + 6 ≤ L) {cells slots : Nat} (hce : cells ≤ room_1.cells) (hsl : slots ≤ room_1.slots) {Q : State → Prop} {H : Heap} {locs : List Loc} (hI : lw_Inv i s D ad bd cI cL cZ H locs) {ls : Array Slot} (hl : lv_has ls 4 [(0, .ref b), (1, .ref (ad 0)), (2, .ref (bd 0)), (3, .int (nI i))])
    (kk : ∀ (H : Heap) (locs : List Loc), lw_Inv (i + 6) s D ad bd cI cL cZ H locs → W p l e room_1 s m #[Value.ref b] below meth c H locs cells slots Q (F0 m 961 ls [])) : W p l e room_1 s m #[Value.ref b] below meth c H locs cells slots Q (F0 m 542 ls []) := by
  obtain ⟨hx, hb, hr, hml, hown, hts, hX9, hbl, hlocks, hgv⟩ := C0
  have hown : s.vm.findClass RL = some m.cls := hown
  have hbA : ¬ (fun q : Nat => s.heap.size ≤ q) b := Nat.not_le.mpr hbl
  obtain ⟨hK2, hK3, hN, hDc, hDr, hAc, hAr, hdis⟩ := hF
  obtain ⟨fi, fl, ai, al, gi, gl, bi, bl, na, nr, na2, nr2, hk, hk2, hR, hPc, hPr, hS⟩ := hI
  obtain ⟨ln, hln, hlen⟩ := hk.2.2.2.2.1
  obtain ⟨ln2, hln2, hlen2⟩ := hk2.1.2.2.2.2.1
  obtain ⟨nt, hnt10, hnt⟩ := hk2.1.2.2.2.2.2.2
  obtain ⟨F9, hF9⟩ : ∃ F, 1048576 ≤ F := ⟨_, Nat.le_refl _⟩
  have hX : ln ≤ 10 ∧ fi 5 = nI ln ∧ ln2 ≤ 10 ∧ (gi 2 = nI ln2 ∨ gi 2 = -1) ∧ nt ≤ 10 ∧ gi 5 = nI nt ∧ 1048576 ≤ F9 := ⟨hln, hlen, hln2, hlen2, hnt10, hnt, hF9⟩
  have hk0 := hk
  have hk20 := hk2
  have hR0 := hR
  refine lv_aload_n hx hb dL_law_542 rfl (lv_at hl 1 rfl) ?_
  refine lv_aload_n hx hb dL_law_543 rfl (lv_at hl 0 rfl) ?_
  refine lv_iload_n hx hb dL_law_544 rfl (lv_at hl 3 rfl) ?_
  refine lv_iconst (v := 1) hx hb dL_law_545 (by decide) ?_
  refine lv_iadd hx hb dL_law_546 ?_
  refine am_topi (y := nI (i + 1)) (nI_add i 1) ?_
  refine va_sld hx hb hX9 hbl hbA hS (i := (nI (i + 1))) (vp_in_nI (by omega) (by omega)) dL_law_547 ?_
  refine am_topi (y := xs (i + 1)) (by rw [nI_clamp (by omega)]) ?_
  refine lw_callMi (va_runV (As := [.int (xs (i + 1))]) (rest := []) ⟨hx, hb, hml, hown, hts⟩ (c_X0_breaks l D ad cI cL fi fl ai al (lw_Ac ad) (xs (i + 1)) ) (cwV 1 hts (lw_gV (am_in 242 rfl) (am_in 243 rfl) (am_in 244 rfl) (am_in 29 rfl) (am_in 245 rfl)) rfl rfl rfl (by decide +kernel) ⟨Nat.le_of_ble_eq_true rfl, Nat.le_of_ble_eq_true rfl⟩) (am_preVM 0 0 rfl rfl rfl hPc hK2 hN (hDc _ _ _ _)) rfl rfl hl.1 rfl (lv_room (Nat.le_of_ble_eq_true rfl)) dL_law_548 ⟨hce, hsl⟩) hS hAc hPr (lw_dis (hDr _ _ _ _) (fun q h g => hdis q g h)) (fun H locs hPc hPr hS => ?_)
  obtain ⟨na9, nr9, hk⟩ := ck_breaks (fl := fl) (al := al) (xs (i + 1)) hk
  refine lv_pop hx hb dL_law_551 rfl ?_
  refine lv_aload_n hx hb dL_law_552 rfl (lv_at hl 2 rfl) ?_
  refine lv_aload_n hx hb dL_law_553 rfl (lv_at hl 0 rfl) ?_
  refine lv_iload_n hx hb dL_law_554 rfl (lv_at hl 3 rfl) ?_
  refine lv_iconst (v := 1) hx hb dL_law_555 (by decide) ?_
  refine lv_iadd hx hb dL_law_556 ?_
  refine am_topi (y := nI (i + 1)) (nI_add i 1) ?_
  refine va_sld hx hb hX9 hbl hbA hS (i := (nI (i + 1))) (vp_in_nI (by omega) (by omega)) dL_law_557 ?_
  refine am_topi (y := xs (i + 1)) (by rw [nI_clamp (by omega)]) ?_
  refine lw_callMi (va_runV (As := [.int (xs (i + 1))]) (rest := []) ⟨hx, hb, hml, hown, hts⟩ (c_X5_breaks l D bd cI cL cZ gi gl bi bl (lw_Ar bd) (xs (i + 1)) na2 hk2.1.1 hk2.1.2.1) (cwV 1 hts (lw_gV (am_in 538 rfl) (am_in 539 rfl) (am_in 540 rfl) (am_in 35 rfl) (am_in 541 rfl)) rfl rfl rfl (by decide +kernel) ⟨Nat.le_of_ble_eq_true rfl, Nat.le_of_ble_eq_true rfl⟩) (am_preVM 5 0 rfl rfl rfl hPr hK3 hN (hDr _ _ _ _)) rfl rfl hl.1 rfl (lv_room (Nat.le_of_ble_eq_true rfl)) dL_law_558 ⟨hce, hsl⟩) hS hAr hPc (lw_dis (hDc _ _ _ _) hdis) (fun H locs hPr hPc hS => ?_)
  obtain ⟨na8, nr8, hk2⟩ := rk_breaks (xs (i + 1)) hk2
  refine lv_pop hx hb dL_law_561 rfl ?_
  have hR := lr_breaks (xs (i + 1)) hk0 hk20 hR0 hX
  refine lv_goto (tgt := 961) hx hb dL_law_562 (by decide) ?_
  exact kk _ _ ⟨_, _, _, _, _, _, _, _, _, _, _, _, hk, hk2, hR, hPc, hPr, hS⟩
