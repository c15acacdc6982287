def lw_Ac (ad : Nat → Nat) (q : Nat) : Prop := ∃ k, k < 24 ∧ q = ad k
def lw_Ar (bd : Nat → Nat) (q : Nat) : Prop := ∃ k, k < 22 ∧ q = bd k
/-- what is fixed over the law's whole run -/
def lw_Fix (s : State) (D : va_G) (ad bd : Nat → Nat) (cI cL cZ : ClassId) : Prop :=
  va_K D vwCl [(cI, .int), (cL, .long)] s ∧ va_K D vwCl [(cI, .int), (cL, .long), (cZ, .boolean)] s ∧ am_nw nwL s ∧
  (∀ fi fl ai al, va_D (lw_Ac ad) (ac_w ad cI cL fi fl ai al)) ∧ (∀ fi fl ai al, va_D (lw_Ar bd) (rm_w bd cI cL cZ fi fl ai al)) ∧
  (∀ q, lw_Ac ad q → s.heap.size ≤ q) ∧ (∀ q, lw_Ar bd q → s.heap.size ≤ q) ∧ ∀ q, lw_Ac ad q → ¬ lw_Ar bd q
def lw_RI (i : Nat) (fi : Nat → Int32) (fl : Nat → Int64) (ai : Nat → Nat → Int32) (al : Nat → Nat → Int64) (gi : Nat → Int32) (gl : Nat → Int64) (bi : Nat → Nat → Int32) (bl : Nat → Nat → Int64) : Prop := lw_R fi fl ai al gi gl bi bl
def lw_Inv (i : Nat) (s : State) (D : va_G) (ad bd : Nat → Nat) (cI cL cZ : ClassId) (H : Heap) (locs : List Loc) : Prop :=
  ∃ fi fl ai al gi gl bi bl na nr na2 nr2, ac_K na nr fi ai ∧ rc_K na2 nr2 gi bi bl ∧ lw_RI i fi fl ai al gi gl bi bl ∧ va_P D vwCl (ac_w ad cI cL fi fl ai al) H ∧ va_P D vwCl (rm_w bd cI cL cZ gi gl bi bl) H ∧ va_S (fun q : Nat => s.heap.size ≤ q) s.heap H locs
theorem lw_dis {A B : Nat → Prop} {w : va_W} (hD : va_D A w) (h : ∀ q, A q → ¬ B q) : ∀ (k : Nat) (q : Nat × va_E), w[k]? = some q → ¬ B q.1 := fun k q hq => h q.1 (hD.2 k q hq)
theorem lw_Inv_up {i : Nat} {s : State} {D : va_G} {ad bd : Nat → Nat} {cI cL cZ : ClassId} {H : Heap} {locs : List Loc} (h : lw_Inv i s D ad bd cI cL cZ H locs) : lw_Inv (i + 6) s D ad bd cI cL cZ H locs := by
  obtain ⟨fi, fl, ai, al, gi, gl, bi, bl, na, nr, na2, nr2, hk, hk2, hR, hPc, hPr, hS⟩ := h
  exact ⟨fi, fl, ai, al, gi, gl, bi, bl, na, nr, na2, nr2, hk, hk2, hR, hPc, hPr, hS⟩
set_option maxHeartbeats 4000000 in
set_option maxRecDepth 100000 in
theorem lc_8 {p : Program} {l : Launch} {e : Env} {s : State} {m : MethodId} {below : List Frame} {meth : Method} {c : Code} {b L : Nat} {xs : Nat → Int32} (hL : L ≤ 3072) (C0 : lw_At p s m meth c b L xs) {D : va_G} {ad bd : Nat → Nat} {cI cL cZ : ClassId} (hF : lw_Fix s D ad bd cI cL cZ)
    {i : Nat} (hi : i + 6 ≤ L) {cells slots : Nat} (hce : cells ≤ room_1.cells) (hsl : slots ≤ room_1.slots) {Q : State → Prop} {H : Heap} {locs : List Loc} (hI : lw_Inv i s D ad bd cI cL cZ H locs) {ls : Array Slot} (hl : lv_has ls 4 [(0, .ref b), (1, .ref (ad 0)), (2, .ref (bd 0)), (3, .int (nI i))])
    (kk : ∀ (H : Heap) (locs : List Loc), lw_Inv (i + 6) s D ad bd cI cL cZ H locs → W p l e room_1 s m #[Value.ref b] below meth c H locs cells slots Q (F0 m 961 ls [])) : W p l e room_1 s m #[Value.ref b] below meth c H locs cells slots Q (F0 m 668 ls []) := by
  obtain ⟨hx, hb, hr, hml, hown, hts, hX9, hbl, hlocks, hgv⟩ := C0
  have hown : s.vm.findClass RL = some m.cls := hown
  have hbA : ¬ (fun q : Nat => s.heap.size ≤ q) b := Nat.not_le.mpr hbl
  obtain ⟨hK2, hK3, hN, hDc, hDr, hAc, hAr, hdis⟩ := hF
  obtain ⟨fi, fl, ai, al, gi, gl, bi, bl, na, nr, na2, nr2, hk, hk2, hR, hPc, hPr, hS⟩ := hI
  obtain ⟨ln, hln, hlen⟩ := hk.2.2.2.2.1
  obtain ⟨ln2, hln2, hlen2⟩ := hk2.1.2.2.2.2.1
  obtain ⟨nt, hnt10, hnt⟩ := hk2.1.2.2.2.2.2.2
  obtain ⟨F9, hF9⟩ : ∃ F, 1048576 ≤ F := ⟨_, Nat.le_refl _⟩
  have hX : ln ≤ 10 ∧ fi 5 = nI ln ∧ ln2 ≤ 10 ∧ (gi 2 = nI ln2 ∨ gi 2 = -1) ∧ nt ≤ 10 ∧ gi 5 = nI nt ∧ 1048576 ≤ F9 := ⟨hln, hlen, hln2, hlen2, hnt10, hnt, hF9⟩
  have hk0 := hk
  have hk20 := hk2
  have hR0 := hR
  refine lv_aload_n hx hb dL_law_668 rfl (lv_at hl 1 rfl) ?_
  refine am_callRl (W.runV (As := []) (rest := []) ⟨hx, hb, hml, hown, hts⟩ (c_X0_states l D ad cI cL fi fl ai al na hk.1 hk.2.1) (cwV 0 hts (lw_gV (am_in 252 rfl) (am_in 253 rfl) (am_in 254 rfl) (am_in 29 rfl) (am_in 255 rfl)) rfl rfl rfl (by decide +kernel) ⟨Nat.le_of_ble_eq_true rfl, Nat.le_of_ble_eq_true rfl⟩) (am_preVR 0 0 rfl rfl rfl hPc hK2 hN) rfl rfl hl.1 rfl (lv_room (Nat.le_of_ble_eq_true rfl)) dL_law_669 ⟨hce, hsl⟩) ?_
  refine lv_pop2_2 hx hb dL_law_672 rfl ?_
  refine lv_aload_n hx hb dL_law_673 rfl (lv_at hl 2 rfl) ?_
  refine am_callRl (W.runV (As := []) (rest := []) ⟨hx, hb, hml, hown, hts⟩ (c_X5_states l D bd cI cL cZ gi gl bi bl na2 hk2.1.1 hk2.1.2.1) (cwV 0 hts (lw_gV (am_in 547 rfl) (am_in 548 rfl) (am_in 549 rfl) (am_in 35 rfl) (am_in 550 rfl)) rfl rfl rfl (by decide +kernel) ⟨Nat.le_of_ble_eq_true rfl, Nat.le_of_ble_eq_true rfl⟩) (am_preVR 5 0 rfl rfl rfl hPr hK3 hN) rfl rfl hl.1 rfl (lv_room (Nat.le_of_ble_eq_true rfl)) dL_law_674 ⟨hce, hsl⟩) ?_
  refine lv_pop2_2 hx hb dL_law_677 rfl ?_
  refine lv_goto (tgt := 961) hx hb dL_law_678 (by decide) ?_
  exact kk _ _ ⟨_, _, _, _, _, _, _, _, _, _, _, _, hk, hk2, hR, hPc, hPr, hS⟩
set_option maxHeartbeats 4000000 in
set_option maxRecDepth 100000 in
theorem lc_10 {p : Program} {l : Launch} {e : Env} {s : State} {m : MethodId} {below : List Frame} {meth : Method} {c : Code} {b L : Nat} {xs : Nat → Int32} (hL : L ≤ 3072) (C0 : lw_At p s m meth c b L xs) {D : va_G} {ad bd : Nat → Nat} {cI cL cZ : ClassId} (hF : lw_Fix s D ad bd cI cL cZ)
    {i : Nat} (hi : i + 6 ≤ L) {cells slots : Nat} (hce : cells ≤ room_1.cells) (hsl : slots ≤ room_1.slots) {Q : State → Prop} {H : Heap} {locs : List Loc} (hI : lw_Inv i s D ad bd cI cL cZ H locs) {ls : Array Slot} (hl : lv_has ls 4 [(0, .ref b), (1, .ref (ad 0)), (2, .ref (bd 0)), (3, .int (nI i))])
    (kk : ∀ (H : Heap) (locs : List Loc), lw_Inv (i + 6) s D ad bd cI cL cZ H locs → W p l e room_1 s m #[Value.ref b] below meth c H locs cells slots Q (F0 m 961 ls [])) : W p l e room_1 s m #[Value.ref b] below meth c H locs cells slots Q (F0 m 734 ls []) := by
  obtain ⟨hx, hb, hr, hml, hown, hts, hX9, hbl, hlocks, hgv⟩ := C0
  have hown : s.vm.findClass RL = some m.cls := hown
  have hbA : ¬ (fun q : Nat => s.heap.size ≤ q) b := Nat.not_le.mpr hbl
  obtain ⟨hK2, hK3, hN, hDc, hDr, hAc, hAr, hdis⟩ := hF
  obtain ⟨fi, fl, ai, al, gi, gl, bi, bl, na, nr, na2, nr2, hk, hk2, hR, hPc, hPr, hS⟩ := hI
  obtain ⟨ln, hln, hlen⟩ := hk.2.2.2.2.1
  obtain ⟨ln2, hln2, hlen2⟩ := hk2.1.2.2.2.2.1
  obtain ⟨nt, hnt10, hnt⟩ := hk2.1.2.2.2.2.2.2
  obtain ⟨F9, hF9⟩ : ∃ F, 1048576 ≤ F := ⟨_, Nat.le_refl _⟩
  have hX : ln ≤ 10 ∧ fi 5 = nI ln ∧ ln2 ≤ 10 ∧ (gi 2 = nI ln2 ∨ gi 2 = -1) ∧ nt ≤ 10 ∧ gi 5 = nI nt ∧ 1048576 ≤ F9 := ⟨hln, hlen, hln2, hlen2, hnt10, hnt, hF9⟩
  have hk0 := hk
  have hk20 := hk2
  have hR0 := hR
  refine lv_aload_n hx hb dL_law_734 rfl (lv_at hl 1 rfl) ?_
  refine lv_aload_n hx hb dL_law_735 rfl (lv_at hl 0 rfl) ?_
  refine lv_iload_n hx hb dL_law_736 rfl (lv_at hl 3 rfl) ?_
  refine lv_iconst (v := 1) hx hb dL_law_737 (by decide) ?_
  refine lv_iadd hx hb dL_law_738 ?_
  refine am_topi (y := nI (i + 1)) (nI_add i 1) ?_
  refine va_sld hx hb hX9 hbl hbA hS (i := (nI (i + 1))) (vp_in_nI (by omega) (by omega)) dL_law_739 ?_
  refine am_topi (y := xs (i + 1)) (by rw [nI_clamp (by omega)]) ?_
  refine am_callRi (W.runV (As := [.int (xs (i + 1))]) (rest := []) ⟨hx, hb, hml, hown, hts⟩ (c_X0_step l D ad cI cL fi fl ai al (xs (i + 1)) ln hlen hln) (cwV 1 hts (lw_gV (am_in 351 rfl) (am_in 352 rfl) (am_in 353 rfl) (am_in 29 rfl) (am_in 354 rfl)) rfl rfl rfl (by decide +kernel) ⟨Nat.le_of_ble_eq_true rfl, Nat.le_of_ble_eq_true rfl⟩) (am_preVR 0 0 rfl rfl rfl hPc hK2 hN) rfl rfl hl.1 rfl (lv_room (Nat.le_of_ble_eq_true rfl)) dL_law_740 ⟨hce, hsl⟩) ?_
  refine lv_pop hx hb dL_law_743 rfl ?_
  refine lv_aload_n hx hb dL_law_744 rfl (lv_at hl 2 rfl) ?_
  refine lv_aload_n hx hb dL_law_745 rfl (lv_at hl 0 rfl) ?_
  refine lv_iload_n hx hb dL_law_746 rfl (lv_at hl 3 rfl) ?_
  refine lv_iconst (v := 1) hx hb dL_law_747 (by decide) ?_
  refine lv_iadd hx hb dL_law_748 ?_
  refine am_topi (y := nI (i + 1)) (nI_add i 1) ?_
  refine va_sld hx hb hX9 hbl hbA hS (i := (nI (i + 1))) (vp_in_nI (by omega) (by omega)) dL_law_749 ?_
  refine am_topi (y := xs (i + 1)) (by rw [nI_clamp (by omega)]) ?_
  refine am_callRi (W.runV (As := [.int (xs (i + 1))]) (rest := []) ⟨hx, hb, hml, hown, hts⟩ (c_X5_step l D bd cI cL cZ gi gl bi bl (xs (i + 1)) ln2 hlen2 hln2) (cwV 1 hts (lw_gV (am_in 588 rfl) (am_in 589 rfl) (am_in 590 rfl) (am_in 35 rfl) (am_in 591 rfl)) rfl rfl rfl (by decide +kernel) ⟨Nat.le_of_ble_eq_true rfl, Nat.le_of_ble_eq_true rfl⟩) (am_preVR 5 0 rfl rfl rfl hPr hK3 hN) rfl rfl hl.1 rfl (lv_room (Nat.le_of_ble_eq_true rfl)) dL_law_750 ⟨hce, hsl⟩) ?_
  refine lv_pop hx hb dL_law_753 rfl ?_
  refine lv_goto (tgt := 961) hx hb dL_law_754 (by decide) ?_
  exact kk _ _ ⟨_, _, _, _, _, _, _, _, _, _, _, _, hk, hk2, hR, hPc, hPr, hS⟩
set_option maxHeartbeats 4000000 in
set_option maxRecDepth 100000 in
theorem lc_6 {p : Program} {l : Launch} {e : Env} {s : State} {m : MethodId} {below : List Frame} {meth : Method} {c : Code} {b L : Nat} {xs : Nat → Int32} (hL : L ≤ 3072) (C0 : lw_At p s m meth c b L xs) {D : va_G} {ad bd : Nat → Nat} {cI cL cZ : ClassId} (hF : lw_Fix s D ad bd cI cL cZ)
    {i : Nat} (hi : i + 6 ≤ L) {cells slots : Nat} (hce : cells ≤ room_1.cells) (hsl : slots ≤ room_1.slots) {Q : State → Prop} {H : Heap} {locs : List Loc} (hI : lw_Inv i s D ad bd cI cL cZ H locs) {ls : Array Slot} (hl : lv_has ls 4 [(0, .ref b), (1, .ref (ad 0)), (2, .ref (bd 0)), (3, .int (nI i))])
    (kk : ∀ (H : Heap) (locs : List Loc), lw_Inv (i + 6) s D ad bd cI cL cZ H locs → W p l e room_1 s m #[Value.ref b] below meth c H locs cells slots Q (F0 m 961 ls [])) : W p l e room_1 s m #[Value.ref b] below meth c H locs cells slots Q (F0 m 542 ls []) := by
  obtain ⟨hx, hb, hr, hml, hown, hts, hX9, hbl, hlocks, hgv⟩ := C0
  have hown : s.vm.findClass RL = some m.cls := hown
  have hbA : ¬ (fun q : Nat => s.heap.size ≤ q) b := Nat.not_le.mpr hbl
  obtain ⟨hK2, hK3, hN, hDc, hDr, hAc, hAr, hdis⟩ := hF
  obtain ⟨fi, fl, ai, al, gi, gl, bi, bl, na, nr, na2, nr2, hk, hk2, hR, hPc, hPr, hS⟩ := hI
  obtain ⟨ln, hln, hlen⟩ := hk.2.2.2.2.1
  obtain ⟨ln2, hln2, hlen2⟩ := hk2.1.2.2.2.2.1
  obtain ⟨nt, hnt10, hnt⟩ := hk2.1.2.2.2.2.2.2
  obtain ⟨F9, hF9⟩ : ∃ F, 1048576 ≤ F := ⟨_, Nat.le_refl _⟩
  have hX : ln ≤ 10 ∧ fi 5 = nI ln ∧ ln2 ≤ 10 ∧ (gi 2 = nI ln2 ∨ gi 2 = -1) ∧ nt ≤ 10 ∧ gi 5 = nI nt ∧ 1048576 ≤ F9 := ⟨hln, hlen, hln2, hlen2, hnt10, hnt, hF9⟩
  have hk0 := hk
  have hk20 := hk2
  have hR0 := hR
  refine lv_aload_n hx hb dL_law_542 rfl (lv_at hl 1 rfl) ?_
  refine lv_aload_n hx hb dL_law_543 rfl (lv_at hl 0 rfl) ?_
  refine lv_iload_n hx hb dL_law_544 rfl (lv_at hl 3 rfl) ?_
  refine lv_iconst (v := 1) hx hb dL_law_545 (by decide) ?_
  refine lv_iadd hx hb dL_law_546 ?_
  refine am_topi (y := nI (i + 1)) (nI_add i 1) ?_
  refine va_sld hx hb hX9 hbl hbA hS (i := (nI (i + 1))) (vp_in_nI (by omega) (by omega)) dL_law_547 ?_
  refine am_topi (y := xs (i + 1)) (by rw [nI_clamp (by omega)]) ?_
  refine lw_callMi (va_runV (As := [.int (xs (i + 1))]) (rest := []) ⟨hx, hb, hml, hown, hts⟩ (c_X0_breaks l D ad cI cL fi fl ai al (lw_Ac ad) (xs (i + 1)) ) (cwV 1 hts (lw_gV (am_in 242 rfl) (am_in 243 rfl) (am_in 244 rfl) (am_in 29 rfl) (am_in 245 rfl)) rfl rfl rfl (by decide +kernel) ⟨Nat.le_of_ble_eq_true rfl, Nat.le_of_ble_eq_true rfl⟩) (am_preVM 0 0 rfl rfl rfl hPc hK2 hN (hDc _ _ _ _)) rfl rfl hl.1 rfl (lv_room (Nat.le_of_ble_eq_true rfl)) dL_law_548 ⟨hce, hsl⟩) hS hAc hPr (lw_dis (hDr _ _ _ _) (fun q h g => hdis q g h)) (fun H locs hPc hPr hS => ?_)
  obtain ⟨na9, nr9, hk⟩ := ck_breaks (fl := fl) (al := al) (xs (i + 1)) hk
  refine lv_pop hx hb dL_law_551 rfl ?_
  refine lv_aload_n hx hb dL_law_552 rfl (lv_at hl 2 rfl) ?_
  refine lv_aload_n hx hb dL_law_553 rfl (lv_at hl 0 rfl) ?_
  refine lv_iload_n hx hb dL_law_554 rfl (lv_at hl 3 rfl) ?_
  refine lv_iconst (v := 1) hx hb dL_law_555 (by decide) ?_
  refine lv_iadd hx hb dL_law_556 ?_
  refine am_topi (y := nI (i + 1)) (nI_add i 1) ?_
  refine va_sld hx hb hX9 hbl hbA hS (i := (nI (i + 1))) (vp_in_nI (by omega) (by omega)) dL_law_557 ?_
  refine am_topi (y := xs (i + 1)) (by rw [nI_clamp (by omega)]) ?_
  refine lw_callMi (va_runV (As := [.int (xs (i + 1))]) (rest := []) ⟨hx, hb, hml, hown, hts⟩ (c_X5_breaks l D bd cI cL cZ gi gl bi bl (lw_Ar bd) (xs (i + 1)) na2 hk2.1.1 hk2.1.2.1) (cwV 1 hts (lw_gV (am_in 538 rfl) (am_in 539 rfl) (am_in 540 rfl) (am_in 35 rfl) (am_in 541 rfl)) rfl rfl rfl (by decide +kernel) ⟨Nat.le_of_ble_eq_true rfl, Nat.le_of_ble_eq_true rfl⟩) (am_preVM 5 0 rfl rfl rfl hPr hK3 hN (hDr _ _ _ _)) rfl rfl hl.1 rfl (lv_room (Nat.le_of_ble_eq_true rfl)) dL_law_558 ⟨hce, hsl⟩) hS hAr hPc (lw_dis (hDc _ _ _ _) hdis) (fun H locs hPr hPc hS => ?_)
  obtain ⟨na8, nr8, hk2⟩ := rk_breaks (xs (i + 1)) hk2
  refine lv_pop hx hb dL_law_561 rfl ?_
  have hR := lr_breaks (xs (i + 1)) hk0 hk20 hR0 hX
  refine lv_goto (tgt := 961) hx hb dL_law_562 (by decide) ?_
  exact kk _ _ ⟨_, _, _, _, _, _, _, _, _, _, _, _, hk, hk2, hR, hPc, hPr, hS⟩
set_option maxHeartbeats 4000000 in
set_option maxRecDepth 100000 in
theorem lc_0 {p : Program} {l : Launch} {e : Env} {s : State} {m : MethodId} {below : List Frame} {meth : Method} {c : Code} {b L : Nat} {xs : Nat → Int32} (hL : L ≤ 3072) (C0 : lw_At p s m meth c b L xs) {D : va_G} {ad bd : Nat → Nat} {cI cL cZ : ClassId} (hF : lw_Fix s D ad bd cI cL cZ)
    {i : Nat} (hi : i + 6 ≤ L) {cells slots : Nat} (hce : cells ≤ room_1.cells) (hsl : slots ≤ room_1.slots) {Q : State → Prop} {H : Heap} {locs : List Loc} (hI : lw_Inv i s D ad bd cI cL cZ H locs) {ls : Array Slot} (hl : lv_has ls 4 [(0, .ref b), (1, .ref (ad 0)), (2, .ref (bd 0)), (3, .int (nI i))])
    (kk : ∀ (H : Heap) (locs : List Loc), lw_Inv (i + 6) s D ad bd cI cL cZ H locs → W p l e room_1 s m #[Value.ref b] below meth c H locs cells slots Q (F0 m 961 ls [])) : W p l e room_1 s m #[Value.ref b] below meth c H locs cells slots Q (F0 m 124 ls []) := by
  obtain ⟨hx, hb, hr, hml, hown, hts, hX9, hbl, hlocks, hgv⟩ := C0
  have hown : s.vm.findClass RL = some m.cls := hown
  have hbA : ¬ (fun q : Nat => s.heap.size ≤ q) b := Nat.not_le.mpr hbl
  obtain ⟨hK2, hK3, hN, hDc, hDr, hAc, hAr, hdis⟩ := hF
  obtain ⟨fi, fl, ai, al, gi, gl, bi, bl, na, nr, na2, nr2, hk, hk2, hR, hPc, hPr, hS⟩ := hI
  obtain ⟨ln, hln, hlen⟩ := hk.2.2.2.2.1
  obtain ⟨ln2, hln2, hlen2⟩ := hk2.1.2.2.2.2.1
  obtain ⟨nt, hnt10, hnt⟩ := hk2.1.2.2.2.2.2.2
  obtain ⟨F9, hF9⟩ : ∃ F, 1048576 ≤ F := ⟨_, Nat.le_refl _⟩
  have hX : ln ≤ 10 ∧ fi 5 = nI ln ∧ ln2 ≤ 10 ∧ (gi 2 = nI ln2 ∨ gi 2 = -1) ∧ nt ≤ 10 ∧ gi 5 = nI nt ∧ 1048576 ≤ F9 := ⟨hln, hlen, hln2, hlen2, hnt10, hnt, hF9⟩
  have hk0 := hk
  have hk20 := hk2
  have hR0 := hR
  refine lv_aload_n hx hb dL_law_124 rfl (lv_at hl 1 rfl) ?_
  refine lv_aload_n hx hb dL_law_125 rfl (lv_at hl 0 rfl) ?_
  refine lv_iload_n hx hb dL_law_126 rfl (lv_at hl 3 rfl) ?_
  refine lv_iconst (v := 1) hx hb dL_law_127 (by decide) ?_
  refine lv_iadd hx hb dL_law_128 ?_
  refine am_topi (y := nI (i + 1)) (nI_add i 1) ?_
  refine va_sld hx hb hX9 hbl hbA hS (i := (nI (i + 1))) (vp_in_nI (by omega) (by omega)) dL_law_129 ?_
  refine am_topi (y := xs (i + 1)) (by rw [nI_clamp (by omega)]) ?_
  refine lv_aload_n hx hb dL_law_130 rfl (lv_at hl 0 rfl) ?_
  refine lv_iload_n hx hb dL_law_131 rfl (lv_at hl 3 rfl) ?_
  refine lv_iconst (v := 2) hx hb dL_law_132 (by decide) ?_
  refine lv_iadd hx hb dL_law_133 ?_
  refine am_topi (y := nI (i + 2)) (nI_add i 2) ?_
  refine va_sld hx hb hX9 hbl hbA hS (i := (nI (i + 2))) (vp_in_nI (by omega) (by omega)) dL_law_134 ?_
  refine am_topi (y := xs (i + 2)) (by rw [nI_clamp (by omega)]) ?_
  refine lv_aload_n hx hb dL_law_135 rfl (lv_at hl 0 rfl) ?_
  refine lv_iload_n hx hb dL_law_136 rfl (lv_at hl 3 rfl) ?_
  refine lv_iconst (v := 3) hx hb dL_law_137 (by decide) ?_
  refine lv_iadd hx hb dL_law_138 ?_
  refine am_topi (y := nI (i + 3)) (nI_add i 3) ?_
  refine va_sld hx hb hX9 hbl hbA hS (i := (nI (i + 3))) (vp_in_nI (by omega) (by omega)) dL_law_139 ?_
  refine am_topi (y := xs (i + 3)) (by rw [nI_clamp (by omega)]) ?_
  refine lv_aload_n hx hb dL_law_140 rfl (lv_at hl 0 rfl) ?_
  refine lv_iload_n hx hb dL_law_141 rfl (lv_at hl 3 rfl) ?_
  refine lv_iconst (v := 4) hx hb dL_law_142 (by decide) ?_
  refine lv_iadd hx hb dL_law_143 ?_
  refine am_topi (y := nI (i + 4)) (nI_add i 4) ?_
  refine va_sld hx hb hX9 hbl hbA hS (i := (nI (i + 4))) (vp_in_nI (by omega) (by omega)) dL_law_144 ?_
  refine am_topi (y := xs (i + 4)) (by rw [nI_clamp (by omega)]) ?_
  refine lv_i2l (v := (xs (i + 4)).toInt64) hx hb dL_law_145 rfl ?_
  refine lv_bipush (v := 32) hx hb dL_law_146 (by decide) ?_
  refine lv_lshl (v := ((xs (i + 4)).toInt64) <<< ((32 : Int32).toInt64 &&& 63)) hx hb dL_law_148 rfl ?_
  refine lv_aload_n hx hb dL_law_149 rfl (lv_at hl 0 rfl) ?_
  refine lv_iload_n hx hb dL_law_150 rfl (lv_at hl 3 rfl) ?_
  refine lv_iconst (v := 5) hx hb dL_law_151 (by decide) ?_
  refine lv_iadd hx hb dL_law_152 ?_
  refine am_topi (y := nI (i + 5)) (nI_add i 5) ?_
  refine va_sld hx hb hX9 hbl hbA hS (i := (nI (i + 5))) (vp_in_nI (by omega) (by omega)) dL_law_153 ?_
  refine am_topi (y := xs (i + 5)) (by rw [nI_clamp (by omega)]) ?_
  refine lv_i2l (v := (xs (i + 5)).toInt64) hx hb dL_law_154 rfl ?_
  refine lv_ldc2 (v := 4294967295) hx hb hown (lw_ht hts 640 _ rfl) dL_law_155 ?_
  refine lv_land hx hb dL_law_158 ?_
  refine lv_lor hx hb dL_law_159 ?_
  refine lw_callMi (va_runV (As := [.int (xs (i + 1)), .int (xs (i + 2)), .int (xs (i + 3)), .long ((((xs (i + 4)).toInt64) <<< ((32 : Int32).toInt64 &&& 63)) ||| (((xs (i + 5)).toInt64) &&& 4294967295))]) (rest := []) ⟨hx, hb, hml, hown, hts⟩ (c_X0_act l D ad cI cL fi fl ai al (lw_Ac ad) (xs (i + 1)) (xs (i + 2)) (xs (i + 3)) ((((xs (i + 4)).toInt64) <<< ((32 : Int32).toInt64 &&& 63)) ||| (((xs (i + 5)).toInt64) &&& 4294967295)) na hk.1 hk.2.1) (cwV 4 hts (lw_gV (am_in 178 rfl) (am_in 179 rfl) (am_in 180 rfl) (am_in 29 rfl) (am_in 181 rfl)) rfl rfl rfl (by decide +kernel) ⟨Nat.le_of_ble_eq_true rfl, Nat.le_of_ble_eq_true rfl⟩) (am_preVM 0 0 rfl rfl rfl hPc hK2 hN (hDc _ _ _ _)) rfl rfl hl.1 rfl (lv_room (Nat.le_of_ble_eq_true rfl)) dL_law_160 ⟨hce, hsl⟩) hS hAc hPr (lw_dis (hDr _ _ _ _) (fun q h g => hdis q g h)) (fun H locs hPc hPr hS => ?_)
  obtain ⟨na9, nr9, hk⟩ := ck_act (fl := fl) (al := al) (xs (i + 1)) (xs (i + 2)) (xs (i + 3)) ((((xs (i + 4)).toInt64) <<< ((32 : Int32).toInt64 &&& 63)) ||| (((xs (i + 5)).toInt64) &&& 4294967295)) hk
  refine lv_pop hx hb dL_law_163 rfl ?_
  refine lv_aload_n hx hb dL_law_164 rfl (lv_at hl 2 rfl) ?_
  refine lv_aload_n hx hb dL_law_165 rfl (lv_at hl 0 rfl) ?_
  refine lv_iload_n hx hb dL_law_166 rfl (lv_at hl 3 rfl) ?_
  refine lv_iconst (v := 1) hx hb dL_law_167 (by decide) ?_
  refine lv_iadd hx hb dL_law_168 ?_
  refine am_topi (y := nI (i + 1)) (nI_add i 1) ?_
  refine va_sld hx hb hX9 hbl hbA hS (i := (nI (i + 1))) (vp_in_nI (by omega) (by omega)) dL_law_169 ?_
  refine am_topi (y := xs (i + 1)) (by rw [nI_clamp (by omega)]) ?_
  refine lv_aload_n hx hb dL_law_170 rfl (lv_at hl 0 rfl) ?_
  refine lv_iload_n hx hb dL_law_171 rfl (lv_at hl 3 rfl) ?_
  refine lv_iconst (v := 2) hx hb dL_law_172 (by decide) ?_
  refine lv_iadd hx hb dL_law_173 ?_
  refine am_topi (y := nI (i + 2)) (nI_add i 2) ?_
  refine va_sld hx hb hX9 hbl hbA hS (i := (nI (i + 2))) (vp_in_nI (by omega) (by omega)) dL_law_174 ?_
  refine am_topi (y := xs (i + 2)) (by rw [nI_clamp (by omega)]) ?_
  refine lv_aload_n hx hb dL_law_175 rfl (lv_at hl 0 rfl) ?_
  refine lv_iload_n hx hb dL_law_176 rfl (lv_at hl 3 rfl) ?_
  refine lv_iconst (v := 3) hx hb dL_law_177 (by decide) ?_
  refine lv_iadd hx hb dL_law_178 ?_
  refine am_topi (y := nI (i + 3)) (nI_add i 3) ?_
  refine va_sld hx hb hX9 hbl hbA hS (i := (nI (i + 3))) (vp_in_nI (by omega) (by omega)) dL_law_179 ?_
  refine am_topi (y := xs (i + 3)) (by rw [nI_clamp (by omega)]) ?_
  refine lv_aload_n hx hb dL_law_180 rfl (lv_at hl 0 rfl) ?_
  refine lv_iload_n hx hb dL_law_181 rfl (lv_at hl 3 rfl) ?_
  refine lv_iconst (v := 4) hx hb dL_law_182 (by decide) ?_
  refine lv_iadd hx hb dL_law_183 ?_
  refine am_topi (y := nI (i + 4)) (nI_add i 4) ?_
  refine va_sld hx hb hX9 hbl hbA hS (i := (nI (i + 4))) (vp_in_nI (by omega) (by omega)) dL_law_184 ?_
  refine am_topi (y := xs (i + 4)) (by rw [nI_clamp (by omega)]) ?_
  refine lv_i2l (v := (xs (i + 4)).toInt64) hx hb dL_law_185 rfl ?_
  refine lv_bipush (v := 32) hx hb dL_law_186 (by decide) ?_
  refine lv_lshl (v := ((xs (i + 4)).toInt64) <<< ((32 : Int32).toInt64 &&& 63)) hx hb dL_law_188 rfl ?_
  refine lv_aload_n hx hb dL_law_189 rfl (lv_at hl 0 rfl) ?_
  refine lv_iload_n hx hb dL_law_190 rfl (lv_at hl 3 rfl) ?_
  refine lv_iconst (v := 5) hx hb dL_law_191 (by decide) ?_
  refine lv_iadd hx hb dL_law_192 ?_
  refine am_topi (y := nI (i + 5)) (nI_add i 5) ?_
  refine va_sld hx hb hX9 hbl hbA hS (i := (nI (i + 5))) (vp_in_nI (by omega) (by omega)) dL_law_193 ?_
  refine am_topi (y := xs (i + 5)) (by rw [nI_clamp (by omega)]) ?_
  refine lv_i2l (v := (xs (i + 5)).toInt64) hx hb dL_law_194 rfl ?_
  refine lv_ldc2 (v := 4294967295) hx hb hown (lw_ht hts 640 _ rfl) dL_law_195 ?_
  refine lv_land hx hb dL_law_198 ?_
  refine lv_lor hx hb dL_law_199 ?_
  refine lw_callMi (va_runV (As := [.int (xs (i + 1)), .int (xs (i + 2)), .int (xs (i + 3)), .long ((((xs (i + 4)).toInt64) <<< ((32 : Int32).toInt64 &&& 63)) ||| (((xs (i + 5)).toInt64) &&& 4294967295))]) (rest := []) ⟨hx, hb, hml, hown, hts⟩ (c_X5_act l D bd cI cL cZ gi gl bi bl (lw_Ar bd) (xs (i + 1)) (xs (i + 2)) (xs (i + 3)) ((((xs (i + 4)).toInt64) <<< ((32 : Int32).toInt64 &&& 63)) ||| (((xs (i + 5)).toInt64) &&& 4294967295)) na2 hk2.1.1 hk2.1.2.1) (cwV 4 hts (lw_gV (am_in 493 rfl) (am_in 494 rfl) (am_in 495 rfl) (am_in 35 rfl) (am_in 496 rfl)) rfl rfl rfl (by decide +kernel) ⟨Nat.le_of_ble_eq_true rfl, Nat.le_of_ble_eq_true rfl⟩) (am_preVM 5 0 rfl rfl rfl hPr hK3 hN (hDr _ _ _ _)) rfl rfl hl.1 rfl (lv_room (Nat.le_of_ble_eq_true rfl)) dL_law_200 ⟨hce, hsl⟩) hS hAr hPc (lw_dis (hDc _ _ _ _) hdis) (fun H locs hPr hPc hS => ?_)
  obtain ⟨na8, nr8, hk2⟩ := rk_act (xs (i + 1)) (xs (i + 2)) (xs (i + 3)) ((((xs (i + 4)).toInt64) <<< ((32 : Int32).toInt64 &&& 63)) ||| (((xs (i + 5)).toInt64) &&& 4294967295)) hk2
  refine lv_pop hx hb dL_law_203 rfl ?_
  have hR := lr_act (xs (i + 1)) (xs (i + 2)) (xs (i + 3)) ((((xs (i + 4)).toInt64) <<< ((32 : Int32).toInt64 &&& 63)) ||| (((xs (i + 5)).toInt64) &&& 4294967295)) hk0 hk20 hR0 hX
  refine lv_goto (tgt := 961) hx hb dL_law_204 (by decide) ?_
  exact kk _ _ ⟨_, _, _, _, _, _, _, _, _, _, _, _, hk, hk2, hR, hPc, hPr, hS⟩
set_option maxHeartbeats 4000000 in
set_option maxRecDepth 100000 in
theorem lc_1 {p : Program} {l : Launch} {e : Env} {s : State} {m : MethodId} {below : List Frame} {meth : Method} {c : Code} {b L : Nat} {xs : Nat → Int32} (hL : L ≤ 3072) (C0 : lw_At p s m meth c b L xs) {D : va_G} {ad bd : Nat → Nat} {cI cL cZ : ClassId} (hF : lw_Fix s D ad bd cI cL cZ)
    {i : Nat} (hi : i + 6 ≤ L) {cells slots : Nat} (hce : cells ≤ room_1.cells) (hsl : slots ≤ room_1.slots) {Q : State → Prop} {H : Heap} {locs : List Loc} (hI : lw_Inv i s D ad bd cI cL cZ H locs) {ls : Array Slot} (hl : lv_has ls 4 [(0, .ref b), (1, .ref (ad 0)), (2, .ref (bd 0)), (3, .int (nI i))])
    (kk : ∀ (H : Heap) (locs : List Loc), lw_Inv (i + 6) s D ad bd cI cL cZ H locs → W p l e room_1 s m #[Value.ref b] below meth c H locs cells slots Q (F0 m 961 ls [])) : W p l e room_1 s m #[Value.ref b] below meth c H locs cells slots Q (F0 m 207 ls []) := by
  obtain ⟨hx, hb, hr, hml, hown, hts, hX9, hbl, hlocks, hgv⟩ := C0
  have hown : s.vm.findClass RL = some m.cls := hown
  have hbA : ¬ (fun q : Nat => s.heap.size ≤ q) b := Nat.not_le.mpr hbl
  obtain ⟨hK2, hK3, hN, hDc, hDr, hAc, hAr, hdis⟩ := hF
  obtain ⟨fi, fl, ai, al, gi, gl, bi, bl, na, nr, na2, nr2, hk, hk2, hR, hPc, hPr, hS⟩ := hI
  obtain ⟨ln, hln, hlen⟩ := hk.2.2.2.2.1
  obtain ⟨ln2, hln2, hlen2⟩ := hk2.1.2.2.2.2.1
  obtain ⟨nt, hnt10, hnt⟩ := hk2.1.2.2.2.2.2.2
  obtain ⟨F9, hF9⟩ : ∃ F, 1048576 ≤ F := ⟨_, Nat.le_refl _⟩
  have hX : ln ≤ 10 ∧ fi 5 = nI ln ∧ ln2 ≤ 10 ∧ (gi 2 = nI ln2 ∨ gi 2 = -1) ∧ nt ≤ 10 ∧ gi 5 = nI nt ∧ 1048576 ≤ F9 := ⟨hln, hlen, hln2, hlen2, hnt10, hnt, hF9⟩
  have hk0 := hk
  have hk20 := hk2
  have hR0 := hR
  refine lv_aload_n hx hb dL_law_207 rfl (lv_at hl 1 rfl) ?_
  refine lv_aload_n hx hb dL_law_208 rfl (lv_at hl 0 rfl) ?_
  refine lv_iload_n hx hb dL_law_209 rfl (lv_at hl 3 rfl) ?_
  refine lv_iconst (v := 1) hx hb dL_law_210 (by decide) ?_
  refine lv_iadd hx hb dL_law_211 ?_
  refine am_topi (y := nI (i + 1)) (nI_add i 1) ?_
  refine va_sld hx hb hX9 hbl hbA hS (i := (nI (i + 1))) (vp_in_nI (by omega) (by omega)) dL_law_212 ?_
  refine am_topi (y := xs (i + 1)) (by rw [nI_clamp (by omega)]) ?_
  refine lv_aload_n hx hb dL_law_213 rfl (lv_at hl 0 rfl) ?_
  refine lv_iload_n hx hb dL_law_214 rfl (lv_at hl 3 rfl) ?_
  refine lv_iconst (v := 2) hx hb dL_law_215 (by decide) ?_
  refine lv_iadd hx hb dL_law_216 ?_
  refine am_topi (y := nI (i + 2)) (nI_add i 2) ?_
  refine va_sld hx hb hX9 hbl hbA hS (i := (nI (i + 2))) (vp_in_nI (by omega) (by omega)) dL_law_217 ?_
  refine am_topi (y := xs (i + 2)) (by rw [nI_clamp (by omega)]) ?_
  refine lw_callMi (va_runV (As := [.int (xs (i + 1)), .int (xs (i + 2))]) (rest := []) ⟨hx, hb, hml, hown, hts⟩ (c_X0_before l D ad cI cL fi fl ai al (lw_Ac ad) (xs (i + 1)) (xs (i + 2)) na hk.1 hk.2.1) (cwV 2 hts (lw_gV (am_in 196 rfl) (am_in 197 rfl) (am_in 198 rfl) (am_in 29 rfl) (am_in 199 rfl)) rfl rfl rfl (by decide +kernel) ⟨Nat.le_of_ble_eq_true rfl, Nat.le_of_ble_eq_true rfl⟩) (am_preVM 0 0 rfl rfl rfl hPc hK2 hN (hDc _ _ _ _)) rfl rfl hl.1 rfl (lv_room (Nat.le_of_ble_eq_true rfl)) dL_law_218 ⟨hce, hsl⟩) hS hAc hPr (lw_dis (hDr _ _ _ _) (fun q h g => hdis q g h)) (fun H locs hPc hPr hS => ?_)
  obtain ⟨na9, nr9, hk⟩ := ck_before (fl := fl) (al := al) (xs (i + 1)) (xs (i + 2)) hk
  refine lv_pop hx hb dL_law_221 rfl ?_
  refine lv_aload_n hx hb dL_law_222 rfl (lv_at hl 2 rfl) ?_
  refine lv_aload_n hx hb dL_law_223 rfl (lv_at hl 0 rfl) ?_
  refine lv_iload_n hx hb dL_law_224 rfl (lv_at hl 3 rfl) ?_
  refine lv_iconst (v := 1) hx hb dL_law_225 (by decide) ?_
  refine lv_iadd hx hb dL_law_226 ?_
  refine am_topi (y := nI (i + 1)) (nI_add i 1) ?_
  refine va_sld hx hb hX9 hbl hbA hS (i := (nI (i + 1))) (vp_in_nI (by omega) (by omega)) dL_law_227 ?_
  refine am_topi (y := xs (i + 1)) (by rw [nI_clamp (by omega)]) ?_
  refine lv_aload_n hx hb dL_law_228 rfl (lv_at hl 0 rfl) ?_
  refine lv_iload_n hx hb dL_law_229 rfl (lv_at hl 3 rfl) ?_
  refine lv_iconst (v := 2) hx hb dL_law_230 (by decide) ?_
  refine lv_iadd hx hb dL_law_231 ?_
  refine am_topi (y := nI (i + 2)) (nI_add i 2) ?_
  refine va_sld hx hb hX9 hbl hbA hS (i := (nI (i + 2))) (vp_in_nI (by omega) (by omega)) dL_law_232 ?_
  refine am_topi (y := xs (i + 2)) (by rw [nI_clamp (by omega)]) ?_
  refine lw_callMi (va_runV (As := [.int (xs (i + 1)), .int (xs (i + 2))]) (rest := []) ⟨hx, hb, hml, hown, hts⟩ (c_X5_before l D bd cI cL cZ gi gl bi bl (lw_Ar bd) (xs (i + 1)) (xs (i + 2)) na2 hk2.1.1 hk2.1.2.1) (cwV 2 hts (lw_gV (am_in 504 rfl) (am_in 505 rfl) (am_in 506 rfl) (am_in 35 rfl) (am_in 507 rfl)) rfl rfl rfl (by decide +kernel) ⟨Nat.le_of_ble_eq_true rfl, Nat.le_of_ble_eq_true rfl⟩) (am_preVM 5 0 rfl rfl rfl hPr hK3 hN (hDr _ _ _ _)) rfl rfl hl.1 rfl (lv_room (Nat.le_of_ble_eq_true rfl)) dL_law_233 ⟨hce, hsl⟩) hS hAr hPc (lw_dis (hDc _ _ _ _) hdis) (fun H locs hPr hPc hS => ?_)
  obtain ⟨na8, nr8, hk2⟩ := rk_before (xs (i + 1)) (xs (i + 2)) hk2
  refine lv_pop hx hb dL_law_236 rfl ?_
  have hR := lr_before (xs (i + 1)) (xs (i + 2)) hk0 hk20 hR0 hX
  refine lv_goto (tgt := 961) hx hb dL_law_237 (by decide) ?_
  exact kk _ _ ⟨_, _, _, _, _, _, _, _, _, _, _, _, hk, hk2, hR, hPc, hPr, hS⟩
set_option maxHeartbeats 4000000 in
set_option maxRecDepth 100000 in
theorem lc_2 {p : Program} {l : Launch} {e : Env} {s : State} {m : MethodId} {below : List Frame} {meth : Method} {c : Code} {b L : Nat} {xs : Nat → Int32} (hL : L ≤ 3072) (C0 : lw_At p s m meth c b L xs) {D : va_G} {ad bd : Nat → Nat} {cI cL cZ : ClassId} (hF : lw_Fix s D ad bd cI cL cZ)
    {i : Nat} (hi : i + 6 ≤ L) {cells slots : Nat} (hce : cells ≤ room_1.cells) (hsl : slots ≤ room_1.slots) {Q : State → Prop} {H : Heap} {locs : List Loc} (hI : lw_Inv i s D ad bd cI cL cZ H locs) {ls : Array Slot} (hl : lv_has ls 4 [(0, .ref b), (1, .ref (ad 0)), (2, .ref (bd 0)), (3, .int (nI i))])
    (kk : ∀ (H : Heap) (locs : List Loc), lw_Inv (i + 6) s D ad bd cI cL cZ H locs → W p l e room_1 s m #[Value.ref b] below meth c H locs cells slots Q (F0 m 961 ls [])) : W p l e room_1 s m #[Value.ref b] below meth c H locs cells slots Q (F0 m 240 ls []) := by
  obtain ⟨hx, hb, hr, hml, hown, hts, hX9, hbl, hlocks, hgv⟩ := C0
  have hown : s.vm.findClass RL = some m.cls := hown
  have hbA : ¬ (fun q : Nat => s.heap.size ≤ q) b := Nat.not_le.mpr hbl
  obtain ⟨hK2, hK3, hN, hDc, hDr, hAc, hAr, hdis⟩ := hF
  obtain ⟨fi, fl, ai, al, gi, gl, bi, bl, na, nr, na2, nr2, hk, hk2, hR, hPc, hPr, hS⟩ := hI
  obtain ⟨ln, hln, hlen⟩ := hk.2.2.2.2.1
  obtain ⟨ln2, hln2, hlen2⟩ := hk2.1.2.2.2.2.1
  obtain ⟨nt, hnt10, hnt⟩ := hk2.1.2.2.2.2.2.2
  obtain ⟨F9, hF9⟩ : ∃ F, 1048576 ≤ F := ⟨_, Nat.le_refl _⟩
  have hX : ln ≤ 10 ∧ fi 5 = nI ln ∧ ln2 ≤ 10 ∧ (gi 2 = nI ln2 ∨ gi 2 = -1) ∧ nt ≤ 10 ∧ gi 5 = nI nt ∧ 1048576 ≤ F9 := ⟨hln, hlen, hln2, hlen2, hnt10, hnt, hF9⟩
  have hk0 := hk
  have hk20 := hk2
  have hR0 := hR
  refine lv_aload_n hx hb dL_law_240 rfl (lv_at hl 1 rfl) ?_
  refine lv_aload_n hx hb dL_law_241 rfl (lv_at hl 0 rfl) ?_
  refine lv_iload_n hx hb dL_law_242 rfl (lv_at hl 3 rfl) ?_
  refine lv_iconst (v := 1) hx hb dL_law_243 (by decide) ?_
  refine lv_iadd hx hb dL_law_244 ?_
  refine am_topi (y := nI (i + 1)) (nI_add i 1) ?_
  refine va_sld hx hb hX9 hbl hbA hS (i := (nI (i + 1))) (vp_in_nI (by omega) (by omega)) dL_law_245 ?_
  refine am_topi (y := xs (i + 1)) (by rw [nI_clamp (by omega)]) ?_
  refine lv_aload_n hx hb dL_law_246 rfl (lv_at hl 0 rfl) ?_
  refine lv_iload_n hx hb dL_law_247 rfl (lv_at hl 3 rfl) ?_
  refine lv_iconst (v := 2) hx hb dL_law_248 (by decide) ?_
  refine lv_iadd hx hb dL_law_249 ?_
  refine am_topi (y := nI (i + 2)) (nI_add i 2) ?_
  refine va_sld hx hb hX9 hbl hbA hS (i := (nI (i + 2))) (vp_in_nI (by omega) (by omega)) dL_law_250 ?_
  refine am_topi (y := xs (i + 2)) (by rw [nI_clamp (by omega)]) ?_
  refine lv_aload_n hx hb dL_law_251 rfl (lv_at hl 0 rfl) ?_
  refine lv_iload_n hx hb dL_law_252 rfl (lv_at hl 3 rfl) ?_
  refine lv_iconst (v := 3) hx hb dL_law_253 (by decide) ?_
  refine lv_iadd hx hb dL_law_254 ?_
  refine am_topi (y := nI (i + 3)) (nI_add i 3) ?_
  refine va_sld hx hb hX9 hbl hbA hS (i := (nI (i + 3))) (vp_in_nI (by omega) (by omega)) dL_law_255 ?_
  refine am_topi (y := xs (i + 3)) (by rw [nI_clamp (by omega)]) ?_
  refine lv_i2l (v := (xs (i + 3)).toInt64) hx hb dL_law_256 rfl ?_
  refine lv_bipush (v := 32) hx hb dL_law_257 (by decide) ?_
  refine lv_lshl (v := ((xs (i + 3)).toInt64) <<< ((32 : Int32).toInt64 &&& 63)) hx hb dL_law_259 rfl ?_
  refine lv_aload_n hx hb dL_law_260 rfl (lv_at hl 0 rfl) ?_
  refine lv_iload_n hx hb dL_law_261 rfl (lv_at hl 3 rfl) ?_
  refine lv_iconst (v := 4) hx hb dL_law_262 (by decide) ?_
  refine lv_iadd hx hb dL_law_263 ?_
  refine am_topi (y := nI (i + 4)) (nI_add i 4) ?_
  refine va_sld hx hb hX9 hbl hbA hS (i := (nI (i + 4))) (vp_in_nI (by omega) (by omega)) dL_law_264 ?_
  refine am_topi (y := xs (i + 4)) (by rw [nI_clamp (by omega)]) ?_
  refine lv_i2l (v := (xs (i + 4)).toInt64) hx hb dL_law_265 rfl ?_
  refine lv_ldc2 (v := 4294967295) hx hb hown (lw_ht hts 640 _ rfl) dL_law_266 ?_
  refine lv_land hx hb dL_law_269 ?_
  refine lv_lor hx hb dL_law_270 ?_
  refine lw_callMi (va_runV (As := [.int (xs (i + 1)), .int (xs (i + 2)), .long ((((xs (i + 3)).toInt64) <<< ((32 : Int32).toInt64 &&& 63)) ||| (((xs (i + 4)).toInt64) &&& 4294967295))]) (rest := []) ⟨hx, hb, hml, hown, hts⟩ (c_X0_change l D ad cI cL fi fl ai al (lw_Ac ad) (xs (i + 1)) (xs (i + 2)) ((((xs (i + 3)).toInt64) <<< ((32 : Int32).toInt64 &&& 63)) ||| (((xs (i + 4)).toInt64) &&& 4294967295)) ) (cwV 3 hts (lw_gV (am_in 211 rfl) (am_in 212 rfl) (am_in 213 rfl) (am_in 29 rfl) (am_in 214 rfl)) rfl rfl rfl (by decide +kernel) ⟨Nat.le_of_ble_eq_true rfl, Nat.le_of_ble_eq_true rfl⟩) (am_preVM 0 0 rfl rfl rfl hPc hK2 hN (hDc _ _ _ _)) rfl rfl hl.1 rfl (lv_room (Nat.le_of_ble_eq_true rfl)) dL_law_271 ⟨hce, hsl⟩) hS hAc hPr (lw_dis (hDr _ _ _ _) (fun q h g => hdis q g h)) (fun H locs hPc hPr hS => ?_)
  obtain ⟨na9, nr9, hk⟩ := ck_change (fl := fl) (al := al) (xs (i + 1)) (xs (i + 2)) ((((xs (i + 3)).toInt64) <<< ((32 : Int32).toInt64 &&& 63)) ||| (((xs (i + 4)).toInt64) &&& 4294967295)) hk
  refine lv_pop hx hb dL_law_274 rfl ?_
  refine lv_aload_n hx hb dL_law_275 rfl (lv_at hl 2 rfl) ?_
  refine lv_aload_n hx hb dL_law_276 rfl (lv_at hl 0 rfl) ?_
  refine lv_iload_n hx hb dL_law_277 rfl (lv_at hl 3 rfl) ?_
  refine lv_iconst (v := 1) hx hb dL_law_278 (by decide) ?_
  refine lv_iadd hx hb dL_law_279 ?_
  refine am_topi (y := nI (i + 1)) (nI_add i 1) ?_
  refine va_sld hx hb hX9 hbl hbA hS (i := (nI (i + 1))) (vp_in_nI (by omega) (by omega)) dL_law_280 ?_
  refine am_topi (y := xs (i + 1)) (by rw [nI_clamp (by omega)]) ?_
  refine lv_aload_n hx hb dL_law_281 rfl (lv_at hl 0 rfl) ?_
  refine lv_iload_n hx hb dL_law_282 rfl (lv_at hl 3 rfl) ?_
  refine lv_iconst (v := 2) hx hb dL_law_283 (by decide) ?_
  refine lv_iadd hx hb dL_law_284 ?_
  refine am_topi (y := nI (i + 2)) (nI_add i 2) ?_
  refine va_sld hx hb hX9 hbl hbA hS (i := (nI (i + 2))) (vp_in_nI (by omega) (by omega)) dL_law_285 ?_
  refine am_topi (y := xs (i + 2)) (by rw [nI_clamp (by omega)]) ?_
  refine lv_aload_n hx hb dL_law_286 rfl (lv_at hl 0 rfl) ?_
  refine lv_iload_n hx hb dL_law_287 rfl (lv_at hl 3 rfl) ?_
  refine lv_iconst (v := 3) hx hb dL_law_288 (by decide) ?_
  refine lv_iadd hx hb dL_law_289 ?_
  refine am_topi (y := nI (i + 3)) (nI_add i 3) ?_
  refine va_sld hx hb hX9 hbl hbA hS (i := (nI (i + 3))) (vp_in_nI (by omega) (by omega)) dL_law_290 ?_
  refine am_topi (y := xs (i + 3)) (by rw [nI_clamp (by omega)]) ?_
  refine lv_i2l (v := (xs (i + 3)).toInt64) hx hb dL_law_291 rfl ?_
  refine lv_bipush (v := 32) hx hb dL_law_292 (by decide) ?_
  refine lv_lshl (v := ((xs (i + 3)).toInt64) <<< ((32 : Int32).toInt64 &&& 63)) hx hb dL_law_294 rfl ?_
  refine lv_aload_n hx hb dL_law_295 rfl (lv_at hl 0 rfl) ?_
  refine lv_iload_n hx hb dL_law_296 rfl (lv_at hl 3 rfl) ?_
  refine lv_iconst (v := 4) hx hb dL_law_297 (by decide) ?_
  refine lv_iadd hx hb dL_law_298 ?_
  refine am_topi (y := nI (i + 4)) (nI_add i 4) ?_
  refine va_sld hx hb hX9 hbl hbA hS (i := (nI (i + 4))) (vp_in_nI (by omega) (by omega)) dL_law_299 ?_
  refine am_topi (y := xs (i + 4)) (by rw [nI_clamp (by omega)]) ?_
  refine lv_i2l (v := (xs (i + 4)).toInt64) hx hb dL_law_300 rfl ?_
  refine lv_ldc2 (v := 4294967295) hx hb hown (lw_ht hts 640 _ rfl) dL_law_301 ?_
  refine lv_land hx hb dL_law_304 ?_
  refine lv_lor hx hb dL_law_305 ?_
  refine lw_callMi (va_runV (As := [.int (xs (i + 1)), .int (xs (i + 2)), .long ((((xs (i + 3)).toInt64) <<< ((32 : Int32).toInt64 &&& 63)) ||| (((xs (i + 4)).toInt64) &&& 4294967295))]) (rest := []) ⟨hx, hb, hml, hown, hts⟩ (c_X5_change l D bd cI cL cZ gi gl bi bl (lw_Ar bd) (xs (i + 1)) (xs (i + 2)) ((((xs (i + 3)).toInt64) <<< ((32 : Int32).toInt64 &&& 63)) ||| (((xs (i + 4)).toInt64) &&& 4294967295)) ) (cwV 3 hts (lw_gV (am_in 514 rfl) (am_in 515 rfl) (am_in 516 rfl) (am_in 35 rfl) (am_in 517 rfl)) rfl rfl rfl (by decide +kernel) ⟨Nat.le_of_ble_eq_true rfl, Nat.le_of_ble_eq_true rfl⟩) (am_preVM 5 0 rfl rfl rfl hPr hK3 hN (hDr _ _ _ _)) rfl rfl hl.1 rfl (lv_room (Nat.le_of_ble_eq_true rfl)) dL_law_306 ⟨hce, hsl⟩) hS hAr hPc (lw_dis (hDc _ _ _ _) hdis) (fun H locs hPr hPc hS => ?_)
  obtain ⟨na8, nr8, hk2⟩ := rk_change (xs (i + 1)) (xs (i + 2)) ((((xs (i + 3)).toInt64) <<< ((32 : Int32).toInt64 &&& 63)) ||| (((xs (i + 4)).toInt64) &&& 4294967295)) hk2
  refine lv_pop hx hb dL_law_309 rfl ?_
  have hR := lr_change (xs (i + 1)) (xs (i + 2)) ((((xs (i + 3)).toInt64) <<< ((32 : Int32).toInt64 &&& 63)) ||| (((xs (i + 4)).toInt64) &&& 4294967295)) hk0 hk20 hR0 hX
  refine lv_goto (tgt := 961) hx hb dL_law_310 (by decide) ?_
  exact kk _ _ ⟨_, _, _, _, _, _, _, _, _, _, _, _, hk, hk2, hR, hPc, hPr, hS⟩
set_option maxHeartbeats 4000000 in
set_option maxRecDepth 100000 in
theorem lc_3 {p : Program} {l : Launch} {e : Env} {s : State} {m : MethodId} {below : List Frame} {meth : Method} {c : Code} {b L : Nat} {xs : Nat → Int32} (hL : L ≤ 3072) (C0 : lw_At p s m meth c b L xs) {D : va_G} {ad bd : Nat → Nat} {cI cL cZ : ClassId} (hF : lw_Fix s D ad bd cI cL cZ)
    {i : Nat} (hi : i + 6 ≤ L) {cells slots : Nat} (hce : cells ≤ room_1.cells) (hsl : slots ≤ room_1.slots) {Q : State → Prop} {H : Heap} {locs : List Loc} (hI : lw_Inv i s D ad bd cI cL cZ H locs) {ls : Array Slot} (hl : lv_has ls 4 [(0, .ref b), (1, .ref (ad 0)), (2, .ref (bd 0)), (3, .int (nI i))])
    (kk : ∀ (H : Heap) (locs : List Loc), lw_Inv (i + 6) s D ad bd cI cL cZ H locs → W p l e room_1 s m #[Value.ref b] below meth c H locs cells slots Q (F0 m 961 ls [])) : W p l e room_1 s m #[Value.ref b] below meth c H locs cells slots Q (F0 m 313 ls []) := by
  obtain ⟨hx, hb, hr, hml, hown, hts, hX9, hbl, hlocks, hgv⟩ := C0
  have hown : s.vm.findClass RL = some m.cls := hown
  have hbA : ¬ (fun q : Nat => s.heap.size ≤ q) b := Nat.not_le.mpr hbl
  obtain ⟨hK2, hK3, hN, hDc, hDr, hAc, hAr, hdis⟩ := hF
  obtain ⟨fi, fl, ai, al, gi, gl, bi, bl, na, nr, na2, nr2, hk, hk2, hR, hPc, hPr, hS⟩ := hI
  obtain ⟨ln, hln, hlen⟩ := hk.2.2.2.2.1
  obtain ⟨ln2, hln2, hlen2⟩ := hk2.1.2.2.2.2.1
  obtain ⟨nt, hnt10, hnt⟩ := hk2.1.2.2.2.2.2.2
  obtain ⟨F9, hF9⟩ : ∃ F, 1048576 ≤ F := ⟨_, Nat.le_refl _⟩
  have hX : ln ≤ 10 ∧ fi 5 = nI ln ∧ ln2 ≤ 10 ∧ (gi 2 = nI ln2 ∨ gi 2 = -1) ∧ nt ≤ 10 ∧ gi 5 = nI nt ∧ 1048576 ≤ F9 := ⟨hln, hlen, hln2, hlen2, hnt10, hnt, hF9⟩
  have hk0 := hk
  have hk20 := hk2
  have hR0 := hR
  refine lv_aload_n hx hb dL_law_313 rfl (lv_at hl 1 rfl) ?_
  refine lv_aload_n hx hb dL_law_314 rfl (lv_at hl 0 rfl) ?_
  refine lv_iload_n hx hb dL_law_315 rfl (lv_at hl 3 rfl) ?_
  refine lv_iconst (v := 1) hx hb dL_law_316 (by decide) ?_
  refine lv_iadd hx hb dL_law_317 ?_
  refine am_topi (y := nI (i + 1)) (nI_add i 1) ?_
  refine va_sld hx hb hX9 hbl hbA hS (i := (nI (i + 1))) (vp_in_nI (by omega) (by omega)) dL_law_318 ?_
  refine am_topi (y := xs (i + 1)) (by rw [nI_clamp (by omega)]) ?_
  refine lv_aload_n hx hb dL_law_319 rfl (lv_at hl 0 rfl) ?_
  refine lv_iload_n hx hb dL_law_320 rfl (lv_at hl 3 rfl) ?_
  refine lv_iconst (v := 2) hx hb dL_law_321 (by decide) ?_
  refine lv_iadd hx hb dL_law_322 ?_
  refine am_topi (y := nI (i + 2)) (nI_add i 2) ?_
  refine va_sld hx hb hX9 hbl hbA hS (i := (nI (i + 2))) (vp_in_nI (by omega) (by omega)) dL_law_323 ?_
  refine am_topi (y := xs (i + 2)) (by rw [nI_clamp (by omega)]) ?_
  refine lv_aload_n hx hb dL_law_324 rfl (lv_at hl 0 rfl) ?_
  refine lv_iload_n hx hb dL_law_325 rfl (lv_at hl 3 rfl) ?_
  refine lv_iconst (v := 3) hx hb dL_law_326 (by decide) ?_
  refine lv_iadd hx hb dL_law_327 ?_
  refine am_topi (y := nI (i + 3)) (nI_add i 3) ?_
  refine va_sld hx hb hX9 hbl hbA hS (i := (nI (i + 3))) (vp_in_nI (by omega) (by omega)) dL_law_328 ?_
  refine am_topi (y := xs (i + 3)) (by rw [nI_clamp (by omega)]) ?_
  refine lv_i2l (v := (xs (i + 3)).toInt64) hx hb dL_law_329 rfl ?_
  refine lv_bipush (v := 32) hx hb dL_law_330 (by decide) ?_
  refine lv_lshl (v := ((xs (i + 3)).toInt64) <<< ((32 : Int32).toInt64 &&& 63)) hx hb dL_law_332 rfl ?_
  refine lv_aload_n hx hb dL_law_333 rfl (lv_at hl 0 rfl) ?_
  refine lv_iload_n hx hb dL_law_334 rfl (lv_at hl 3 rfl) ?_
  refine lv_iconst (v := 4) hx hb dL_law_335 (by decide) ?_
  refine lv_iadd hx hb dL_law_336 ?_
  refine am_topi (y := nI (i + 4)) (nI_add i 4) ?_
  refine va_sld hx hb hX9 hbl hbA hS (i := (nI (i + 4))) (vp_in_nI (by omega) (by omega)) dL_law_337 ?_
  refine am_topi (y := xs (i + 4)) (by rw [nI_clamp (by omega)]) ?_
  refine lv_i2l (v := (xs (i + 4)).toInt64) hx hb dL_law_338 rfl ?_
  refine lv_ldc2 (v := 4294967295) hx hb hown (lw_ht hts 640 _ rfl) dL_law_339 ?_
  refine lv_land hx hb dL_law_342 ?_
  refine lv_lor hx hb dL_law_343 ?_
  refine lw_callMi (va_runV (As := [.int (xs (i + 1)), .int (xs (i + 2)), .long ((((xs (i + 3)).toInt64) <<< ((32 : Int32).toInt64 &&& 63)) ||| (((xs (i + 4)).toInt64) &&& 4294967295))]) (rest := []) ⟨hx, hb, hml, hown, hts⟩ (c_X0_turn l D ad cI cL fi fl ai al (lw_Ac ad) (xs (i + 1)) (xs (i + 2)) ((((xs (i + 3)).toInt64) <<< ((32 : Int32).toInt64 &&& 63)) ||| (((xs (i + 4)).toInt64) &&& 4294967295)) ) (cwV 3 hts (lw_gV (am_in 218 rfl) (am_in 219 rfl) (am_in 220 rfl) (am_in 29 rfl) (am_in 221 rfl)) rfl rfl rfl (by decide +kernel) ⟨Nat.le_of_ble_eq_true rfl, Nat.le_of_ble_eq_true rfl⟩) (am_preVM 0 0 rfl rfl rfl hPc hK2 hN (hDc _ _ _ _)) rfl rfl hl.1 rfl (lv_room (Nat.le_of_ble_eq_true rfl)) dL_law_344 ⟨hce, hsl⟩) hS hAc hPr (lw_dis (hDr _ _ _ _) (fun q h g => hdis q g h)) (fun H locs hPc hPr hS => ?_)
  obtain ⟨na9, nr9, hk⟩ := ck_turn (fl := fl) (al := al) (xs (i + 1)) (xs (i + 2)) ((((xs (i + 3)).toInt64) <<< ((32 : Int32).toInt64 &&& 63)) ||| (((xs (i + 4)).toInt64) &&& 4294967295)) hk
  refine lv_pop hx hb dL_law_347 rfl ?_
  refine lv_aload_n hx hb dL_law_348 rfl (lv_at hl 2 rfl) ?_
  refine lv_aload_n hx hb dL_law_349 rfl (lv_at hl 0 rfl) ?_
  refine lv_iload_n hx hb dL_law_350 rfl (lv_at hl 3 rfl) ?_
  refine lv_iconst (v := 1) hx hb dL_law_351 (by decide) ?_
  refine lv_iadd hx hb dL_law_352 ?_
  refine am_topi (y := nI (i + 1)) (nI_add i 1) ?_
  refine va_sld hx hb hX9 hbl hbA hS (i := (nI (i + 1))) (vp_in_nI (by omega) (by omega)) dL_law_353 ?_
  refine am_topi (y := xs (i + 1)) (by rw [nI_clamp (by omega)]) ?_
  refine lv_aload_n hx hb dL_law_354 rfl (lv_at hl 0 rfl) ?_
  refine lv_iload_n hx hb dL_law_355 rfl (lv_at hl 3 rfl) ?_
  refine lv_iconst (v := 2) hx hb dL_law_356 (by decide) ?_
  refine lv_iadd hx hb dL_law_357 ?_
  refine am_topi (y := nI (i + 2)) (nI_add i 2) ?_
  refine va_sld hx hb hX9 hbl hbA hS (i := (nI (i + 2))) (vp_in_nI (by omega) (by omega)) dL_law_358 ?_
  refine am_topi (y := xs (i + 2)) (by rw [nI_clamp (by omega)]) ?_
  refine lv_aload_n hx hb dL_law_359 rfl (lv_at hl 0 rfl) ?_
  refine lv_iload_n hx hb dL_law_360 rfl (lv_at hl 3 rfl) ?_
  refine lv_iconst (v := 3) hx hb dL_law_361 (by decide) ?_
  refine lv_iadd hx hb dL_law_362 ?_
  refine am_topi (y := nI (i + 3)) (nI_add i 3) ?_
  refine va_sld hx hb hX9 hbl hbA hS (i := (nI (i + 3))) (vp_in_nI (by omega) (by omega)) dL_law_363 ?_
  refine am_topi (y := xs (i + 3)) (by rw [nI_clamp (by omega)]) ?_
  refine lv_i2l (v := (xs (i + 3)).toInt64) hx hb dL_law_364 rfl ?_
  refine lv_bipush (v := 32) hx hb dL_law_365 (by decide) ?_
  refine lv_lshl (v := ((xs (i + 3)).toInt64) <<< ((32 : Int32).toInt64 &&& 63)) hx hb dL_law_367 rfl ?_
  refine lv_aload_n hx hb dL_law_368 rfl (lv_at hl 0 rfl) ?_
  refine lv_iload_n hx hb dL_law_369 rfl (lv_at hl 3 rfl) ?_
  refine lv_iconst (v := 4) hx hb dL_law_370 (by decide) ?_
  refine lv_iadd hx hb dL_law_371 ?_
  refine am_topi (y := nI (i + 4)) (nI_add i 4) ?_
  refine va_sld hx hb hX9 hbl hbA hS (i := (nI (i + 4))) (vp_in_nI (by omega) (by omega)) dL_law_372 ?_
  refine am_topi (y := xs (i + 4)) (by rw [nI_clamp (by omega)]) ?_
  refine lv_i2l (v := (xs (i + 4)).toInt64) hx hb dL_law_373 rfl ?_
  refine lv_ldc2 (v := 4294967295) hx hb hown (lw_ht hts 640 _ rfl) dL_law_374 ?_
  refine lv_land hx hb dL_law_377 ?_
  refine lv_lor hx hb dL_law_378 ?_
  refine lw_callMi (va_runV (As := [.int (xs (i + 1)), .int (xs (i + 2)), .long ((((xs (i + 3)).toInt64) <<< ((32 : Int32).toInt64 &&& 63)) ||| (((xs (i + 4)).toInt64) &&& 4294967295))]) (rest := []) ⟨hx, hb, hml, hown, hts⟩ (c_X5_turn l D bd cI cL cZ gi gl bi bl (lw_Ar bd) (xs (i + 1)) (xs (i + 2)) ((((xs (i + 3)).toInt64) <<< ((32 : Int32).toInt64 &&& 63)) ||| (((xs (i + 4)).toInt64) &&& 4294967295)) ) (cwV 3 hts (lw_gV (am_in 518 rfl) (am_in 519 rfl) (am_in 520 rfl) (am_in 35 rfl) (am_in 521 rfl)) rfl rfl rfl (by decide +kernel) ⟨Nat.le_of_ble_eq_true rfl, Nat.le_of_ble_eq_true rfl⟩) (am_preVM 5 0 rfl rfl rfl hPr hK3 hN (hDr _ _ _ _)) rfl rfl hl.1 rfl (lv_room (Nat.le_of_ble_eq_true rfl)) dL_law_379 ⟨hce, hsl⟩) hS hAr hPc (lw_dis (hDc _ _ _ _) hdis) (fun H locs hPr hPc hS => ?_)
  obtain ⟨na8, nr8, hk2⟩ := rk_turn (xs (i + 1)) (xs (i + 2)) ((((xs (i + 3)).toInt64) <<< ((32 : Int32).toInt64 &&& 63)) ||| (((xs (i + 4)).toInt64) &&& 4294967295)) hk2
  refine lv_pop hx hb dL_law_382 rfl ?_
  have hR := lr_turn (xs (i + 1)) (xs (i + 2)) ((((xs (i + 3)).toInt64) <<< ((32 : Int32).toInt64 &&& 63)) ||| (((xs (i + 4)).toInt64) &&& 4294967295)) hk0 hk20 hR0 hX
  refine lv_goto (tgt := 961) hx hb dL_law_383 (by decide) ?_
  exact kk _ _ ⟨_, _, _, _, _, _, _, _, _, _, _, _, hk, hk2, hR, hPc, hPr, hS⟩
set_option maxHeartbeats 4000000 in
set_option maxRecDepth 100000 in
theorem lc_4 {p : Program} {l : Launch} {e : Env} {s : State} {m : MethodId} {below : List Frame} {meth : Method} {c : Code} {b L : Nat} {xs : Nat → Int32} (hL : L ≤ 3072) (C0 : lw_At p s m meth c b L xs) {D : va_G} {ad bd : Nat → Nat} {cI cL cZ : ClassId} (hF : lw_Fix s D ad bd cI cL cZ)
    {i : Nat} (hi : i + 6 ≤ L) {cells slots : Nat} (hce : cells ≤ room_1.cells) (hsl : slots ≤ room_1.slots) {Q : State → Prop} {H : Heap} {locs : List Loc} (hI : lw_Inv i s D ad bd cI cL cZ H locs) {ls : Array Slot} (hl : lv_has ls 4 [(0, .ref b), (1, .ref (ad 0)), (2, .ref (bd 0)), (3, .int (nI i))])
    (kk : ∀ (H : Heap) (locs : List Loc), lw_Inv (i + 6) s D ad bd cI cL cZ H locs → W p l e room_1 s m #[Value.ref b] below meth c H locs cells slots Q (F0 m 961 ls [])) : W p l e room_1 s m #[Value.ref b] below meth c H locs cells slots Q (F0 m 386 ls []) := by
  obtain ⟨hx, hb, hr, hml, hown, hts, hX9, hbl, hlocks, hgv⟩ := C0
  have hown : s.vm.findClass RL = some m.cls := hown
  have hbA : ¬ (fun q : Nat => s.heap.size ≤ q) b := Nat.not_le.mpr hbl
  obtain ⟨hK2, hK3, hN, hDc, hDr, hAc, hAr, hdis⟩ := hF
  obtain ⟨fi, fl, ai, al, gi, gl, bi, bl, na, nr, na2, nr2, hk, hk2, hR, hPc, hPr, hS⟩ := hI
  obtain ⟨ln, hln, hlen⟩ := hk.2.2.2.2.1
  obtain ⟨ln2, hln2, hlen2⟩ := hk2.1.2.2.2.2.1
  obtain ⟨nt, hnt10, hnt⟩ := hk2.1.2.2.2.2.2.2
  obtain ⟨F9, hF9⟩ : ∃ F, 1048576 ≤ F := ⟨_, Nat.le_refl _⟩
  have hX : ln ≤ 10 ∧ fi 5 = nI ln ∧ ln2 ≤ 10 ∧ (gi 2 = nI ln2 ∨ gi 2 = -1) ∧ nt ≤ 10 ∧ gi 5 = nI nt ∧ 1048576 ≤ F9 := ⟨hln, hlen, hln2, hlen2, hnt10, hnt, hF9⟩
  have hk0 := hk
  have hk20 := hk2
  have hR0 := hR
  refine lv_aload_n hx hb dL_law_386 rfl (lv_at hl 1 rfl) ?_
  refine lv_aload_n hx hb dL_law_387 rfl (lv_at hl 0 rfl) ?_
  refine lv_iload_n hx hb dL_law_388 rfl (lv_at hl 3 rfl) ?_
  refine lv_iconst (v := 1) hx hb dL_law_389 (by decide) ?_
  refine lv_iadd hx hb dL_law_390 ?_
  refine am_topi (y := nI (i + 1)) (nI_add i 1) ?_
  refine va_sld hx hb hX9 hbl hbA hS (i := (nI (i + 1))) (vp_in_nI (by omega) (by omega)) dL_law_391 ?_
  refine am_topi (y := xs (i + 1)) (by rw [nI_clamp (by omega)]) ?_
  refine lv_aload_n hx hb dL_law_392 rfl (lv_at hl 0 rfl) ?_
  refine lv_iload_n hx hb dL_law_393 rfl (lv_at hl 3 rfl) ?_
  refine lv_iconst (v := 2) hx hb dL_law_394 (by decide) ?_
  refine lv_iadd hx hb dL_law_395 ?_
  refine am_topi (y := nI (i + 2)) (nI_add i 2) ?_
  refine va_sld hx hb hX9 hbl hbA hS (i := (nI (i + 2))) (vp_in_nI (by omega) (by omega)) dL_law_396 ?_
  refine am_topi (y := xs (i + 2)) (by rw [nI_clamp (by omega)]) ?_
  refine lv_i2l (v := (xs (i + 2)).toInt64) hx hb dL_law_397 rfl ?_
  refine lv_bipush (v := 32) hx hb dL_law_398 (by decide) ?_
  refine lv_lshl (v := ((xs (i + 2)).toInt64) <<< ((32 : Int32).toInt64 &&& 63)) hx hb dL_law_400 rfl ?_
  refine lv_aload_n hx hb dL_law_401 rfl (lv_at hl 0 rfl) ?_
  refine lv_iload_n hx hb dL_law_402 rfl (lv_at hl 3 rfl) ?_
  refine lv_iconst (v := 3) hx hb dL_law_403 (by decide) ?_
  refine lv_iadd hx hb dL_law_404 ?_
  refine am_topi (y := nI (i + 3)) (nI_add i 3) ?_
  refine va_sld hx hb hX9 hbl hbA hS (i := (nI (i + 3))) (vp_in_nI (by omega) (by omega)) dL_law_405 ?_
  refine am_topi (y := xs (i + 3)) (by rw [nI_clamp (by omega)]) ?_
  refine lv_i2l (v := (xs (i + 3)).toInt64) hx hb dL_law_406 rfl ?_
  refine lv_ldc2 (v := 4294967295) hx hb hown (lw_ht hts 640 _ rfl) dL_law_407 ?_
  refine lv_land hx hb dL_law_410 ?_
  refine lv_lor hx hb dL_law_411 ?_
  refine lw_callMi (va_runV (As := [.int (xs (i + 1)), .long ((((xs (i + 2)).toInt64) <<< ((32 : Int32).toInt64 &&& 63)) ||| (((xs (i + 3)).toInt64) &&& 4294967295))]) (rest := []) ⟨hx, hb, hml, hown, hts⟩ (c_X0_worth l D ad cI cL fi fl ai al (lw_Ac ad) (xs (i + 1)) ((((xs (i + 2)).toInt64) <<< ((32 : Int32).toInt64 &&& 63)) ||| (((xs (i + 3)).toInt64) &&& 4294967295)) ) (cwV 2 hts (lw_gV (am_in 222 rfl) (am_in 223 rfl) (am_in 224 rfl) (am_in 29 rfl) (am_in 225 rfl)) rfl rfl rfl (by decide +kernel) ⟨Nat.le_of_ble_eq_true rfl, Nat.le_of_ble_eq_true rfl⟩) (am_preVM 0 0 rfl rfl rfl hPc hK2 hN (hDc _ _ _ _)) rfl rfl hl.1 rfl (lv_room (Nat.le_of_ble_eq_true rfl)) dL_law_412 ⟨hce, hsl⟩) hS hAc hPr (lw_dis (hDr _ _ _ _) (fun q h g => hdis q g h)) (fun H locs hPc hPr hS => ?_)
  obtain ⟨na9, nr9, hk⟩ := ck_worth (fl := fl) (al := al) (xs (i + 1)) ((((xs (i + 2)).toInt64) <<< ((32 : Int32).toInt64 &&& 63)) ||| (((xs (i + 3)).toInt64) &&& 4294967295)) hk
  refine lv_pop hx hb dL_law_415 rfl ?_
  refine lv_aload_n hx hb dL_law_416 rfl (lv_at hl 2 rfl) ?_
  refine lv_aload_n hx hb dL_law_417 rfl (lv_at hl 0 rfl) ?_
  refine lv_iload_n hx hb dL_law_418 rfl (lv_at hl 3 rfl) ?_
  refine lv_iconst (v := 1) hx hb dL_law_419 (by decide) ?_
  refine lv_iadd hx hb dL_law_420 ?_
  refine am_topi (y := nI (i + 1)) (nI_add i 1) ?_
  refine va_sld hx hb hX9 hbl hbA hS (i := (nI (i + 1))) (vp_in_nI (by omega) (by omega)) dL_law_421 ?_
  refine am_topi (y := xs (i + 1)) (by rw [nI_clamp (by omega)]) ?_
  refine lv_aload_n hx hb dL_law_422 rfl (lv_at hl 0 rfl) ?_
  refine lv_iload_n hx hb dL_law_423 rfl (lv_at hl 3 rfl) ?_
  refine lv_iconst (v := 2) hx hb dL_law_424 (by decide) ?_
  refine lv_iadd hx hb dL_law_425 ?_
  refine am_topi (y := nI (i + 2)) (nI_add i 2) ?_
  refine va_sld hx hb hX9 hbl hbA hS (i := (nI (i + 2))) (vp_in_nI (by omega) (by omega)) dL_law_426 ?_
  refine am_topi (y := xs (i + 2)) (by rw [nI_clamp (by omega)]) ?_
  refine lv_i2l (v := (xs (i + 2)).toInt64) hx hb dL_law_427 rfl ?_
  refine lv_bipush (v := 32) hx hb dL_law_428 (by decide) ?_
  refine lv_lshl (v := ((xs (i + 2)).toInt64) <<< ((32 : Int32).toInt64 &&& 63)) hx hb dL_law_430 rfl ?_
  refine lv_aload_n hx hb dL_law_431 rfl (lv_at hl 0 rfl) ?_
  refine lv_iload_n hx hb dL_law_432 rfl (lv_at hl 3 rfl) ?_
  refine lv_iconst (v := 3) hx hb dL_law_433 (by decide) ?_
  refine lv_iadd hx hb dL_law_434 ?_
  refine am_topi (y := nI (i + 3)) (nI_add i 3) ?_
  refine va_sld hx hb hX9 hbl hbA hS (i := (nI (i + 3))) (vp_in_nI (by omega) (by omega)) dL_law_435 ?_
  refine am_topi (y := xs (i + 3)) (by rw [nI_clamp (by omega)]) ?_
  refine lv_i2l (v := (xs (i + 3)).toInt64) hx hb dL_law_436 rfl ?_
  refine lv_ldc2 (v := 4294967295) hx hb hown (lw_ht hts 640 _ rfl) dL_law_437 ?_
  refine lv_land hx hb dL_law_440 ?_
  refine lv_lor hx hb dL_law_441 ?_
  refine lw_callMi (va_runV (As := [.int (xs (i + 1)), .long ((((xs (i + 2)).toInt64) <<< ((32 : Int32).toInt64 &&& 63)) ||| (((xs (i + 3)).toInt64) &&& 4294967295))]) (rest := []) ⟨hx, hb, hml, hown, hts⟩ (c_X5_worth l D bd cI cL cZ gi gl bi bl (lw_Ar bd) (xs (i + 1)) ((((xs (i + 2)).toInt64) <<< ((32 : Int32).toInt64 &&& 63)) ||| (((xs (i + 3)).toInt64) &&& 4294967295)) ) (cwV 2 hts (lw_gV (am_in 522 rfl) (am_in 523 rfl) (am_in 524 rfl) (am_in 35 rfl) (am_in 525 rfl)) rfl rfl rfl (by decide +kernel) ⟨Nat.le_of_ble_eq_true rfl, Nat.le_of_ble_eq_true rfl⟩) (am_preVM 5 0 rfl rfl rfl hPr hK3 hN (hDr _ _ _ _)) rfl rfl hl.1 rfl (lv_room (Nat.le_of_ble_eq_true rfl)) dL_law_442 ⟨hce, hsl⟩) hS hAr hPc (lw_dis (hDc _ _ _ _) hdis) (fun H locs hPr hPc hS => ?_)
  obtain ⟨na8, nr8, hk2⟩ := rk_worth (xs (i + 1)) ((((xs (i + 2)).toInt64) <<< ((32 : Int32).toInt64 &&& 63)) ||| (((xs (i + 3)).toInt64) &&& 4294967295)) hk2
  refine lv_pop hx hb dL_law_445 rfl ?_
  have hR := lr_worth (xs (i + 1)) ((((xs (i + 2)).toInt64) <<< ((32 : Int32).toInt64 &&& 63)) ||| (((xs (i + 3)).toInt64) &&& 4294967295)) hk0 hk20 hR0 hX
  refine lv_goto (tgt := 961) hx hb dL_law_446 (by decide) ?_
  exact kk _ _ ⟨_, _, _, _, _, _, _, _, _, _, _, _, hk, hk2, hR, hPc, hPr, hS⟩
set_option maxHeartbeats 4000000 in
set_option maxRecDepth 100000 in
theorem lc_5 {p : Program} {l : Launch} {e : Env} {s : State} {m : MethodId} {below : List Frame} {meth : Method} {c : Code} {b L : Nat} {xs : Nat → Int32} (hL : L ≤ 3072) (C0 : lw_At p s m meth c b L xs) {D : va_G} {ad bd : Nat → Nat} {cI cL cZ : ClassId} (hF : lw_Fix s D ad bd cI cL cZ)
    {i : Nat} (hi : i + 6 ≤ L) {cells slots : Nat} (hce : cells ≤ room_1.cells) (hsl : slots ≤ room_1.slots) {Q : State → Prop} {H : Heap} {locs : List Loc} (hI : lw_Inv i s D ad bd cI cL cZ H locs) {ls : Array Slot} (hl : lv_has ls 4 [(0, .ref b), (1, .ref (ad 0)), (2, .ref (bd 0)), (3, .int (nI i))])
    (kk : ∀ (H : Heap) (locs : List Loc), lw_Inv (i + 6) s D ad bd cI cL cZ H locs → W p l e room_1 s m #[Value.ref b] below meth c H locs cells slots Q (F0 m 961 ls [])) : W p l e room_1 s m #[Value.ref b] below meth c H locs cells slots Q (F0 m 449 ls []) := by
  obtain ⟨hx, hb, hr, hml, hown, hts, hX9, hbl, hlocks, hgv⟩ := C0
  have hown : s.vm.findClass RL = some m.cls := hown
  have hbA : ¬ (fun q : Nat => s.heap.size ≤ q) b := Nat.not_le.mpr hbl
  obtain ⟨hK2, hK3, hN, hDc, hDr, hAc, hAr, hdis⟩ := hF
  obtain ⟨fi, fl, ai, al, gi, gl, bi, bl, na, nr, na2, nr2, hk, hk2, hR, hPc, hPr, hS⟩ := hI
  obtain ⟨ln, hln, hlen⟩ := hk.2.2.2.2.1
  obtain ⟨ln2, hln2, hlen2⟩ := hk2.1.2.2.2.2.1
  obtain ⟨nt, hnt10, hnt⟩ := hk2.1.2.2.2.2.2.2
  obtain ⟨F9, hF9⟩ : ∃ F, 1048576 ≤ F := ⟨_, Nat.le_refl _⟩
  have hX : ln ≤ 10 ∧ fi 5 = nI ln ∧ ln2 ≤ 10 ∧ (gi 2 = nI ln2 ∨ gi 2 = -1) ∧ nt ≤ 10 ∧ gi 5 = nI nt ∧ 1048576 ≤ F9 := ⟨hln, hlen, hln2, hlen2, hnt10, hnt, hF9⟩
  have hk0 := hk
  have hk20 := hk2
  have hR0 := hR
  refine lv_aload_n hx hb dL_law_449 rfl (lv_at hl 1 rfl) ?_
  refine lv_aload_n hx hb dL_law_450 rfl (lv_at hl 0 rfl) ?_
  refine lv_iload_n hx hb dL_law_451 rfl (lv_at hl 3 rfl) ?_
  refine lv_iconst (v := 1) hx hb dL_law_452 (by decide) ?_
  refine lv_iadd hx hb dL_law_453 ?_
  refine am_topi (y := nI (i + 1)) (nI_add i 1) ?_
  refine va_sld hx hb hX9 hbl hbA hS (i := (nI (i + 1))) (vp_in_nI (by omega) (by omega)) dL_law_454 ?_
  refine am_topi (y := xs (i + 1)) (by rw [nI_clamp (by omega)]) ?_
  refine lv_i2l (v := (xs (i + 1)).toInt64) hx hb dL_law_455 rfl ?_
  refine lv_bipush (v := 32) hx hb dL_law_456 (by decide) ?_
  refine lv_lshl (v := ((xs (i + 1)).toInt64) <<< ((32 : Int32).toInt64 &&& 63)) hx hb dL_law_458 rfl ?_
  refine lv_aload_n hx hb dL_law_459 rfl (lv_at hl 0 rfl) ?_
  refine lv_iload_n hx hb dL_law_460 rfl (lv_at hl 3 rfl) ?_
  refine lv_iconst (v := 2) hx hb dL_law_461 (by decide) ?_
  refine lv_iadd hx hb dL_law_462 ?_
  refine am_topi (y := nI (i + 2)) (nI_add i 2) ?_
  refine va_sld hx hb hX9 hbl hbA hS (i := (nI (i + 2))) (vp_in_nI (by omega) (by omega)) dL_law_463 ?_
  refine am_topi (y := xs (i + 2)) (by rw [nI_clamp (by omega)]) ?_
  refine lv_i2l (v := (xs (i + 2)).toInt64) hx hb dL_law_464 rfl ?_
  refine lv_ldc2 (v := 4294967295) hx hb hown (lw_ht hts 640 _ rfl) dL_law_465 ?_
  refine lv_land hx hb dL_law_468 ?_
  refine lv_lor hx hb dL_law_469 ?_
  refine lv_aload_n hx hb dL_law_470 rfl (lv_at hl 0 rfl) ?_
  refine lv_iload_n hx hb dL_law_471 rfl (lv_at hl 3 rfl) ?_
  refine lv_iconst (v := 3) hx hb dL_law_472 (by decide) ?_
  refine lv_iadd hx hb dL_law_473 ?_
  refine am_topi (y := nI (i + 3)) (nI_add i 3) ?_
  refine va_sld hx hb hX9 hbl hbA hS (i := (nI (i + 3))) (vp_in_nI (by omega) (by omega)) dL_law_474 ?_
  refine am_topi (y := xs (i + 3)) (by rw [nI_clamp (by omega)]) ?_
  refine lv_i2l (v := (xs (i + 3)).toInt64) hx hb dL_law_475 rfl ?_
  refine lv_bipush (v := 32) hx hb dL_law_476 (by decide) ?_
  refine lv_lshl (v := ((xs (i + 3)).toInt64) <<< ((32 : Int32).toInt64 &&& 63)) hx hb dL_law_478 rfl ?_
  refine lv_aload_n hx hb dL_law_479 rfl (lv_at hl 0 rfl) ?_
  refine lv_iload_n hx hb dL_law_480 rfl (lv_at hl 3 rfl) ?_
  refine lv_iconst (v := 4) hx hb dL_law_481 (by decide) ?_
  refine lv_iadd hx hb dL_law_482 ?_
  refine am_topi (y := nI (i + 4)) (nI_add i 4) ?_
  refine va_sld hx hb hX9 hbl hbA hS (i := (nI (i + 4))) (vp_in_nI (by omega) (by omega)) dL_law_483 ?_
  refine am_topi (y := xs (i + 4)) (by rw [nI_clamp (by omega)]) ?_
  refine lv_i2l (v := (xs (i + 4)).toInt64) hx hb dL_law_484 rfl ?_
  refine lv_ldc2 (v := 4294967295) hx hb hown (lw_ht hts 640 _ rfl) dL_law_485 ?_
  refine lv_land hx hb dL_law_488 ?_
  refine lv_lor hx hb dL_law_489 ?_
  refine lw_callMi (va_runV (As := [.long ((((xs (i + 1)).toInt64) <<< ((32 : Int32).toInt64 &&& 63)) ||| (((xs (i + 2)).toInt64) &&& 4294967295)), .long ((((xs (i + 3)).toInt64) <<< ((32 : Int32).toInt64 &&& 63)) ||| (((xs (i + 4)).toInt64) &&& 4294967295))]) (rest := []) ⟨hx, hb, hml, hown, hts⟩ (c_X0_rest l D ad cI cL fi fl ai al (lw_Ac ad) ((((xs (i + 1)).toInt64) <<< ((32 : Int32).toInt64 &&& 63)) ||| (((xs (i + 2)).toInt64) &&& 4294967295)) ((((xs (i + 3)).toInt64) <<< ((32 : Int32).toInt64 &&& 63)) ||| (((xs (i + 4)).toInt64) &&& 4294967295)) nr hk.2.2.1 hk.2.2.2.1) (cwV 2 hts (lw_gV (am_in 230 rfl) (am_in 231 rfl) (am_in 232 rfl) (am_in 29 rfl) (am_in 233 rfl)) rfl rfl rfl (by decide +kernel) ⟨Nat.le_of_ble_eq_true rfl, Nat.le_of_ble_eq_true rfl⟩) (am_preVM 0 0 rfl rfl rfl hPc hK2 hN (hDc _ _ _ _)) rfl rfl hl.1 rfl (lv_room (Nat.le_of_ble_eq_true rfl)) dL_law_490 ⟨hce, hsl⟩) hS hAc hPr (lw_dis (hDr _ _ _ _) (fun q h g => hdis q g h)) (fun H locs hPc hPr hS => ?_)
  obtain ⟨na9, nr9, hk⟩ := ck_rest (fl := fl) (al := al) ((((xs (i + 1)).toInt64) <<< ((32 : Int32).toInt64 &&& 63)) ||| (((xs (i + 2)).toInt64) &&& 4294967295)) ((((xs (i + 3)).toInt64) <<< ((32 : Int32).toInt64 &&& 63)) ||| (((xs (i + 4)).toInt64) &&& 4294967295)) hk
  refine lv_pop hx hb dL_law_493 rfl ?_
  refine lv_aload_n hx hb dL_law_494 rfl (lv_at hl 2 rfl) ?_
  refine lv_aload_n hx hb dL_law_495 rfl (lv_at hl 0 rfl) ?_
  refine lv_iload_n hx hb dL_law_496 rfl (lv_at hl 3 rfl) ?_
  refine lv_iconst (v := 1) hx hb dL_law_497 (by decide) ?_
  refine lv_iadd hx hb dL_law_498 ?_
  refine am_topi (y := nI (i + 1)) (nI_add i 1) ?_
  refine va_sld hx hb hX9 hbl hbA hS (i := (nI (i + 1))) (vp_in_nI (by omega) (by omega)) dL_law_499 ?_
  refine am_topi (y := xs (i + 1)) (by rw [nI_clamp (by omega)]) ?_
  refine lv_i2l (v := (xs (i + 1)).toInt64) hx hb dL_law_500 rfl ?_
  refine lv_bipush (v := 32) hx hb dL_law_501 (by decide) ?_
  refine lv_lshl (v := ((xs (i + 1)).toInt64) <<< ((32 : Int32).toInt64 &&& 63)) hx hb dL_law_503 rfl ?_
  refine lv_aload_n hx hb dL_law_504 rfl (lv_at hl 0 rfl) ?_
  refine lv_iload_n hx hb dL_law_505 rfl (lv_at hl 3 rfl) ?_
  refine lv_iconst (v := 2) hx hb dL_law_506 (by decide) ?_
  refine lv_iadd hx hb dL_law_507 ?_
  refine am_topi (y := nI (i + 2)) (nI_add i 2) ?_
  refine va_sld hx hb hX9 hbl hbA hS (i := (nI (i + 2))) (vp_in_nI (by omega) (by omega)) dL_law_508 ?_
  refine am_topi (y := xs (i + 2)) (by rw [nI_clamp (by omega)]) ?_
  refine lv_i2l (v := (xs (i + 2)).toInt64) hx hb dL_law_509 rfl ?_
  refine lv_ldc2 (v := 4294967295) hx hb hown (lw_ht hts 640 _ rfl) dL_law_510 ?_
  refine lv_land hx hb dL_law_513 ?_
  refine lv_lor hx hb dL_law_514 ?_
  refine lv_aload_n hx hb dL_law_515 rfl (lv_at hl 0 rfl) ?_
  refine lv_iload_n hx hb dL_law_516 rfl (lv_at hl 3 rfl) ?_
  refine lv_iconst (v := 3) hx hb dL_law_517 (by decide) ?_
  refine lv_iadd hx hb dL_law_518 ?_
  refine am_topi (y := nI (i + 3)) (nI_add i 3) ?_
  refine va_sld hx hb hX9 hbl hbA hS (i := (nI (i + 3))) (vp_in_nI (by omega) (by omega)) dL_law_519 ?_
  refine am_topi (y := xs (i + 3)) (by rw [nI_clamp (by omega)]) ?_
  refine lv_i2l (v := (xs (i + 3)).toInt64) hx hb dL_law_520 rfl ?_
  refine lv_bipush (v := 32) hx hb dL_law_521 (by decide) ?_
  refine lv_lshl (v := ((xs (i + 3)).toInt64) <<< ((32 : Int32).toInt64 &&& 63)) hx hb dL_law_523 rfl ?_
  refine lv_aload_n hx hb dL_law_524 rfl (lv_at hl 0 rfl) ?_
  refine lv_iload_n hx hb dL_law_525 rfl (lv_at hl 3 rfl) ?_
  refine lv_iconst (v := 4) hx hb dL_law_526 (by decide) ?_
  refine lv_iadd hx hb dL_law_527 ?_
  refine am_topi (y := nI (i + 4)) (nI_add i 4) ?_
  refine va_sld hx hb hX9 hbl hbA hS (i := (nI (i + 4))) (vp_in_nI (by omega) (by omega)) dL_law_528 ?_
  refine am_topi (y := xs (i + 4)) (by rw [nI_clamp (by omega)]) ?_
  refine lv_i2l (v := (xs (i + 4)).toInt64) hx hb dL_law_529 rfl ?_
  refine lv_ldc2 (v := 4294967295) hx hb hown (lw_ht hts 640 _ rfl) dL_law_530 ?_
  refine lv_land hx hb dL_law_533 ?_
  refine lv_lor hx hb dL_law_534 ?_
  refine lw_callMi (va_runV (As := [.long ((((xs (i + 1)).toInt64) <<< ((32 : Int32).toInt64 &&& 63)) ||| (((xs (i + 2)).toInt64) &&& 4294967295)), .long ((((xs (i + 3)).toInt64) <<< ((32 : Int32).toInt64 &&& 63)) ||| (((xs (i + 4)).toInt64) &&& 4294967295))]) (rest := []) ⟨hx, hb, hml, hown, hts⟩ (c_X5_rest l D bd cI cL cZ gi gl bi bl (lw_Ar bd) ((((xs (i + 1)).toInt64) <<< ((32 : Int32).toInt64 &&& 63)) ||| (((xs (i + 2)).toInt64) &&& 4294967295)) ((((xs (i + 3)).toInt64) <<< ((32 : Int32).toInt64 &&& 63)) ||| (((xs (i + 4)).toInt64) &&& 4294967295)) nr2 hk2.1.2.2.1 hk2.1.2.2.2.1) (cwV 2 hts (lw_gV (am_in 533 rfl) (am_in 534 rfl) (am_in 535 rfl) (am_in 35 rfl) (am_in 536 rfl)) rfl rfl rfl (by decide +kernel) ⟨Nat.le_of_ble_eq_true rfl, Nat.le_of_ble_eq_true rfl⟩) (am_preVM 5 0 rfl rfl rfl hPr hK3 hN (hDr _ _ _ _)) rfl rfl hl.1 rfl (lv_room (Nat.le_of_ble_eq_true rfl)) dL_law_535 ⟨hce, hsl⟩) hS hAr hPc (lw_dis (hDc _ _ _ _) hdis) (fun H locs hPr hPc hS => ?_)
  obtain ⟨na8, nr8, hk2⟩ := rk_rest ((((xs (i + 1)).toInt64) <<< ((32 : Int32).toInt64 &&& 63)) ||| (((xs (i + 2)).toInt64) &&& 4294967295)) ((((xs (i + 3)).toInt64) <<< ((32 : Int32).toInt64 &&& 63)) ||| (((xs (i + 4)).toInt64) &&& 4294967295)) hk2
  refine lv_pop hx hb dL_law_538 rfl ?_
  have hR := lr_rest ((((xs (i + 1)).toInt64) <<< ((32 : Int32).toInt64 &&& 63)) ||| (((xs (i + 2)).toInt64) &&& 4294967295)) ((((xs (i + 3)).toInt64) <<< ((32 : Int32).toInt64 &&& 63)) ||| (((xs (i + 4)).toInt64) &&& 4294967295)) hk0 hk20 hR0 hX
  refine lv_goto (tgt := 961) hx hb dL_law_539 (by decide) ?_
  exact kk _ _ ⟨_, _, _, _, _, _, _, _, _, _, _, _, hk, hk2, hR, hPc, hPr, hS⟩
set_option maxHeartbeats 4000000 in
set_option maxRecDepth 100000 in
theorem lc_7 {p : Program} {l : Launch} {e : Env} {s : State} {m : MethodId} {below : List Frame} {meth : Method} {c : Code} {b L : Nat} {xs : Nat → Int32} (hL : L ≤ 3072) (C0 : lw_At p s m meth c b L xs) {D : va_G} {ad bd : Nat → Nat} {cI cL cZ : ClassId} (hF : lw_Fix s D ad bd cI cL cZ)
    {i : Nat} (hi : i + 6 ≤ L) {cells slots : Nat} (hce : cells ≤ room_1.cells) (hsl : slots ≤ room_1.slots) {Q : State → Prop} {H : Heap} {locs : List Loc} (hI : lw_Inv i s D ad bd cI cL cZ H locs) {ls : Array Slot} (hl : lv_has ls 4 [(0, .ref b), (1, .ref (ad 0)), (2, .ref (bd 0)), (3, .int (nI i))])
    (kk : ∀ (H : Heap) (locs : List Loc), lw_Inv (i + 6) s D ad bd cI cL cZ H locs → W p l e room_1 s m #[Value.ref b] below meth c H locs cells slots Q (F0 m 961 ls [])) : W p l e room_1 s m #[Value.ref b] below meth c H locs cells slots Q (F0 m 565 ls []) := by
  obtain ⟨hx, hb, hr, hml, hown, hts, hX9, hbl, hlocks, hgv⟩ := C0
  have hown : s.vm.findClass RL = some m.cls := hown
  have hbA : ¬ (fun q : Nat => s.heap.size ≤ q) b := Nat.not_le.mpr hbl
  obtain ⟨hK2, hK3, hN, hDc, hDr, hAc, hAr, hdis⟩ := hF
  obtain ⟨fi, fl, ai, al, gi, gl, bi, bl, na, nr, na2, nr2, hk, hk2, hR, hPc, hPr, hS⟩ := hI
  obtain ⟨ln, hln, hlen⟩ := hk.2.2.2.2.1
  obtain ⟨ln2, hln2, hlen2⟩ := hk2.1.2.2.2.2.1
  obtain ⟨nt, hnt10, hnt⟩ := hk2.1.2.2.2.2.2.2
  obtain ⟨F9, hF9⟩ : ∃ F, 1048576 ≤ F := ⟨_, Nat.le_refl _⟩
  have hX : ln ≤ 10 ∧ fi 5 = nI ln ∧ ln2 ≤ 10 ∧ (gi 2 = nI ln2 ∨ gi 2 = -1) ∧ nt ≤ 10 ∧ gi 5 = nI nt ∧ 1048576 ≤ F9 := ⟨hln, hlen, hln2, hlen2, hnt10, hnt, hF9⟩
  have hk0 := hk
  have hk20 := hk2
  have hR0 := hR
  refine lv_aload_n hx hb dL_law_565 rfl (lv_at hl 1 rfl) ?_
  refine lv_aload_n hx hb dL_law_566 rfl (lv_at hl 0 rfl) ?_
  refine lv_iload_n hx hb dL_law_567 rfl (lv_at hl 3 rfl) ?_
  refine lv_iconst (v := 1) hx hb dL_law_568 (by decide) ?_
  refine lv_iadd hx hb dL_law_569 ?_
  refine am_topi (y := nI (i + 1)) (nI_add i 1) ?_
  refine va_sld hx hb hX9 hbl hbA hS (i := (nI (i + 1))) (vp_in_nI (by omega) (by omega)) dL_law_570 ?_
  refine am_topi (y := xs (i + 1)) (by rw [nI_clamp (by omega)]) ?_
  refine lv_aload_n hx hb dL_law_571 rfl (lv_at hl 0 rfl) ?_
  refine lv_iload_n hx hb dL_law_572 rfl (lv_at hl 3 rfl) ?_
  refine lv_iconst (v := 2) hx hb dL_law_573 (by decide) ?_
  refine lv_iadd hx hb dL_law_574 ?_
  refine am_topi (y := nI (i + 2)) (nI_add i 2) ?_
  refine va_sld hx hb hX9 hbl hbA hS (i := (nI (i + 2))) (vp_in_nI (by omega) (by omega)) dL_law_575 ?_
  refine am_topi (y := xs (i + 2)) (by rw [nI_clamp (by omega)]) ?_
  refine lv_i2l (v := (xs (i + 2)).toInt64) hx hb dL_law_576 rfl ?_
  refine lv_bipush (v := 32) hx hb dL_law_577 (by decide) ?_
  refine lv_lshl (v := ((xs (i + 2)).toInt64) <<< ((32 : Int32).toInt64 &&& 63)) hx hb dL_law_579 rfl ?_
  refine lv_aload_n hx hb dL_law_580 rfl (lv_at hl 0 rfl) ?_
  refine lv_iload_n hx hb dL_law_581 rfl (lv_at hl 3 rfl) ?_
  refine lv_iconst (v := 3) hx hb dL_law_582 (by decide) ?_
  refine lv_iadd hx hb dL_law_583 ?_
  refine am_topi (y := nI (i + 3)) (nI_add i 3) ?_
  refine va_sld hx hb hX9 hbl hbA hS (i := (nI (i + 3))) (vp_in_nI (by omega) (by omega)) dL_law_584 ?_
  refine am_topi (y := xs (i + 3)) (by rw [nI_clamp (by omega)]) ?_
  refine lv_i2l (v := (xs (i + 3)).toInt64) hx hb dL_law_585 rfl ?_
  refine lv_ldc2 (v := 4294967295) hx hb hown (lw_ht hts 640 _ rfl) dL_law_586 ?_
  refine lv_land hx hb dL_law_589 ?_
  refine lv_lor hx hb dL_law_590 ?_
  refine lv_aload_n hx hb dL_law_591 rfl (lv_at hl 0 rfl) ?_
  refine lv_iload_n hx hb dL_law_592 rfl (lv_at hl 3 rfl) ?_
  refine lv_iconst (v := 4) hx hb dL_law_593 (by decide) ?_
  refine lv_iadd hx hb dL_law_594 ?_
  refine am_topi (y := nI (i + 4)) (nI_add i 4) ?_
  refine va_sld hx hb hX9 hbl hbA hS (i := (nI (i + 4))) (vp_in_nI (by omega) (by omega)) dL_law_595 ?_
  refine am_topi (y := xs (i + 4)) (by rw [nI_clamp (by omega)]) ?_
  refine lv_i2l (v := (xs (i + 4)).toInt64) hx hb dL_law_596 rfl ?_
  refine lv_bipush (v := 32) hx hb dL_law_597 (by decide) ?_
  refine lv_lshl (v := ((xs (i + 4)).toInt64) <<< ((32 : Int32).toInt64 &&& 63)) hx hb dL_law_599 rfl ?_
  refine lv_aload_n hx hb dL_law_600 rfl (lv_at hl 0 rfl) ?_
  refine lv_iload_n hx hb dL_law_601 rfl (lv_at hl 3 rfl) ?_
  refine lv_iconst (v := 5) hx hb dL_law_602 (by decide) ?_
  refine lv_iadd hx hb dL_law_603 ?_
  refine am_topi (y := nI (i + 5)) (nI_add i 5) ?_
  refine va_sld hx hb hX9 hbl hbA hS (i := (nI (i + 5))) (vp_in_nI (by omega) (by omega)) dL_law_604 ?_
  refine am_topi (y := xs (i + 5)) (by rw [nI_clamp (by omega)]) ?_
  refine lv_i2l (v := (xs (i + 5)).toInt64) hx hb dL_law_605 rfl ?_
  refine lv_ldc2 (v := 4294967295) hx hb hown (lw_ht hts 640 _ rfl) dL_law_606 ?_
  refine lv_land hx hb dL_law_609 ?_
  refine lv_lor hx hb dL_law_610 ?_
  refine lw_callMi (va_runV (As := [.int (xs (i + 1)), .long ((((xs (i + 2)).toInt64) <<< ((32 : Int32).toInt64 &&& 63)) ||| (((xs (i + 3)).toInt64) &&& 4294967295)), .long ((((xs (i + 4)).toInt64) <<< ((32 : Int32).toInt64 &&& 63)) ||| (((xs (i + 5)).toInt64) &&& 4294967295))]) (rest := []) ⟨hx, hb, hml, hown, hts⟩ (c_X0_sure l D ad cI cL fi fl ai al (lw_Ac ad) (xs (i + 1)) ((((xs (i + 2)).toInt64) <<< ((32 : Int32).toInt64 &&& 63)) ||| (((xs (i + 3)).toInt64) &&& 4294967295)) ((((xs (i + 4)).toInt64) <<< ((32 : Int32).toInt64 &&& 63)) ||| (((xs (i + 5)).toInt64) &&& 4294967295)) ) (cwV 3 hts (lw_gV (am_in 246 rfl) (am_in 247 rfl) (am_in 248 rfl) (am_in 29 rfl) (am_in 249 rfl)) rfl rfl rfl (by decide +kernel) ⟨Nat.le_of_ble_eq_true rfl, Nat.le_of_ble_eq_true rfl⟩) (am_preVM 0 0 rfl rfl rfl hPc hK2 hN (hDc _ _ _ _)) rfl rfl hl.1 rfl (lv_room (Nat.le_of_ble_eq_true rfl)) dL_law_611 ⟨hce, hsl⟩) hS hAc hPr (lw_dis (hDr _ _ _ _) (fun q h g => hdis q g h)) (fun H locs hPc hPr hS => ?_)
  obtain ⟨na9, nr9, hk⟩ := ck_sure (fl := fl) (al := al) (xs (i + 1)) ((((xs (i + 2)).toInt64) <<< ((32 : Int32).toInt64 &&& 63)) ||| (((xs (i + 3)).toInt64) &&& 4294967295)) ((((xs (i + 4)).toInt64) <<< ((32 : Int32).toInt64 &&& 63)) ||| (((xs (i + 5)).toInt64) &&& 4294967295)) hk
  refine lv_pop hx hb dL_law_614 rfl ?_
  refine lv_aload_n hx hb dL_law_615 rfl (lv_at hl 2 rfl) ?_
  refine lv_aload_n hx hb dL_law_616 rfl (lv_at hl 0 rfl) ?_
  refine lv_iload_n hx hb dL_law_617 rfl (lv_at hl 3 rfl) ?_
  refine lv_iconst (v := 1) hx hb dL_law_618 (by decide) ?_
  refine lv_iadd hx hb dL_law_619 ?_
  refine am_topi (y := nI (i + 1)) (nI_add i 1) ?_
  refine va_sld hx hb hX9 hbl hbA hS (i := (nI (i + 1))) (vp_in_nI (by omega) (by omega)) dL_law_620 ?_
  refine am_topi (y := xs (i + 1)) (by rw [nI_clamp (by omega)]) ?_
  refine lv_aload_n hx hb dL_law_621 rfl (lv_at hl 0 rfl) ?_
  refine lv_iload_n hx hb dL_law_622 rfl (lv_at hl 3 rfl) ?_
  refine lv_iconst (v := 2) hx hb dL_law_623 (by decide) ?_
  refine lv_iadd hx hb dL_law_624 ?_
  refine am_topi (y := nI (i + 2)) (nI_add i 2) ?_
  refine va_sld hx hb hX9 hbl hbA hS (i := (nI (i + 2))) (vp_in_nI (by omega) (by omega)) dL_law_625 ?_
  refine am_topi (y := xs (i + 2)) (by rw [nI_clamp (by omega)]) ?_
  refine lv_i2l (v := (xs (i + 2)).toInt64) hx hb dL_law_626 rfl ?_
  refine lv_bipush (v := 32) hx hb dL_law_627 (by decide) ?_
  refine lv_lshl (v := ((xs (i + 2)).toInt64) <<< ((32 : Int32).toInt64 &&& 63)) hx hb dL_law_629 rfl ?_
  refine lv_aload_n hx hb dL_law_630 rfl (lv_at hl 0 rfl) ?_
  refine lv_iload_n hx hb dL_law_631 rfl (lv_at hl 3 rfl) ?_
  refine lv_iconst (v := 3) hx hb dL_law_632 (by decide) ?_
  refine lv_iadd hx hb dL_law_633 ?_
  refine am_topi (y := nI (i + 3)) (nI_add i 3) ?_
  refine va_sld hx hb hX9 hbl hbA hS (i := (nI (i + 3))) (vp_in_nI (by omega) (by omega)) dL_law_634 ?_
  refine am_topi (y := xs (i + 3)) (by rw [nI_clamp (by omega)]) ?_
  refine lv_i2l (v := (xs (i + 3)).toInt64) hx hb dL_law_635 rfl ?_
  refine lv_ldc2 (v := 4294967295) hx hb hown (lw_ht hts 640 _ rfl) dL_law_636 ?_
  refine lv_land hx hb dL_law_639 ?_
  refine lv_lor hx hb dL_law_640 ?_
  refine lv_aload_n hx hb dL_law_641 rfl (lv_at hl 0 rfl) ?_
  refine lv_iload_n hx hb dL_law_642 rfl (lv_at hl 3 rfl) ?_
  refine lv_iconst (v := 4) hx hb dL_law_643 (by decide) ?_
  refine lv_iadd hx hb dL_law_644 ?_
  refine am_topi (y := nI (i + 4)) (nI_add i 4) ?_
  refine va_sld hx hb hX9 hbl hbA hS (i := (nI (i + 4))) (vp_in_nI (by omega) (by omega)) dL_law_645 ?_
  refine am_topi (y := xs (i + 4)) (by rw [nI_clamp (by omega)]) ?_
  refine lv_i2l (v := (xs (i + 4)).toInt64) hx hb dL_law_646 rfl ?_
  refine lv_bipush (v := 32) hx hb dL_law_647 (by decide) ?_
  refine lv_lshl (v := ((xs (i + 4)).toInt64) <<< ((32 : Int32).toInt64 &&& 63)) hx hb dL_law_649 rfl ?_
  refine lv_aload_n hx hb dL_law_650 rfl (lv_at hl 0 rfl) ?_
  refine lv_iload_n hx hb dL_law_651 rfl (lv_at hl 3 rfl) ?_
  refine lv_iconst (v := 5) hx hb dL_law_652 (by decide) ?_
  refine lv_iadd hx hb dL_law_653 ?_
  refine am_topi (y := nI (i + 5)) (nI_add i 5) ?_
  refine va_sld hx hb hX9 hbl hbA hS (i := (nI (i + 5))) (vp_in_nI (by omega) (by omega)) dL_law_654 ?_
  refine am_topi (y := xs (i + 5)) (by rw [nI_clamp (by omega)]) ?_
  refine lv_i2l (v := (xs (i + 5)).toInt64) hx hb dL_law_655 rfl ?_
  refine lv_ldc2 (v := 4294967295) hx hb hown (lw_ht hts 640 _ rfl) dL_law_656 ?_
  refine lv_land hx hb dL_law_659 ?_
  refine lv_lor hx hb dL_law_660 ?_
  refine lw_callMi (va_runV (As := [.int (xs (i + 1)), .long ((((xs (i + 2)).toInt64) <<< ((32 : Int32).toInt64 &&& 63)) ||| (((xs (i + 3)).toInt64) &&& 4294967295)), .long ((((xs (i + 4)).toInt64) <<< ((32 : Int32).toInt64 &&& 63)) ||| (((xs (i + 5)).toInt64) &&& 4294967295))]) (rest := []) ⟨hx, hb, hml, hown, hts⟩ (c_X5_sure l D bd cI cL cZ gi gl bi bl (lw_Ar bd) (xs (i + 1)) ((((xs (i + 2)).toInt64) <<< ((32 : Int32).toInt64 &&& 63)) ||| (((xs (i + 3)).toInt64) &&& 4294967295)) ((((xs (i + 4)).toInt64) <<< ((32 : Int32).toInt64 &&& 63)) ||| (((xs (i + 5)).toInt64) &&& 4294967295)) ) (cwV 3 hts (lw_gV (am_in 542 rfl) (am_in 543 rfl) (am_in 544 rfl) (am_in 35 rfl) (am_in 545 rfl)) rfl rfl rfl (by decide +kernel) ⟨Nat.le_of_ble_eq_true rfl, Nat.le_of_ble_eq_true rfl⟩) (am_preVM 5 0 rfl rfl rfl hPr hK3 hN (hDr _ _ _ _)) rfl rfl hl.1 rfl (lv_room (Nat.le_of_ble_eq_true rfl)) dL_law_661 ⟨hce, hsl⟩) hS hAr hPc (lw_dis (hDc _ _ _ _) hdis) (fun H locs hPr hPc hS => ?_)
  obtain ⟨na8, nr8, hk2⟩ := rk_sure (xs (i + 1)) ((((xs (i + 2)).toInt64) <<< ((32 : Int32).toInt64 &&& 63)) ||| (((xs (i + 3)).toInt64) &&& 4294967295)) ((((xs (i + 4)).toInt64) <<< ((32 : Int32).toInt64 &&& 63)) ||| (((xs (i + 5)).toInt64) &&& 4294967295)) hk2
  refine lv_pop hx hb dL_law_664 rfl ?_
  have hR := lr_sure (xs (i + 1)) ((((xs (i + 2)).toInt64) <<< ((32 : Int32).toInt64 &&& 63)) ||| (((xs (i + 3)).toInt64) &&& 4294967295)) ((((xs (i + 4)).toInt64) <<< ((32 : Int32).toInt64 &&& 63)) ||| (((xs (i + 5)).toInt64) &&& 4294967295)) hk0 hk20 hR0 hX
  refine lv_goto (tgt := 961) hx hb dL_law_665 (by decide) ?_
  exact kk _ _ ⟨_, _, _, _, _, _, _, _, _, _, _, _, hk, hk2, hR, hPc, hPr, hS⟩
set_option maxHeartbeats 4000000 in
set_option maxRecDepth 100000 in
theorem lc_9 {p : Program} {l : Launch} {e : Env} {s : State} {m : MethodId} {below : List Frame} {meth : Method} {c : Code} {b L : Nat} {xs : Nat → Int32} (hL : L ≤ 3072) (C0 : lw_At p s m meth c b L xs) {D : va_G} {ad bd : Nat → Nat} {cI cL cZ : ClassId} (hF : lw_Fix s D ad bd cI cL cZ)
    {i : Nat} (hi : i + 6 ≤ L) {cells slots : Nat} (hce : cells ≤ room_1.cells) (hsl : slots ≤ room_1.slots) {Q : State → Prop} {H : Heap} {locs : List Loc} (hI : lw_Inv i s D ad bd cI cL cZ H locs) {ls : Array Slot} (hl : lv_has ls 4 [(0, .ref b), (1, .ref (ad 0)), (2, .ref (bd 0)), (3, .int (nI i))])
    (kk : ∀ (H : Heap) (locs : List Loc), lw_Inv (i + 6) s D ad bd cI cL cZ H locs → W p l e room_1 s m #[Value.ref b] below meth c H locs cells slots Q (F0 m 961 ls [])) : W p l e room_1 s m #[Value.ref b] below meth c H locs cells slots Q (F0 m 681 ls []) := by
  obtain ⟨hx, hb, hr, hml, hown, hts, hX9, hbl, hlocks, hgv⟩ := C0
  have hown : s.vm.findClass RL = some m.cls := hown
  have hbA : ¬ (fun q : Nat => s.heap.size ≤ q) b := Nat.not_le.mpr hbl
  obtain ⟨hK2, hK3, hN, hDc, hDr, hAc, hAr, hdis⟩ := hF
  obtain ⟨fi, fl, ai, al, gi, gl, bi, bl, na, nr, na2, nr2, hk, hk2, hR, hPc, hPr, hS⟩ := hI
  obtain ⟨ln, hln, hlen⟩ := hk.2.2.2.2.1
  obtain ⟨ln2, hln2, hlen2⟩ := hk2.1.2.2.2.2.1
  obtain ⟨nt, hnt10, hnt⟩ := hk2.1.2.2.2.2.2.2
  obtain ⟨F9, hF9⟩ : ∃ F, 1048576 ≤ F := ⟨_, Nat.le_refl _⟩
  have hX : ln ≤ 10 ∧ fi 5 = nI ln ∧ ln2 ≤ 10 ∧ (gi 2 = nI ln2 ∨ gi 2 = -1) ∧ nt ≤ 10 ∧ gi 5 = nI nt ∧ 1048576 ≤ F9 := ⟨hln, hlen, hln2, hlen2, hnt10, hnt, hF9⟩
  have hk0 := hk
  have hk20 := hk2
  have hR0 := hR
  refine lv_aload_n hx hb dL_law_681 rfl (lv_at hl 1 rfl) ?_
  refine lv_aload_n hx hb dL_law_682 rfl (lv_at hl 0 rfl) ?_
  refine lv_iload_n hx hb dL_law_683 rfl (lv_at hl 3 rfl) ?_
  refine lv_iconst (v := 1) hx hb dL_law_684 (by decide) ?_
  refine lv_iadd hx hb dL_law_685 ?_
  refine am_topi (y := nI (i + 1)) (nI_add i 1) ?_
  refine va_sld hx hb hX9 hbl hbA hS (i := (nI (i + 1))) (vp_in_nI (by omega) (by omega)) dL_law_686 ?_
  refine am_topi (y := xs (i + 1)) (by rw [nI_clamp (by omega)]) ?_
  refine lv_i2l (v := (xs (i + 1)).toInt64) hx hb dL_law_687 rfl ?_
  refine lv_bipush (v := 32) hx hb dL_law_688 (by decide) ?_
  refine lv_lshl (v := ((xs (i + 1)).toInt64) <<< ((32 : Int32).toInt64 &&& 63)) hx hb dL_law_690 rfl ?_
  refine lv_aload_n hx hb dL_law_691 rfl (lv_at hl 0 rfl) ?_
  refine lv_iload_n hx hb dL_law_692 rfl (lv_at hl 3 rfl) ?_
  refine lv_iconst (v := 2) hx hb dL_law_693 (by decide) ?_
  refine lv_iadd hx hb dL_law_694 ?_
  refine am_topi (y := nI (i + 2)) (nI_add i 2) ?_
  refine va_sld hx hb hX9 hbl hbA hS (i := (nI (i + 2))) (vp_in_nI (by omega) (by omega)) dL_law_695 ?_
  refine am_topi (y := xs (i + 2)) (by rw [nI_clamp (by omega)]) ?_
  refine lv_i2l (v := (xs (i + 2)).toInt64) hx hb dL_law_696 rfl ?_
  refine lv_ldc2 (v := 4294967295) hx hb hown (lw_ht hts 640 _ rfl) dL_law_697 ?_
  refine lv_land hx hb dL_law_700 ?_
  refine lv_lor hx hb dL_law_701 ?_
  refine lw_callMi (va_runV (As := [.long ((((xs (i + 1)).toInt64) <<< ((32 : Int32).toInt64 &&& 63)) ||| (((xs (i + 2)).toInt64) &&& 4294967295))]) (rest := []) ⟨hx, hb, hml, hown, hts⟩ (c_X0_run l D ad cI cL fi fl ai al (lw_Ac ad) ((((xs (i + 1)).toInt64) <<< ((32 : Int32).toInt64 &&& 63)) ||| (((xs (i + 2)).toInt64) &&& 4294967295)) na nr hk.1 hk.2.1 hk.2.2.1 hk.2.2.2.1 hk.2.2.2.2.2.1 hk.2.2.2.2.2.2) (cwV 1 hts (lw_gV (am_in 277 rfl) (am_in 278 rfl) (am_in 279 rfl) (am_in 29 rfl) (am_in 280 rfl)) rfl rfl rfl (by decide +kernel) ⟨Nat.le_of_ble_eq_true rfl, Nat.le_of_ble_eq_true rfl⟩) (am_preVM 0 0 rfl rfl rfl hPc hK2 hN (hDc _ _ _ _)) rfl rfl hl.1 rfl (lv_room (Nat.le_of_ble_eq_true rfl)) dL_law_702 ⟨hce, hsl⟩) hS hAc hPr (lw_dis (hDr _ _ _ _) (fun q h g => hdis q g h)) (fun H locs hPc hPr hS => ?_)
  obtain ⟨na9, nr9, hk⟩ := ck_run (fl := fl) (al := al) ((((xs (i + 1)).toInt64) <<< ((32 : Int32).toInt64 &&& 63)) ||| (((xs (i + 2)).toInt64) &&& 4294967295)) hk
  refine lv_pop hx hb dL_law_705 rfl ?_
  refine lv_aload_n hx hb dL_law_706 rfl (lv_at hl 2 rfl) ?_
  refine lv_aload_n hx hb dL_law_707 rfl (lv_at hl 0 rfl) ?_
  refine lv_iload_n hx hb dL_law_708 rfl (lv_at hl 3 rfl) ?_
  refine lv_iconst (v := 1) hx hb dL_law_709 (by decide) ?_
  refine lv_iadd hx hb dL_law_710 ?_
  refine am_topi (y := nI (i + 1)) (nI_add i 1) ?_
  refine va_sld hx hb hX9 hbl hbA hS (i := (nI (i + 1))) (vp_in_nI (by omega) (by omega)) dL_law_711 ?_
  refine am_topi (y := xs (i + 1)) (by rw [nI_clamp (by omega)]) ?_
  refine lv_i2l (v := (xs (i + 1)).toInt64) hx hb dL_law_712 rfl ?_
  refine lv_bipush (v := 32) hx hb dL_law_713 (by decide) ?_
  refine lv_lshl (v := ((xs (i + 1)).toInt64) <<< ((32 : Int32).toInt64 &&& 63)) hx hb dL_law_715 rfl ?_
  refine lv_aload_n hx hb dL_law_716 rfl (lv_at hl 0 rfl) ?_
  refine lv_iload_n hx hb dL_law_717 rfl (lv_at hl 3 rfl) ?_
  refine lv_iconst (v := 2) hx hb dL_law_718 (by decide) ?_
  refine lv_iadd hx hb dL_law_719 ?_
  refine am_topi (y := nI (i + 2)) (nI_add i 2) ?_
  refine va_sld hx hb hX9 hbl hbA hS (i := (nI (i + 2))) (vp_in_nI (by omega) (by omega)) dL_law_720 ?_
  refine am_topi (y := xs (i + 2)) (by rw [nI_clamp (by omega)]) ?_
  refine lv_i2l (v := (xs (i + 2)).toInt64) hx hb dL_law_721 rfl ?_
  refine lv_ldc2 (v := 4294967295) hx hb hown (lw_ht hts 640 _ rfl) dL_law_722 ?_
  refine lv_land hx hb dL_law_725 ?_
  refine lv_lor hx hb dL_law_726 ?_
  refine lw_callMi (va_runV (As := [.long ((((xs (i + 1)).toInt64) <<< ((32 : Int32).toInt64 &&& 63)) ||| (((xs (i + 2)).toInt64) &&& 4294967295))]) (rest := []) ⟨hx, hb, hml, hown, hts⟩ (c_X5_run l D bd cI cL cZ gi gl bi bl (lw_Ar bd) ((((xs (i + 1)).toInt64) <<< ((32 : Int32).toInt64 &&& 63)) ||| (((xs (i + 2)).toInt64) &&& 4294967295)) F9 na2 nr2 hk2.1.1 hk2.1.2.1 hk2.1.2.2.1 hk2.1.2.2.2.1 (rc_K_be hk2) hk2.2.1.1 hk2.2.1.2.1 (rc_K_sp hk2) (rc_K_va hk2 _ _) (by omega)) (cwV 1 hts (lw_gV (am_in 557 rfl) (am_in 558 rfl) (am_in 559 rfl) (am_in 35 rfl) (am_in 560 rfl)) rfl rfl rfl (by decide +kernel) ⟨Nat.le_of_ble_eq_true rfl, Nat.le_of_ble_eq_true rfl⟩) (am_preVM 5 0 rfl rfl rfl hPr hK3 hN (hDr _ _ _ _)) rfl rfl hl.1 rfl (lv_room (Nat.le_of_ble_eq_true rfl)) dL_law_727 ⟨hce, hsl⟩) hS hAr hPc (lw_dis (hDc _ _ _ _) hdis) (fun H locs hPr hPc hS => ?_)
  obtain ⟨na8, nr8, hk2⟩ := rk_run ((((xs (i + 1)).toInt64) <<< ((32 : Int32).toInt64 &&& 63)) ||| (((xs (i + 2)).toInt64) &&& 4294967295)) F9 hk2
  refine lv_pop hx hb dL_law_730 rfl ?_
  have hR := lr_run ((((xs (i + 1)).toInt64) <<< ((32 : Int32).toInt64 &&& 63)) ||| (((xs (i + 2)).toInt64) &&& 4294967295)) hk0 hk20 hR0 hX
  refine lv_goto (tgt := 961) hx hb dL_law_731 (by decide) ?_
  exact kk _ _ ⟨_, _, _, _, _, _, _, _, _, _, _, _, hk, hk2, hR, hPc, hPr, hS⟩
set_option maxHeartbeats 4000000 in
set_option maxRecDepth 100000 in
theorem lc_11 {p : Program} {l : Launch} {e : Env} {s : State} {m : MethodId} {below : List Frame} {meth : Method} {c : Code} {b L : Nat} {xs : Nat → Int32} (hL : L ≤ 3072) (C0 : lw_At p s m meth c b L xs) {D : va_G} {ad bd : Nat → Nat} {cI cL cZ : ClassId} (hF : lw_Fix s D ad bd cI cL cZ)
    {i : Nat} (hi : i + 6 ≤ L) {cells slots : Nat} (hce : cells ≤ room_1.cells) (hsl : slots ≤ room_1.slots) {Q : State → Prop} {H : Heap} {locs : List Loc} (hI : lw_Inv i s D ad bd cI cL cZ H locs) {ls : Array Slot} (hl : lv_has ls 4 [(0, .ref b), (1, .ref (ad 0)), (2, .ref (bd 0)), (3, .int (nI i))])
    (kk : ∀ (H : Heap) (locs : List Loc), lw_Inv (i + 6) s D ad bd cI cL cZ H locs → W p l e room_1 s m #[Value.ref b] below meth c H locs cells slots Q (F0 m 961 ls [])) : W p l e room_1 s m #[Value.ref b] below meth c H locs cells slots Q (F0 m 757 ls []) := by
  obtain ⟨hx, hb, hr, hml, hown, hts, hX9, hbl, hlocks, hgv⟩ := C0
  have hown : s.vm.findClass RL = some m.cls := hown
  have hbA : ¬ (fun q : Nat => s.heap.size ≤ q) b := Nat.not_le.mpr hbl
  obtain ⟨hK2, hK3, hN, hDc, hDr, hAc, hAr, hdis⟩ := hF
  obtain ⟨fi, fl, ai, al, gi, gl, bi, bl, na, nr, na2, nr2, hk, hk2, hR, hPc, hPr, hS⟩ := hI
  obtain ⟨ln, hln, hlen⟩ := hk.2.2.2.2.1
  obtain ⟨ln2, hln2, hlen2⟩ := hk2.1.2.2.2.2.1
  obtain ⟨nt, hnt10, hnt⟩ := hk2.1.2.2.2.2.2.2
  obtain ⟨F9, hF9⟩ : ∃ F, 1048576 ≤ F := ⟨_, Nat.le_refl _⟩
  have hX : ln ≤ 10 ∧ fi 5 = nI ln ∧ ln2 ≤ 10 ∧ (gi 2 = nI ln2 ∨ gi 2 = -1) ∧ nt ≤ 10 ∧ gi 5 = nI nt ∧ 1048576 ≤ F9 := ⟨hln, hlen, hln2, hlen2, hnt10, hnt, hF9⟩
  have hk0 := hk
  have hk20 := hk2
  have hR0 := hR
  refine lv_aload_n hx hb dL_law_757 rfl (lv_at hl 1 rfl) ?_
  refine lv_aload_n hx hb dL_law_758 rfl (lv_at hl 0 rfl) ?_
  refine lv_iload_n hx hb dL_law_759 rfl (lv_at hl 3 rfl) ?_
  refine lv_iconst (v := 1) hx hb dL_law_760 (by decide) ?_
  refine lv_iadd hx hb dL_law_761 ?_
  refine am_topi (y := nI (i + 1)) (nI_add i 1) ?_
  refine va_sld hx hb hX9 hbl hbA hS (i := (nI (i + 1))) (vp_in_nI (by omega) (by omega)) dL_law_762 ?_
  refine am_topi (y := xs (i + 1)) (by rw [nI_clamp (by omega)]) ?_
  refine am_callRi (W.runV (As := [.int (xs (i + 1))]) (rest := []) ⟨hx, hb, hml, hown, hts⟩ (c_X0_stops l D ad cI cL fi fl ai al (xs (i + 1)) ) (cwV 1 hts (lw_gV (am_in 355 rfl) (am_in 356 rfl) (am_in 357 rfl) (am_in 29 rfl) (am_in 358 rfl)) rfl rfl rfl (by decide +kernel) ⟨Nat.le_of_ble_eq_true rfl, Nat.le_of_ble_eq_true rfl⟩) (am_preVR 0 0 rfl rfl rfl hPc hK2 hN) rfl rfl hl.1 rfl (lv_room (Nat.le_of_ble_eq_true rfl)) dL_law_763 ⟨hce, hsl⟩) ?_
  refine lv_pop hx hb dL_law_766 rfl ?_
  refine lv_aload_n hx hb dL_law_767 rfl (lv_at hl 2 rfl) ?_
  refine lv_aload_n hx hb dL_law_768 rfl (lv_at hl 0 rfl) ?_
  refine lv_iload_n hx hb dL_law_769 rfl (lv_at hl 3 rfl) ?_
  refine lv_iconst (v := 1) hx hb dL_law_770 (by decide) ?_
  refine lv_iadd hx hb dL_law_771 ?_
  refine am_topi (y := nI (i + 1)) (nI_add i 1) ?_
  refine va_sld hx hb hX9 hbl hbA hS (i := (nI (i + 1))) (vp_in_nI (by omega) (by omega)) dL_law_772 ?_
  refine am_topi (y := xs (i + 1)) (by rw [nI_clamp (by omega)]) ?_
  refine am_callRi (W.runV (As := [.int (xs (i + 1))]) (rest := []) ⟨hx, hb, hml, hown, hts⟩ (c_X5_stops l D bd cI cL cZ gi gl bi bl (xs (i + 1)) ) (cwV 1 hts (lw_gV (am_in 592 rfl) (am_in 593 rfl) (am_in 594 rfl) (am_in 35 rfl) (am_in 595 rfl)) rfl rfl rfl (by decide +kernel) ⟨Nat.le_of_ble_eq_true rfl, Nat.le_of_ble_eq_true rfl⟩) (am_preVR 5 0 rfl rfl rfl hPr hK3 hN) rfl rfl hl.1 rfl (lv_room (Nat.le_of_ble_eq_true rfl)) dL_law_773 ⟨hce, hsl⟩) ?_
  refine lv_pop hx hb dL_law_776 rfl ?_
  refine lv_goto (tgt := 961) hx hb dL_law_777 (by decide) ?_
  exact kk _ _ ⟨_, _, _, _, _, _, _, _, _, _, _, _, hk, hk2, hR, hPc, hPr, hS⟩
set_option maxHeartbeats 4000000 in
set_option maxRecDepth 100000 in
theorem lc_12 {p : Program} {l : Launch} {e : Env} {s : State} {m : MethodId} {below : List Frame} {meth : Method} {c : Code} {b L : Nat} {xs : Nat → Int32} (hL : L ≤ 3072) (C0 : lw_At p s m meth c b L xs) {D : va_G} {ad bd : Nat → Nat} {cI cL cZ : ClassId} (hF : lw_Fix s D ad bd cI cL cZ)
    {i : Nat} (hi : i + 6 ≤ L) {cells slots : Nat} (hce : cells ≤ room_1.cells) (hsl : slots ≤ room_1.slots) {Q : State → Prop} {H : Heap} {locs : List Loc} (hI : lw_Inv i s D ad bd cI cL cZ H locs) {ls : Array Slot} (hl : lv_has ls 4 [(0, .ref b), (1, .ref (ad 0)), (2, .ref (bd 0)), (3, .int (nI i))])
    (kk : ∀ (H : Heap) (locs : List Loc), lw_Inv (i + 6) s D ad bd cI cL cZ H locs → W p l e room_1 s m #[Value.ref b] below meth c H locs cells slots Q (F0 m 961 ls [])) : W p l e room_1 s m #[Value.ref b] below meth c H locs cells slots Q (F0 m 780 ls []) := by
  obtain ⟨hx, hb, hr, hml, hown, hts, hX9, hbl, hlocks, hgv⟩ := C0
  have hown : s.vm.findClass RL = some m.cls := hown
  have hbA : ¬ (fun q : Nat => s.heap.size ≤ q) b := Nat.not_le.mpr hbl
  obtain ⟨hK2, hK3, hN, hDc, hDr, hAc, hAr, hdis⟩ := hF
  obtain ⟨fi, fl, ai, al, gi, gl, bi, bl, na, nr, na2, nr2, hk, hk2, hR, hPc, hPr, hS⟩ := hI
  obtain ⟨ln, hln, hlen⟩ := hk.2.2.2.2.1
  obtain ⟨ln2, hln2, hlen2⟩ := hk2.1.2.2.2.2.1
  obtain ⟨nt, hnt10, hnt⟩ := hk2.1.2.2.2.2.2.2
  obtain ⟨F9, hF9⟩ : ∃ F, 1048576 ≤ F := ⟨_, Nat.le_refl _⟩
  have hX : ln ≤ 10 ∧ fi 5 = nI ln ∧ ln2 ≤ 10 ∧ (gi 2 = nI ln2 ∨ gi 2 = -1) ∧ nt ≤ 10 ∧ gi 5 = nI nt ∧ 1048576 ≤ F9 := ⟨hln, hlen, hln2, hlen2, hnt10, hnt, hF9⟩
  have hk0 := hk
  have hk20 := hk2
  have hR0 := hR
  refine lv_aload_n hx hb dL_law_780 rfl (lv_at hl 1 rfl) ?_
  refine lv_aload_n hx hb dL_law_781 rfl (lv_at hl 0 rfl) ?_
  refine lv_iload_n hx hb dL_law_782 rfl (lv_at hl 3 rfl) ?_
  refine lv_iconst (v := 1) hx hb dL_law_783 (by decide) ?_
  refine lv_iadd hx hb dL_law_784 ?_
  refine am_topi (y := nI (i + 1)) (nI_add i 1) ?_
  refine va_sld hx hb hX9 hbl hbA hS (i := (nI (i + 1))) (vp_in_nI (by omega) (by omega)) dL_law_785 ?_
  refine am_topi (y := xs (i + 1)) (by rw [nI_clamp (by omega)]) ?_
  refine am_callRi (W.runV (As := [.int (xs (i + 1))]) (rest := []) ⟨hx, hb, hml, hown, hts⟩ (c_X0_other l D ad cI cL fi fl ai al (xs (i + 1)) ) (cwV 1 hts (lw_gV (am_in 362 rfl) (am_in 363 rfl) (am_in 364 rfl) (am_in 29 rfl) (am_in 365 rfl)) rfl rfl rfl (by decide +kernel) ⟨Nat.le_of_ble_eq_true rfl, Nat.le_of_ble_eq_true rfl⟩) (am_preVR 0 0 rfl rfl rfl hPc hK2 hN) rfl rfl hl.1 rfl (lv_room (Nat.le_of_ble_eq_true rfl)) dL_law_786 ⟨hce, hsl⟩) ?_
  refine lv_pop hx hb dL_law_789 rfl ?_
  refine lv_aload_n hx hb dL_law_790 rfl (lv_at hl 2 rfl) ?_
  refine lv_aload_n hx hb dL_law_791 rfl (lv_at hl 0 rfl) ?_
  refine lv_iload_n hx hb dL_law_792 rfl (lv_at hl 3 rfl) ?_
  refine lv_iconst (v := 1) hx hb dL_law_793 (by decide) ?_
  refine lv_iadd hx hb dL_law_794 ?_
  refine am_topi (y := nI (i + 1)) (nI_add i 1) ?_
  refine va_sld hx hb hX9 hbl hbA hS (i := (nI (i + 1))) (vp_in_nI (by omega) (by omega)) dL_law_795 ?_
  refine am_topi (y := xs (i + 1)) (by rw [nI_clamp (by omega)]) ?_
  refine am_callRi (W.runV (As := [.int (xs (i + 1))]) (rest := []) ⟨hx, hb, hml, hown, hts⟩ (c_X5_other l D bd cI cL cZ gi gl bi bl (xs (i + 1)) ln2 nt hlen2 hln2 hnt hnt10) (cwV 1 hts (lw_gV (am_in 596 rfl) (am_in 597 rfl) (am_in 598 rfl) (am_in 35 rfl) (am_in 599 rfl)) rfl rfl rfl (by decide +kernel) ⟨Nat.le_of_ble_eq_true rfl, Nat.le_of_ble_eq_true rfl⟩) (am_preVR 5 0 rfl rfl rfl hPr hK3 hN) rfl rfl hl.1 rfl (lv_room (Nat.le_of_ble_eq_true rfl)) dL_law_796 ⟨hce, hsl⟩) ?_
  refine lv_pop hx hb dL_law_799 rfl ?_
  refine lv_goto (tgt := 961) hx hb dL_law_800 (by decide) ?_
  exact kk _ _ ⟨_, _, _, _, _, _, _, _, _, _, _, _, hk, hk2, hR, hPc, hPr, hS⟩
set_option maxHeartbeats 4000000 in
set_option maxRecDepth 100000 in
theorem lc_13 {p : Program} {l : Launch} {e : Env} {s : State} {m : MethodId} {below : List Frame} {meth : Method} {c : Code} {b L : Nat} {xs : Nat → Int32} (hL : L ≤ 3072) (C0 : lw_At p s m meth c b L xs) {D : va_G} {ad bd : Nat → Nat} {cI cL cZ : ClassId} (hF : lw_Fix s D ad bd cI cL cZ)
    {i : Nat} (hi : i + 6 ≤ L) {cells slots : Nat} (hce : cells ≤ room_1.cells) (hsl : slots ≤ room_1.slots) {Q : State → Prop} {H : Heap} {locs : List Loc} (hI : lw_Inv i s D ad bd cI cL cZ H locs) {ls : Array Slot} (hl : lv_has ls 4 [(0, .ref b), (1, .ref (ad 0)), (2, .ref (bd 0)), (3, .int (nI i))])
    (kk : ∀ (H : Heap) (locs : List Loc), lw_Inv (i + 6) s D ad bd cI cL cZ H locs → W p l e room_1 s m #[Value.ref b] below meth c H locs cells slots Q (F0 m 961 ls [])) : W p l e room_1 s m #[Value.ref b] below meth c H locs cells slots Q (F0 m 803 ls []) := by
  obtain ⟨hx, hb, hr, hml, hown, hts, hX9, hbl, hlocks, hgv⟩ := C0
  have hown : s.vm.findClass RL = some m.cls := hown
  have hbA : ¬ (fun q : Nat => s.heap.size ≤ q) b := Nat.not_le.mpr hbl
  obtain ⟨hK2, hK3, hN, hDc, hDr, hAc, hAr, hdis⟩ := hF
  obtain ⟨fi, fl, ai, al, gi, gl, bi, bl, na, nr, na2, nr2, hk, hk2, hR, hPc, hPr, hS⟩ := hI
  obtain ⟨ln, hln, hlen⟩ := hk.2.2.2.2.1
  obtain ⟨ln2, hln2, hlen2⟩ := hk2.1.2.2.2.2.1
  obtain ⟨nt, hnt10, hnt⟩ := hk2.1.2.2.2.2.2.2
  obtain ⟨F9, hF9⟩ : ∃ F, 1048576 ≤ F := ⟨_, Nat.le_refl _⟩
  have hX : ln ≤ 10 ∧ fi 5 = nI ln ∧ ln2 ≤ 10 ∧ (gi 2 = nI ln2 ∨ gi 2 = -1) ∧ nt ≤ 10 ∧ gi 5 = nI nt ∧ 1048576 ≤ F9 := ⟨hln, hlen, hln2, hlen2, hnt10, hnt, hF9⟩
  have hk0 := hk
  have hk20 := hk2
  have hR0 := hR
  refine lv_aload_n hx hb dL_law_803 rfl (lv_at hl 1 rfl) ?_
  refine lv_aload_n hx hb dL_law_804 rfl (lv_at hl 0 rfl) ?_
  refine lv_iload_n hx hb dL_law_805 rfl (lv_at hl 3 rfl) ?_
  refine lv_iconst (v := 1) hx hb dL_law_806 (by decide) ?_
  refine lv_iadd hx hb dL_law_807 ?_
  refine am_topi (y := nI (i + 1)) (nI_add i 1) ?_
  refine va_sld hx hb hX9 hbl hbA hS (i := (nI (i + 1))) (vp_in_nI (by omega) (by omega)) dL_law_808 ?_
  refine am_topi (y := xs (i + 1)) (by rw [nI_clamp (by omega)]) ?_
  refine am_callRl (W.runV (As := [.int (xs (i + 1))]) (rest := []) ⟨hx, hb, hml, hown, hts⟩ (c_X0_gain l D ad cI cL fi fl ai al (xs (i + 1)) ) (cwV 1 hts (lw_gV (am_in 367 rfl) (am_in 368 rfl) (am_in 369 rfl) (am_in 29 rfl) (am_in 370 rfl)) rfl rfl rfl (by decide +kernel) ⟨Nat.le_of_ble_eq_true rfl, Nat.le_of_ble_eq_true rfl⟩) (am_preVR 0 0 rfl rfl rfl hPc hK2 hN) rfl rfl hl.1 rfl (lv_room (Nat.le_of_ble_eq_true rfl)) dL_law_809 ⟨hce, hsl⟩) ?_
  refine lv_pop2_2 hx hb dL_law_812 rfl ?_
  refine lv_aload_n hx hb dL_law_813 rfl (lv_at hl 2 rfl) ?_
  refine lv_aload_n hx hb dL_law_814 rfl (lv_at hl 0 rfl) ?_
  refine lv_iload_n hx hb dL_law_815 rfl (lv_at hl 3 rfl) ?_
  refine lv_iconst (v := 1) hx hb dL_law_816 (by decide) ?_
  refine lv_iadd hx hb dL_law_817 ?_
  refine am_topi (y := nI (i + 1)) (nI_add i 1) ?_
  refine va_sld hx hb hX9 hbl hbA hS (i := (nI (i + 1))) (vp_in_nI (by omega) (by omega)) dL_law_818 ?_
  refine am_topi (y := xs (i + 1)) (by rw [nI_clamp (by omega)]) ?_
  refine am_callRl (W.runV (As := [.int (xs (i + 1))]) (rest := []) ⟨hx, hb, hml, hown, hts⟩ (c_X5_gain l D bd cI cL cZ gi gl bi bl (xs (i + 1)) ) (cwV 1 hts (lw_gV (am_in 603 rfl) (am_in 604 rfl) (am_in 605 rfl) (am_in 35 rfl) (am_in 606 rfl)) rfl rfl rfl (by decide +kernel) ⟨Nat.le_of_ble_eq_true rfl, Nat.le_of_ble_eq_true rfl⟩) (am_preVR 5 0 rfl rfl rfl hPr hK3 hN) rfl rfl hl.1 rfl (lv_room (Nat.le_of_ble_eq_true rfl)) dL_law_819 ⟨hce, hsl⟩) ?_
  refine lv_pop2_2 hx hb dL_law_822 rfl ?_
  refine lv_goto (tgt := 961) hx hb dL_law_823 (by decide) ?_
  exact kk _ _ ⟨_, _, _, _, _, _, _, _, _, _, _, _, hk, hk2, hR, hPc, hPr, hS⟩
set_option maxHeartbeats 4000000 in
set_option maxRecDepth 100000 in
theorem lc_14 {p : Program} {l : Launch} {e : Env} {s : State} {m : MethodId} {below : List Frame} {meth : Method} {c : Code} {b L : Nat} {xs : Nat → Int32} (hL : L ≤ 3072) (C0 : lw_At p s m meth c b L xs) {D : va_G} {ad bd : Nat → Nat} {cI cL cZ : ClassId} (hF : lw_Fix s D ad bd cI cL cZ)
    {i : Nat} (hi : i + 6 ≤ L) {cells slots : Nat} (hce : cells ≤ room_1.cells) (hsl : slots ≤ room_1.slots) {Q : State → Prop} {H : Heap} {locs : List Loc} (hI : lw_Inv i s D ad bd cI cL cZ H locs) {ls : Array Slot} (hl : lv_has ls 4 [(0, .ref b), (1, .ref (ad 0)), (2, .ref (bd 0)), (3, .int (nI i))])
    (kk : ∀ (H : Heap) (locs : List Loc), lw_Inv (i + 6) s D ad bd cI cL cZ H locs → W p l e room_1 s m #[Value.ref b] below meth c H locs cells slots Q (F0 m 961 ls [])) : W p l e room_1 s m #[Value.ref b] below meth c H locs cells slots Q (F0 m 826 ls []) := by
  obtain ⟨hx, hb, hr, hml, hown, hts, hX9, hbl, hlocks, hgv⟩ := C0
  have hown : s.vm.findClass RL = some m.cls := hown
  have hbA : ¬ (fun q : Nat => s.heap.size ≤ q) b := Nat.not_le.mpr hbl
  obtain ⟨hK2, hK3, hN, hDc, hDr, hAc, hAr, hdis⟩ := hF
  obtain ⟨fi, fl, ai, al, gi, gl, bi, bl, na, nr, na2, nr2, hk, hk2, hR, hPc, hPr, hS⟩ := hI
  obtain ⟨ln, hln, hlen⟩ := hk.2.2.2.2.1
  obtain ⟨ln2, hln2, hlen2⟩ := hk2.1.2.2.2.2.1
  obtain ⟨nt, hnt10, hnt⟩ := hk2.1.2.2.2.2.2.2
  obtain ⟨F9, hF9⟩ : ∃ F, 1048576 ≤ F := ⟨_, Nat.le_refl _⟩
  have hX : ln ≤ 10 ∧ fi 5 = nI ln ∧ ln2 ≤ 10 ∧ (gi 2 = nI ln2 ∨ gi 2 = -1) ∧ nt ≤ 10 ∧ gi 5 = nI nt ∧ 1048576 ≤ F9 := ⟨hln, hlen, hln2, hlen2, hnt10, hnt, hF9⟩
  have hk0 := hk
  have hk20 := hk2
  have hR0 := hR
  refine lv_aload_n hx hb dL_law_826 rfl (lv_at hl 1 rfl) ?_
  refine am_callRi (W.runV (As := []) (rest := []) ⟨hx, hb, hml, hown, hts⟩ (c_X0_proved l D ad cI cL fi fl ai al  ) (cwV 0 hts (lw_gV (am_in 371 rfl) (am_in 372 rfl) (am_in 373 rfl) (am_in 29 rfl) (am_in 374 rfl)) rfl rfl rfl (by decide +kernel) ⟨Nat.le_of_ble_eq_true rfl, Nat.le_of_ble_eq_true rfl⟩) (am_preVR 0 0 rfl rfl rfl hPc hK2 hN) rfl rfl hl.1 rfl (lv_room (Nat.le_of_ble_eq_true rfl)) dL_law_827 ⟨hce, hsl⟩) ?_
  refine lv_pop hx hb dL_law_830 rfl ?_
  refine lv_aload_n hx hb dL_law_831 rfl (lv_at hl 2 rfl) ?_
  refine am_callRi (W.runV (As := []) (rest := []) ⟨hx, hb, hml, hown, hts⟩ (c_X5_proved l D bd cI cL cZ gi gl bi bl  hk2.1.2.2.2.2.2.1) (cwV 0 hts (lw_gV (am_in 607 rfl) (am_in 608 rfl) (am_in 609 rfl) (am_in 35 rfl) (am_in 610 rfl)) rfl rfl rfl (by decide +kernel) ⟨Nat.le_of_ble_eq_true rfl, Nat.le_of_ble_eq_true rfl⟩) (am_preVR 5 0 rfl rfl rfl hPr hK3 hN) rfl rfl hl.1 rfl (lv_room (Nat.le_of_ble_eq_true rfl)) dL_law_832 ⟨hce, hsl⟩) ?_
  refine lv_pop hx hb dL_law_835 rfl ?_
  refine lv_goto (tgt := 961) hx hb dL_law_836 (by decide) ?_
  exact kk _ _ ⟨_, _, _, _, _, _, _, _, _, _, _, _, hk, hk2, hR, hPc, hPr, hS⟩
set_option maxHeartbeats 4000000 in
set_option maxRecDepth 100000 in
theorem lc_15 {p : Program} {l : Launch} {e : Env} {s : State} {m : MethodId} {below : List Frame} {meth : Method} {c : Code} {b L : Nat} {xs : Nat → Int32} (hL : L ≤ 3072) (C0 : lw_At p s m meth c b L xs) {D : va_G} {ad bd : Nat → Nat} {cI cL cZ : ClassId} (hF : lw_Fix s D ad bd cI cL cZ)
    {i : Nat} (hi : i + 6 ≤ L) {cells slots : Nat} (hce : cells ≤ room_1.cells) (hsl : slots ≤ room_1.slots) {Q : State → Prop} {H : Heap} {locs : List Loc} (hI : lw_Inv i s D ad bd cI cL cZ H locs) {ls : Array Slot} (hl : lv_has ls 4 [(0, .ref b), (1, .ref (ad 0)), (2, .ref (bd 0)), (3, .int (nI i))])
    (kk : ∀ (H : Heap) (locs : List Loc), lw_Inv (i + 6) s D ad bd cI cL cZ H locs → W p l e room_1 s m #[Value.ref b] below meth c H locs cells slots Q (F0 m 961 ls [])) : W p l e room_1 s m #[Value.ref b] below meth c H locs cells slots Q (F0 m 839 ls []) := by
  obtain ⟨hx, hb, hr, hml, hown, hts, hX9, hbl, hlocks, hgv⟩ := C0
  have hown : s.vm.findClass RL = some m.cls := hown
  have hbA : ¬ (fun q : Nat => s.heap.size ≤ q) b := Nat.not_le.mpr hbl
  obtain ⟨hK2, hK3, hN, hDc, hDr, hAc, hAr, hdis⟩ := hF
  obtain ⟨fi, fl, ai, al, gi, gl, bi, bl, na, nr, na2, nr2, hk, hk2, hR, hPc, hPr, hS⟩ := hI
  obtain ⟨ln, hln, hlen⟩ := hk.2.2.2.2.1
  obtain ⟨ln2, hln2, hlen2⟩ := hk2.1.2.2.2.2.1
  obtain ⟨nt, hnt10, hnt⟩ := hk2.1.2.2.2.2.2.2
  obtain ⟨F9, hF9⟩ : ∃ F, 1048576 ≤ F := ⟨_, Nat.le_refl _⟩
  have hX : ln ≤ 10 ∧ fi 5 = nI ln ∧ ln2 ≤ 10 ∧ (gi 2 = nI ln2 ∨ gi 2 = -1) ∧ nt ≤ 10 ∧ gi 5 = nI nt ∧ 1048576 ≤ F9 := ⟨hln, hlen, hln2, hlen2, hnt10, hnt, hF9⟩
  have hk0 := hk
  have hk20 := hk2
  have hR0 := hR
  refine lv_aload_n hx hb dL_law_839 rfl (lv_at hl 1 rfl) ?_
  refine am_callRl (W.runV (As := []) (rest := []) ⟨hx, hb, hml, hown, hts⟩ (c_X0_bound l D ad cI cL fi fl ai al nr hk.2.2.1 hk.2.2.2.1) (cwV 0 hts (lw_gV (am_in 375 rfl) (am_in 376 rfl) (am_in 377 rfl) (am_in 29 rfl) (am_in 378 rfl)) rfl rfl rfl (by decide +kernel) ⟨Nat.le_of_ble_eq_true rfl, Nat.le_of_ble_eq_true rfl⟩) (am_preVR 0 0 rfl rfl rfl hPc hK2 hN) rfl rfl hl.1 rfl (lv_room (Nat.le_of_ble_eq_true rfl)) dL_law_840 ⟨hce, hsl⟩) ?_
  refine lv_pop2_2 hx hb dL_law_843 rfl ?_
  refine lv_aload_n hx hb dL_law_844 rfl (lv_at hl 2 rfl) ?_
  refine am_callRl (W.runV (As := []) (rest := []) ⟨hx, hb, hml, hown, hts⟩ (c_X5_bound l D bd cI cL cZ gi gl bi bl nr2 hk2.1.2.2.1 hk2.1.2.2.2.1 (rc_K_be hk2)) (cwV 0 hts (lw_gV (am_in 611 rfl) (am_in 612 rfl) (am_in 613 rfl) (am_in 35 rfl) (am_in 614 rfl)) rfl rfl rfl (by decide +kernel) ⟨Nat.le_of_ble_eq_true rfl, Nat.le_of_ble_eq_true rfl⟩) (am_preVR 5 0 rfl rfl rfl hPr hK3 hN) rfl rfl hl.1 rfl (lv_room (Nat.le_of_ble_eq_true rfl)) dL_law_845 ⟨hce, hsl⟩) ?_
  refine lv_pop2_2 hx hb dL_law_848 rfl ?_
  refine lv_goto (tgt := 961) hx hb dL_law_849 (by decide) ?_
  exact kk _ _ ⟨_, _, _, _, _, _, _, _, _, _, _, _, hk, hk2, hR, hPc, hPr, hS⟩
set_option maxHeartbeats 4000000 in
set_option maxRecDepth 100000 in
theorem lc_16 {p : Program} {l : Launch} {e : Env} {s : State} {m : MethodId} {below : List Frame} {meth : Method} {c : Code} {b L : Nat} {xs : Nat → Int32} (hL : L ≤ 3072) (C0 : lw_At p s m meth c b L xs) {D : va_G} {ad bd : Nat → Nat} {cI cL cZ : ClassId} (hF : lw_Fix s D ad bd cI cL cZ)
    {i : Nat} (hi : i + 6 ≤ L) {cells slots : Nat} (hce : cells ≤ room_1.cells) (hsl : slots ≤ room_1.slots) {Q : State → Prop} {H : Heap} {locs : List Loc} (hI : lw_Inv i s D ad bd cI cL cZ H locs) {ls : Array Slot} (hl : lv_has ls 4 [(0, .ref b), (1, .ref (ad 0)), (2, .ref (bd 0)), (3, .int (nI i))])
    (kk : ∀ (H : Heap) (locs : List Loc), lw_Inv (i + 6) s D ad bd cI cL cZ H locs → W p l e room_1 s m #[Value.ref b] below meth c H locs cells slots Q (F0 m 961 ls [])) : W p l e room_1 s m #[Value.ref b] below meth c H locs cells slots Q (F0 m 852 ls []) := by
  obtain ⟨hx, hb, hr, hml, hown, hts, hX9, hbl, hlocks, hgv⟩ := C0
  have hown : s.vm.findClass RL = some m.cls := hown
  have hbA : ¬ (fun q : Nat => s.heap.size ≤ q) b := Nat.not_le.mpr hbl
  obtain ⟨hK2, hK3, hN, hDc, hDr, hAc, hAr, hdis⟩ := hF
  obtain ⟨fi, fl, ai, al, gi, gl, bi, bl, na, nr, na2, nr2, hk, hk2, hR, hPc, hPr, hS⟩ := hI
  obtain ⟨ln, hln, hlen⟩ := hk.2.2.2.2.1
  obtain ⟨ln2, hln2, hlen2⟩ := hk2.1.2.2.2.2.1
  obtain ⟨nt, hnt10, hnt⟩ := hk2.1.2.2.2.2.2.2
  obtain ⟨F9, hF9⟩ : ∃ F, 1048576 ≤ F := ⟨_, Nat.le_refl _⟩
  have hX : ln ≤ 10 ∧ fi 5 = nI ln ∧ ln2 ≤ 10 ∧ (gi 2 = nI ln2 ∨ gi 2 = -1) ∧ nt ≤ 10 ∧ gi 5 = nI nt ∧ 1048576 ≤ F9 := ⟨hln, hlen, hln2, hlen2, hnt10, hnt, hF9⟩
  have hk0 := hk
  have hk20 := hk2
  have hR0 := hR
  refine lv_aload_n hx hb dL_law_852 rfl (lv_at hl 1 rfl) ?_
  refine lv_aload_n hx hb dL_law_853 rfl (lv_at hl 0 rfl) ?_
  refine lv_iload_n hx hb dL_law_854 rfl (lv_at hl 3 rfl) ?_
  refine lv_iconst (v := 1) hx hb dL_law_855 (by decide) ?_
  refine lv_iadd hx hb dL_law_856 ?_
  refine am_topi (y := nI (i + 1)) (nI_add i 1) ?_
  refine va_sld hx hb hX9 hbl hbA hS (i := (nI (i + 1))) (vp_in_nI (by omega) (by omega)) dL_law_857 ?_
  refine am_topi (y := xs (i + 1)) (by rw [nI_clamp (by omega)]) ?_
  refine lv_aload_n hx hb dL_law_858 rfl (lv_at hl 0 rfl) ?_
  refine lv_iload_n hx hb dL_law_859 rfl (lv_at hl 3 rfl) ?_
  refine lv_iconst (v := 2) hx hb dL_law_860 (by decide) ?_
  refine lv_iadd hx hb dL_law_861 ?_
  refine am_topi (y := nI (i + 2)) (nI_add i 2) ?_
  refine va_sld hx hb hX9 hbl hbA hS (i := (nI (i + 2))) (vp_in_nI (by omega) (by omega)) dL_law_862 ?_
  refine am_topi (y := xs (i + 2)) (by rw [nI_clamp (by omega)]) ?_
  refine lv_i2l (v := (xs (i + 2)).toInt64) hx hb dL_law_863 rfl ?_
  refine lv_bipush (v := 32) hx hb dL_law_864 (by decide) ?_
  refine lv_lshl (v := ((xs (i + 2)).toInt64) <<< ((32 : Int32).toInt64 &&& 63)) hx hb dL_law_866 rfl ?_
  refine lv_aload_n hx hb dL_law_867 rfl (lv_at hl 0 rfl) ?_
  refine lv_iload_n hx hb dL_law_868 rfl (lv_at hl 3 rfl) ?_
  refine lv_iconst (v := 3) hx hb dL_law_869 (by decide) ?_
  refine lv_iadd hx hb dL_law_870 ?_
  refine am_topi (y := nI (i + 3)) (nI_add i 3) ?_
  refine va_sld hx hb hX9 hbl hbA hS (i := (nI (i + 3))) (vp_in_nI (by omega) (by omega)) dL_law_871 ?_
  refine am_topi (y := xs (i + 3)) (by rw [nI_clamp (by omega)]) ?_
  refine lv_i2l (v := (xs (i + 3)).toInt64) hx hb dL_law_872 rfl ?_
  refine lv_ldc2 (v := 4294967295) hx hb hown (lw_ht hts 640 _ rfl) dL_law_873 ?_
  refine lv_land hx hb dL_law_876 ?_
  refine lv_lor hx hb dL_law_877 ?_
  refine lw_callMi (va_runV (As := [.int (xs (i + 1)), .long ((((xs (i + 2)).toInt64) <<< ((32 : Int32).toInt64 &&& 63)) ||| (((xs (i + 3)).toInt64) &&& 4294967295))]) (rest := []) ⟨hx, hb, hml, hown, hts⟩ (c_X0_test l D ad cI cL fi fl ai al (lw_Ac ad) (xs (i + 1)) ((((xs (i + 2)).toInt64) <<< ((32 : Int32).toInt64 &&& 63)) ||| (((xs (i + 3)).toInt64) &&& 4294967295)) na nr hk.1 hk.2.1 hk.2.2.1 hk.2.2.2.1 hk.2.2.2.2.2.1 hk.2.2.2.2.2.2) (cwV 2 hts (lw_gV (am_in 381 rfl) (am_in 382 rfl) (am_in 383 rfl) (am_in 29 rfl) (am_in 384 rfl)) rfl rfl rfl (by decide +kernel) ⟨Nat.le_of_ble_eq_true rfl, Nat.le_of_ble_eq_true rfl⟩) (am_preVM 0 0 rfl rfl rfl hPc hK2 hN (hDc _ _ _ _)) rfl rfl hl.1 rfl (lv_room (Nat.le_of_ble_eq_true rfl)) dL_law_878 ⟨hce, hsl⟩) hS hAc hPr (lw_dis (hDr _ _ _ _) (fun q h g => hdis q g h)) (fun H locs hPc hPr hS => ?_)
  obtain ⟨na9, nr9, hk⟩ := ck_test (fl := fl) (al := al) (xs (i + 1)) ((((xs (i + 2)).toInt64) <<< ((32 : Int32).toInt64 &&& 63)) ||| (((xs (i + 3)).toInt64) &&& 4294967295)) hk
  refine lv_pop hx hb dL_law_881 rfl ?_
  refine lv_aload_n hx hb dL_law_882 rfl (lv_at hl 2 rfl) ?_
  refine lv_aload_n hx hb dL_law_883 rfl (lv_at hl 0 rfl) ?_
  refine lv_iload_n hx hb dL_law_884 rfl (lv_at hl 3 rfl) ?_
  refine lv_iconst (v := 1) hx hb dL_law_885 (by decide) ?_
  refine lv_iadd hx hb dL_law_886 ?_
  refine am_topi (y := nI (i + 1)) (nI_add i 1) ?_
  refine va_sld hx hb hX9 hbl hbA hS (i := (nI (i + 1))) (vp_in_nI (by omega) (by omega)) dL_law_887 ?_
  refine am_topi (y := xs (i + 1)) (by rw [nI_clamp (by omega)]) ?_
  refine lv_aload_n hx hb dL_law_888 rfl (lv_at hl 0 rfl) ?_
  refine lv_iload_n hx hb dL_law_889 rfl (lv_at hl 3 rfl) ?_
  refine lv_iconst (v := 2) hx hb dL_law_890 (by decide) ?_
  refine lv_iadd hx hb dL_law_891 ?_
  refine am_topi (y := nI (i + 2)) (nI_add i 2) ?_
  refine va_sld hx hb hX9 hbl hbA hS (i := (nI (i + 2))) (vp_in_nI (by omega) (by omega)) dL_law_892 ?_
  refine am_topi (y := xs (i + 2)) (by rw [nI_clamp (by omega)]) ?_
  refine lv_i2l (v := (xs (i + 2)).toInt64) hx hb dL_law_893 rfl ?_
  refine lv_bipush (v := 32) hx hb dL_law_894 (by decide) ?_
  refine lv_lshl (v := ((xs (i + 2)).toInt64) <<< ((32 : Int32).toInt64 &&& 63)) hx hb dL_law_896 rfl ?_
  refine lv_aload_n hx hb dL_law_897 rfl (lv_at hl 0 rfl) ?_
  refine lv_iload_n hx hb dL_law_898 rfl (lv_at hl 3 rfl) ?_
  refine lv_iconst (v := 3) hx hb dL_law_899 (by decide) ?_
  refine lv_iadd hx hb dL_law_900 ?_
  refine am_topi (y := nI (i + 3)) (nI_add i 3) ?_
  refine va_sld hx hb hX9 hbl hbA hS (i := (nI (i + 3))) (vp_in_nI (by omega) (by omega)) dL_law_901 ?_
  refine am_topi (y := xs (i + 3)) (by rw [nI_clamp (by omega)]) ?_
  refine lv_i2l (v := (xs (i + 3)).toInt64) hx hb dL_law_902 rfl ?_
  refine lv_ldc2 (v := 4294967295) hx hb hown (lw_ht hts 640 _ rfl) dL_law_903 ?_
  refine lv_land hx hb dL_law_906 ?_
  refine lv_lor hx hb dL_law_907 ?_
  refine lw_callMi (va_runV (As := [.int (xs (i + 1)), .long ((((xs (i + 2)).toInt64) <<< ((32 : Int32).toInt64 &&& 63)) ||| (((xs (i + 3)).toInt64) &&& 4294967295))]) (rest := []) ⟨hx, hb, hml, hown, hts⟩ (c_X5_test l D bd cI cL cZ gi gl bi bl (lw_Ar bd) (xs (i + 1)) ((((xs (i + 2)).toInt64) <<< ((32 : Int32).toInt64 &&& 63)) ||| (((xs (i + 3)).toInt64) &&& 4294967295)) na2 nr2 hk2.1.1 hk2.1.2.1 hk2.1.2.2.1 hk2.1.2.2.2.1 (rc_K_be hk2) hk2.2.1.1 hk2.2.1.2.1) (cwV 2 hts (lw_gV (am_in 615 rfl) (am_in 616 rfl) (am_in 617 rfl) (am_in 35 rfl) (am_in 618 rfl)) rfl rfl rfl (by decide +kernel) ⟨Nat.le_of_ble_eq_true rfl, Nat.le_of_ble_eq_true rfl⟩) (am_preVM 5 0 rfl rfl rfl hPr hK3 hN (hDr _ _ _ _)) rfl rfl hl.1 rfl (lv_room (Nat.le_of_ble_eq_true rfl)) dL_law_908 ⟨hce, hsl⟩) hS hAr hPc (lw_dis (hDc _ _ _ _) hdis) (fun H locs hPr hPc hS => ?_)
  obtain ⟨na8, nr8, hk2⟩ := rk_test (xs (i + 1)) ((((xs (i + 2)).toInt64) <<< ((32 : Int32).toInt64 &&& 63)) ||| (((xs (i + 3)).toInt64) &&& 4294967295)) hk2
  refine lv_pop hx hb dL_law_911 rfl ?_
  have hR := lr_test (xs (i + 1)) ((((xs (i + 2)).toInt64) <<< ((32 : Int32).toInt64 &&& 63)) ||| (((xs (i + 3)).toInt64) &&& 4294967295)) hk0 hk20 hR0 hX
  refine lv_goto (tgt := 961) hx hb dL_law_912 (by decide) ?_
  exact kk _ _ ⟨_, _, _, _, _, _, _, _, _, _, _, _, hk, hk2, hR, hPc, hPr, hS⟩
set_option maxHeartbeats 4000000 in
set_option maxRecDepth 100000 in
theorem lc_17 {p : Program} {l : Launch} {e : Env} {s : State} {m : MethodId} {below : List Frame} {meth : Method} {c : Code} {b L : Nat} {xs : Nat → Int32} (hL : L ≤ 3072) (C0 : lw_At p s m meth c b L xs) {D : va_G} {ad bd : Nat → Nat} {cI cL cZ : ClassId} (hF : lw_Fix s D ad bd cI cL cZ)
    {i : Nat} (hi : i + 6 ≤ L) {cells slots : Nat} (hce : cells ≤ room_1.cells) (hsl : slots ≤ room_1.slots) {Q : State → Prop} {H : Heap} {locs : List Loc} (hI : lw_Inv i s D ad bd cI cL cZ H locs) {ls : Array Slot} (hl : lv_has ls 4 [(0, .ref b), (1, .ref (ad 0)), (2, .ref (bd 0)), (3, .int (nI i))])
    (kk : ∀ (H : Heap) (locs : List Loc), lw_Inv (i + 6) s D ad bd cI cL cZ H locs → W p l e room_1 s m #[Value.ref b] below meth c H locs cells slots Q (F0 m 961 ls [])) : W p l e room_1 s m #[Value.ref b] below meth c H locs cells slots Q (F0 m 915 ls []) := by
  obtain ⟨hx, hb, hr, hml, hown, hts, hX9, hbl, hlocks, hgv⟩ := C0
  have hown : s.vm.findClass RL = some m.cls := hown
  have hbA : ¬ (fun q : Nat => s.heap.size ≤ q) b := Nat.not_le.mpr hbl
  obtain ⟨hK2, hK3, hN, hDc, hDr, hAc, hAr, hdis⟩ := hF
  obtain ⟨fi, fl, ai, al, gi, gl, bi, bl, na, nr, na2, nr2, hk, hk2, hR, hPc, hPr, hS⟩ := hI
  obtain ⟨ln, hln, hlen⟩ := hk.2.2.2.2.1
  obtain ⟨ln2, hln2, hlen2⟩ := hk2.1.2.2.2.2.1
  obtain ⟨nt, hnt10, hnt⟩ := hk2.1.2.2.2.2.2.2
  obtain ⟨F9, hF9⟩ : ∃ F, 1048576 ≤ F := ⟨_, Nat.le_refl _⟩
  have hX : ln ≤ 10 ∧ fi 5 = nI ln ∧ ln2 ≤ 10 ∧ (gi 2 = nI ln2 ∨ gi 2 = -1) ∧ nt ≤ 10 ∧ gi 5 = nI nt ∧ 1048576 ≤ F9 := ⟨hln, hlen, hln2, hlen2, hnt10, hnt, hF9⟩
  have hk0 := hk
  have hk20 := hk2
  have hR0 := hR
  refine lv_aload_n hx hb dL_law_915 rfl (lv_at hl 1 rfl) ?_
  refine lv_aload_n hx hb dL_law_916 rfl (lv_at hl 0 rfl) ?_
  refine lv_iload_n hx hb dL_law_917 rfl (lv_at hl 3 rfl) ?_
  refine lv_iconst (v := 1) hx hb dL_law_918 (by decide) ?_
  refine lv_iadd hx hb dL_law_919 ?_
  refine am_topi (y := nI (i + 1)) (nI_add i 1) ?_
  refine va_sld hx hb hX9 hbl hbA hS (i := (nI (i + 1))) (vp_in_nI (by omega) (by omega)) dL_law_920 ?_
  refine am_topi (y := xs (i + 1)) (by rw [nI_clamp (by omega)]) ?_
  refine lw_callMi (va_runV (As := [.int (xs (i + 1))]) (rest := []) ⟨hx, hb, hml, hown, hts⟩ (c_X0_stations l D ad cI cL fi fl ai al (lw_Ac ad) (xs (i + 1)) na hk.1 hk.2.1) (cwV 1 hts (lw_gV (am_in 389 rfl) (am_in 390 rfl) (am_in 391 rfl) (am_in 29 rfl) (am_in 392 rfl)) rfl rfl rfl (by decide +kernel) ⟨Nat.le_of_ble_eq_true rfl, Nat.le_of_ble_eq_true rfl⟩) (am_preVM 0 0 rfl rfl rfl hPc hK2 hN (hDc _ _ _ _)) rfl rfl hl.1 rfl (lv_room (Nat.le_of_ble_eq_true rfl)) dL_law_921 ⟨hce, hsl⟩) hS hAc hPr (lw_dis (hDr _ _ _ _) (fun q h g => hdis q g h)) (fun H locs hPc hPr hS => ?_)
  obtain ⟨na9, nr9, hk⟩ := ck_stations (fl := fl) (al := al) (xs (i + 1)) hk
  refine lv_pop hx hb dL_law_924 rfl ?_
  refine lv_aload_n hx hb dL_law_925 rfl (lv_at hl 2 rfl) ?_
  refine lv_aload_n hx hb dL_law_926 rfl (lv_at hl 0 rfl) ?_
  refine lv_iload_n hx hb dL_law_927 rfl (lv_at hl 3 rfl) ?_
  refine lv_iconst (v := 1) hx hb dL_law_928 (by decide) ?_
  refine lv_iadd hx hb dL_law_929 ?_
  refine am_topi (y := nI (i + 1)) (nI_add i 1) ?_
  refine va_sld hx hb hX9 hbl hbA hS (i := (nI (i + 1))) (vp_in_nI (by omega) (by omega)) dL_law_930 ?_
  refine am_topi (y := xs (i + 1)) (by rw [nI_clamp (by omega)]) ?_
  refine lw_callMi (va_runV (As := [.int (xs (i + 1))]) (rest := []) ⟨hx, hb, hml, hown, hts⟩ (c_X5_stations l D bd cI cL cZ gi gl bi bl (lw_Ar bd) (xs (i + 1)) ln2 F9 na2 hk2.1.1 hk2.1.2.1 hlen2 hln2 (by omega)) (cwV 1 hts (lw_gV (am_in 622 rfl) (am_in 623 rfl) (am_in 624 rfl) (am_in 35 rfl) (am_in 625 rfl)) rfl rfl rfl (by decide +kernel) ⟨Nat.le_of_ble_eq_true rfl, Nat.le_of_ble_eq_true rfl⟩) (am_preVM 5 0 rfl rfl rfl hPr hK3 hN (hDr _ _ _ _)) rfl rfl hl.1 rfl (lv_room (Nat.le_of_ble_eq_true rfl)) dL_law_931 ⟨hce, hsl⟩) hS hAr hPc (lw_dis (hDc _ _ _ _) hdis) (fun H locs hPr hPc hS => ?_)
  obtain ⟨na8, nr8, hk2⟩ := rk_stations (xs (i + 1)) ln2 F9 hk2
  refine lv_pop hx hb dL_law_934 rfl ?_
  have hR := lr_stations (xs (i + 1)) hk0 hk20 hR0 hX
  refine lv_goto (tgt := 961) hx hb dL_law_935 (by decide) ?_
  exact kk _ _ ⟨_, _, _, _, _, _, _, _, _, _, _, _, hk, hk2, hR, hPc, hPr, hS⟩
set_option maxHeartbeats 4000000 in
set_option maxRecDepth 100000 in
theorem lc_18 {p : Program} {l : Launch} {e : Env} {s : State} {m : MethodId} {below : List Frame} {meth : Method} {c : Code} {b L : Nat} {xs : Nat → Int32} (hL : L ≤ 3072) (C0 : lw_At p s m meth c b L xs) {D : va_G} {ad bd : Nat → Nat} {cI cL cZ : ClassId} (hF : lw_Fix s D ad bd cI cL cZ)
    {i : Nat} (hi : i + 6 ≤ L) {cells slots : Nat} (hce : cells ≤ room_1.cells) (hsl : slots ≤ room_1.slots) {Q : State → Prop} {H : Heap} {locs : List Loc} (hI : lw_Inv i s D ad bd cI cL cZ H locs) {ls : Array Slot} (hl : lv_has ls 4 [(0, .ref b), (1, .ref (ad 0)), (2, .ref (bd 0)), (3, .int (nI i))])
    (kk : ∀ (H : Heap) (locs : List Loc), lw_Inv (i + 6) s D ad bd cI cL cZ H locs → W p l e room_1 s m #[Value.ref b] below meth c H locs cells slots Q (F0 m 961 ls [])) : W p l e room_1 s m #[Value.ref b] below meth c H locs cells slots Q (F0 m 938 ls []) := by
  obtain ⟨hx, hb, hr, hml, hown, hts, hX9, hbl, hlocks, hgv⟩ := C0
  have hown : s.vm.findClass RL = some m.cls := hown
  have hbA : ¬ (fun q : Nat => s.heap.size ≤ q) b := Nat.not_le.mpr hbl
  obtain ⟨hK2, hK3, hN, hDc, hDr, hAc, hAr, hdis⟩ := hF
  obtain ⟨fi, fl, ai, al, gi, gl, bi, bl, na, nr, na2, nr2, hk, hk2, hR, hPc, hPr, hS⟩ := hI
  obtain ⟨ln, hln, hlen⟩ := hk.2.2.2.2.1
  obtain ⟨ln2, hln2, hlen2⟩ := hk2.1.2.2.2.2.1
  obtain ⟨nt, hnt10, hnt⟩ := hk2.1.2.2.2.2.2.2
  obtain ⟨F9, hF9⟩ : ∃ F, 1048576 ≤ F := ⟨_, Nat.le_refl _⟩
  have hX : ln ≤ 10 ∧ fi 5 = nI ln ∧ ln2 ≤ 10 ∧ (gi 2 = nI ln2 ∨ gi 2 = -1) ∧ nt ≤ 10 ∧ gi 5 = nI nt ∧ 1048576 ≤ F9 := ⟨hln, hlen, hln2, hlen2, hnt10, hnt, hF9⟩
  have hk0 := hk
  have hk20 := hk2
  have hR0 := hR
  refine lv_aload_n hx hb dL_law_938 rfl (lv_at hl 1 rfl) ?_
  refine lv_aload_n hx hb dL_law_939 rfl (lv_at hl 0 rfl) ?_
  refine lv_iload_n hx hb dL_law_940 rfl (lv_at hl 3 rfl) ?_
  refine lv_iconst (v := 1) hx hb dL_law_941 (by decide) ?_
  refine lv_iadd hx hb dL_law_942 ?_
  refine am_topi (y := nI (i + 1)) (nI_add i 1) ?_
  refine va_sld hx hb hX9 hbl hbA hS (i := (nI (i + 1))) (vp_in_nI (by omega) (by omega)) dL_law_943 ?_
  refine am_topi (y := xs (i + 1)) (by rw [nI_clamp (by omega)]) ?_
  refine am_callRi (W.runV (As := [.int (xs (i + 1))]) (rest := []) ⟨hx, hb, hml, hown, hts⟩ (c_X0_station l D ad cI cL fi fl ai al (xs (i + 1)) ) (cwV 1 hts (lw_gV (am_in 420 rfl) (am_in 421 rfl) (am_in 422 rfl) (am_in 29 rfl) (am_in 423 rfl)) rfl rfl rfl (by decide +kernel) ⟨Nat.le_of_ble_eq_true rfl, Nat.le_of_ble_eq_true rfl⟩) (am_preVR 0 0 rfl rfl rfl hPc hK2 hN) rfl rfl hl.1 rfl (lv_room (Nat.le_of_ble_eq_true rfl)) dL_law_944 ⟨hce, hsl⟩) ?_
  refine lv_aload_n hx hb dL_law_947 rfl (lv_at hl 2 rfl) ?_
  refine lv_aload_n hx hb dL_law_948 rfl (lv_at hl 0 rfl) ?_
  refine lv_iload_n hx hb dL_law_949 rfl (lv_at hl 3 rfl) ?_
  refine lv_iconst (v := 1) hx hb dL_law_950 (by decide) ?_
  refine lv_iadd hx hb dL_law_951 ?_
  refine am_topi (y := nI (i + 1)) (nI_add i 1) ?_
  refine va_sld hx hb hX9 hbl hbA hS (i := (nI (i + 1))) (vp_in_nI (by omega) (by omega)) dL_law_952 ?_
  refine am_topi (y := xs (i + 1)) (by rw [nI_clamp (by omega)]) ?_
  refine am_callRi (W.runV (As := [.int (xs (i + 1))]) (rest := [.int (ac_stn (ai 21) (xs (i + 1)))]) ⟨hx, hb, hml, hown, hts⟩ (c_X5_station l D bd cI cL cZ gi gl bi bl (xs (i + 1)) ) (cwV 1 hts (lw_gV (am_in 636 rfl) (am_in 637 rfl) (am_in 638 rfl) (am_in 35 rfl) (am_in 639 rfl)) rfl rfl rfl (by decide +kernel) ⟨Nat.le_of_ble_eq_true rfl, Nat.le_of_ble_eq_true rfl⟩) (am_preVR 5 0 rfl rfl rfl hPr hK3 hN) rfl rfl hl.1 rfl (lv_room (Nat.le_of_ble_eq_true rfl)) dL_law_953 ⟨hce, hsl⟩) ?_
  refine lv_icmp_eq (tgt := 961) hx hb dL_law_956 (by decide) (fun c_9 => ?_) (fun c_9 => ?_)
  · exact kk _ _ ⟨_, _, _, _, _, _, _, _, _, _, _, _, hk, hk2, hR, hPc, hPr, hS⟩
  · exact absurd (le_station (xs (i + 1)) hk0 hk20 hR0 hX) c_9
