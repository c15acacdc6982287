set_option maxHeartbeats 4000000 in
set_option maxRecDepth 100000 in
theorem c_fillJ (l : Launch) (D : va_G) (A : Nat → Prop) (w : va_W) (tys : List (ClassId × FieldType)) (q0 t0 q : Nat) (cA : ClassId) (n : Nat) (f : Nat → Int64) (z : Int64) (hq : w[q0]? = some (q, .inl (cA, n, .inr (.inl f)))) (ht : tys[t0]? = some (cA, .long)) (hn : n < 2 ^ 31) : Met l yJA_fillJ wsJA_fillJ (am_rm 0 0) (va_Pc [.ref q, .long z] (am_M nwL vwCl D A w tys)) (am_Mv vwCl D (w.set q0 (q, .inl (cA, n, .inr (.inl (ac_fillL z f n))))) A) 0 0 A := by
  refine am_startM (cc := cJA_fillJ) (maxL := 5) (ret := none) (by decide) rfl (Nat.le_of_ble_eq_true rfl) [(0, .ref q), (1, .long z)] rfl ?_
  intro p e s m below meth c ls hx hb hr hml hown hts hlocks hK hN hD H locs hP hS hl
  refine lv_iconst (v := 0) hx hb dJA_fillJ_0 (by decide) ?_
  refine lv_istore_n (lv' := [(3, .int 0), (0, .ref q), (1, .long z)]) hx hb dJA_fillJ_1 rfl hl (by decide) rfl (fun ls hl => ?_)
  refine lv_aload_n hx hb dJA_fillJ_2 rfl (lv_at hl 1 rfl) ?_
  refine va_alen hx hb hK hP q0 t0 hq ht (v := nI n) rfl dJA_fillJ_3 ?_
  refine lv_istore (lv' := [(4, .int (nI n)), (3, .int 0), (0, .ref q), (1, .long z)]) hx hb dJA_fillJ_4 hl (by decide) rfl (fun ls hl => ?_)
  refine am_loop (σ := Nat) (fun k n9 H locs ls => n9 = n - k ∧ k ≤ n ∧ va_P D vwCl (w.set q0 (q, .inl (cA, n, .inr (.inl (ac_fillL z f k))))) H ∧ va_S A s.heap H locs ∧ lv_has ls 5 [(0, .ref q), (1, .long z), (3, .int (nI k)), (4, .int (nI n))]) ?_ 0 (n - 0) H locs ls ⟨rfl, Nat.zero_le _, by rw [show ac_fillL z f 0 = f from rfl, am_set_self hq]; exact hP, hS, lv_sub hl [2, 3, 1, 0] rfl⟩
  rintro k n9 H locs ls ⟨hn9, hk, hP, hS, hl⟩ ih
  have hlt : q0 < w.length := (List.getElem?_eq_some_iff.mp hq).1
  have hq1 : (w.set q0 (q, .inl (cA, n, .inr (.inl (ac_fillL z f k)))))[q0]? = some (q, .inl (cA, n, .inr (.inl (ac_fillL z f k)))) := List.getElem?_set_self hlt
  have hD : va_D A (w.set q0 (q, .inl (cA, n, .inr (.inl (ac_fillL z f k))))) := am_D hD (am_set_fst hq)
  refine lv_iload_n hx hb dJA_fillJ_6 rfl (lv_at hl 2 rfl) ?_
  refine lv_iload hx hb dJA_fillJ_7 (lv_at hl 3 rfl) ?_
  refine lv_icmp_ge (tgt := 22) hx hb dJA_fillJ_9 (by decide) (fun c_9 => ?_) (fun c_9 => ?_)
  · have hke : n ≤ k := (am_ge (rfl : nI n = nI n) (by omega) (by omega)).mp c_9
    have hkq : n = k := by omega
    subst hkq
    exact am_vretM hx hb hr hlocks hP hS dJA_fillJ_22
  · have hkl : k < n := Nat.lt_of_not_le (fun z => c_9 ((am_ge (rfl : nI n = nI n) (by omega) (by omega)).mpr z))
    refine lv_aload_n hx hb dJA_fillJ_12 rfl (lv_at hl 0 rfl) ?_
    refine lv_iload_n hx hb dJA_fillJ_13 rfl (lv_at hl 2 rfl) ?_
    refine lv_lload_n hx hb dJA_fillJ_14 rfl (lv_at hl 1 rfl) ?_
    refine am_last hx hb hK hP hD hS q0 t0 hq1 ht k rfl hkl hn (w.set q0 (q, .inl (cA, n, .inr (.inl (ac_fillL z f (k + 1)))))) (by rw [List.set_set]; rfl) dJA_fillJ_15 (fun H locs hP hD hS => ?_)
    refine lv_iinc (v := nI (k + 1)) (lv' := [(3, .int (nI (k + 1))), (0, .ref q), (1, .long z), (4, .int (nI n))]) hx hb dJA_fillJ_16 hl (k := 2) rfl (nI_1 k) (by decide) rfl (fun ls hl => ?_)
    refine lv_goto (tgt := 6) hx hb dJA_fillJ_19 (by decide) ?_
    exact ih (k + 1) (n - (k + 1)) H locs ls (by omega) ⟨rfl, by omega, hP, hS, lv_sub hl [1, 2, 0, 3] rfl⟩
set_option maxHeartbeats 4000000 in
set_option maxRecDepth 100000 in
theorem c_fillI (l : Launch) (D : va_G) (A : Nat → Prop) (w : va_W) (tys : List (ClassId × FieldType)) (q0 t0 q : Nat) (cA : ClassId) (n : Nat) (f : Nat → Int32) (z : Int32) (hq : w[q0]? = some (q, .inl (cA, n, .inl f))) (ht : tys[t0]? = some (cA, .int)) (hn : n < 2 ^ 31) : Met l yJA_fillI wsJA_fillI (am_rm 0 0) (va_Pc [.ref q, .int z] (am_M nwL vwCl D A w tys)) (am_Mv vwCl D (w.set q0 (q, .inl (cA, n, .inl (ac_fillI z f n)))) A) 0 0 A := by
  refine am_startM (cc := cJA_fillI) (maxL := 4) (ret := none) (by decide) rfl (Nat.le_of_ble_eq_true rfl) [(0, .ref q), (1, .int z)] rfl ?_
  intro p e s m below meth c ls hx hb hr hml hown hts hlocks hK hN hD H locs hP hS hl
  refine lv_iconst (v := 0) hx hb dJA_fillI_0 (by decide) ?_
  refine lv_istore_n (lv' := [(2, .int 0), (0, .ref q), (1, .int z)]) hx hb dJA_fillI_1 rfl hl (by decide) rfl (fun ls hl => ?_)
  refine lv_aload_n hx hb dJA_fillI_2 rfl (lv_at hl 1 rfl) ?_
  refine va_alen hx hb hK hP q0 t0 hq ht (v := nI n) rfl dJA_fillI_3 ?_
  refine lv_istore_n (lv' := [(3, .int (nI n)), (2, .int 0), (0, .ref q), (1, .int z)]) hx hb dJA_fillI_4 rfl hl (by decide) rfl (fun ls hl => ?_)
  refine am_loop (σ := Nat) (fun k n9 H locs ls => n9 = n - k ∧ k ≤ n ∧ va_P D vwCl (w.set q0 (q, .inl (cA, n, .inl (ac_fillI z f k)))) H ∧ va_S A s.heap H locs ∧ lv_has ls 4 [(0, .ref q), (1, .int z), (2, .int (nI k)), (3, .int (nI n))]) ?_ 0 (n - 0) H locs ls ⟨rfl, Nat.zero_le _, by rw [show ac_fillI z f 0 = f from rfl, am_set_self hq]; exact hP, hS, lv_sub hl [2, 3, 1, 0] rfl⟩
  rintro k n9 H locs ls ⟨hn9, hk, hP, hS, hl⟩ ih
  have hlt : q0 < w.length := (List.getElem?_eq_some_iff.mp hq).1
  have hq1 : (w.set q0 (q, .inl (cA, n, .inl (ac_fillI z f k))))[q0]? = some (q, .inl (cA, n, .inl (ac_fillI z f k))) := List.getElem?_set_self hlt
  have hD : va_D A (w.set q0 (q, .inl (cA, n, .inl (ac_fillI z f k)))) := am_D hD (am_set_fst hq)
  refine lv_iload_n hx hb dJA_fillI_5 rfl (lv_at hl 2 rfl) ?_
  refine lv_iload_n hx hb dJA_fillI_6 rfl (lv_at hl 3 rfl) ?_
  refine lv_icmp_ge (tgt := 20) hx hb dJA_fillI_7 (by decide) (fun c_9 => ?_) (fun c_9 => ?_)
  · have hke : n ≤ k := (am_ge (rfl : nI n = nI n) (by omega) (by omega)).mp c_9
    have hkq : n = k := by omega
    subst hkq
    exact am_vretM hx hb hr hlocks hP hS dJA_fillI_20
  · have hkl : k < n := Nat.lt_of_not_le (fun z => c_9 ((am_ge (rfl : nI n = nI n) (by omega) (by omega)).mpr z))
    refine lv_aload_n hx hb dJA_fillI_10 rfl (lv_at hl 0 rfl) ?_
    refine lv_iload_n hx hb dJA_fillI_11 rfl (lv_at hl 2 rfl) ?_
    refine lv_iload_n hx hb dJA_fillI_12 rfl (lv_at hl 1 rfl) ?_
    refine am_iast hx hb hK hP hD hS q0 t0 hq1 ht k rfl hkl hn (w.set q0 (q, .inl (cA, n, .inl (ac_fillI z f (k + 1))))) (by rw [List.set_set]; rfl) dJA_fillI_13 (fun H locs hP hD hS => ?_)
    refine lv_iinc (v := nI (k + 1)) (lv' := [(2, .int (nI (k + 1))), (0, .ref q), (1, .int z), (3, .int (nI n))]) hx hb dJA_fillI_14 hl (k := 2) rfl (nI_1 k) (by decide) rfl (fun ls hl => ?_)
    refine lv_goto (tgt := 5) hx hb dJA_fillI_17 (by decide) ?_
    exact ih (k + 1) (n - (k + 1)) H locs ls (by omega) ⟨rfl, by omega, hP, hS, lv_sub hl [1, 2, 0, 3] rfl⟩
set_option maxHeartbeats 4000000 in
set_option maxRecDepth 100000 in
theorem c_X4_shareOut (l : Launch) (D : va_G) (ad : Nat → Nat) (cI cL : ClassId) (fi : Nat → Int32) (fl : Nat → Int64) (ai : Nat → Nat → Int32) (al : Nat → Nat → Int64) (A : Nat → Prop) (x : Int32) (st : Nat) (na : Nat) (hna : fi 0 = nI na) (hnl : na ≤ 10) (hst4 : st ≤ 4) : Met l yX4_shareOut wsX4_shareOut (am_rm 13 539) (va_Pc [.ref (ad 4), .int x, .int (nI st)] (am_M nwL vwCl D A (ac_w ad cI cL fi fl ai al) [(cI, .int), (cL, .long)])) (am_Ml vwCl D ((ac_try (al 8) (ai 9) x (nI st) (ac_least (al 8) x (nI st) na) na na 0 0 ((ai 21), (ai 22), (ac_fillL 0 (al 23) 4), (ac_tot (al 8) x na + 1))).2.2.2) (ac_w ad cI cL (upd (upd fi 8 x) 9 (nI st)) (vp_updL (vp_updL fl 1 ((ac_try (al 8) (ai 9) x (nI st) (ac_least (al 8) x (nI st) na) na na 0 0 ((ai 21), (ai 22), (ac_fillL 0 (al 23) 4), (ac_tot (al 8) x na + 1))).2.2.2)) 2 (ac_least (al 8) x (nI st) na)) (va_up (va_up ai 21 ((ac_try (al 8) (ai 9) x (nI st) (ac_least (al 8) x (nI st) na) na na 0 0 ((ai 21), (ai 22), (ac_fillL 0 (al 23) 4), (ac_tot (al 8) x na + 1))).1)) 22 ((ac_try (al 8) (ai 9) x (nI st) (ac_least (al 8) x (nI st) na) na na 0 0 ((ai 21), (ai 22), (ac_fillL 0 (al 23) 4), (ac_tot (al 8) x na + 1))).2.1)) (va_up al 23 ((ac_try (al 8) (ai 9) x (nI st) (ac_least (al 8) x (nI st) na) na na 0 0 ((ai 21), (ai 22), (ac_fillL 0 (al 23) 4), (ac_tot (al 8) x na + 1))).2.2.1))) A) 0 0 A := by
  refine am_startM (cc := cX4_shareOut) (maxL := 3) (ret := (some .long)) (by decide) rfl (Nat.le_of_ble_eq_true rfl) [(0, .ref (ad 4)), (1, .int x), (2, .int (nI st))] rfl ?_
  intro p e s m below meth c ls hx hb hr hml hown hts hlocks hK hN hD H locs hP hS hl
  have hown : s.vm.findClass RX4 = some m.cls := hown
  have ht := am_ht hts
  have hin_X4 : ∀ w ∈ u_ws RX4 TX4 8, w ∈ wsX4_shareOut := fun w h => List.mem_cons_of_mem _ (am_inX4 w h)
  have hf_18 := ht 157 (.fieldLink RX4 18 "ApartCost$Line" "loads" "[J") rfl
  have hf_32 := ht 158 (.fieldLink RX4 32 "ApartCost$Line" "set" "I") rfl
  have hf_36 := ht 159 (.fieldLink RX4 36 "ApartCost$Line" "stations" "I") rfl
  have hf_49 := ht 160 (.fieldLink RX4 49 "ApartCost$Line" "longest" "J") rfl
  refine lv_aload_n hx hb dX4_shareOut_0 rfl (lv_at hl 0 rfl) ?_
  refine lv_iload_n hx hb dX4_shareOut_1 rfl (lv_at hl 1 rfl) ?_
  refine va_put (D := D) (ci := 4) (v := .int x) (ty := .int) (C := RX4) (T := TX4) (N := 8) hx hb hts hin_X4 tyX4 tyX4_ok nmX4 hown hK hP hD hS 4 rfl rfl 4 (by decide) hf_32 (fun _ h9 => h9) rfl (by decide +kernel) rfl rfl (Nat.le_of_ble_eq_true rfl) dX4_shareOut_2 (fun H locs hP hD hS => ?_)
  have hP : va_P D vwCl (ac_w ad cI cL (upd fi 8 x) fl ai al) H := hP
  have hD : va_D A (ac_w ad cI cL (upd fi 8 x) fl ai al) := am_D hD rfl
  refine lv_aload_n hx hb dX4_shareOut_5 rfl (lv_at hl 0 rfl) ?_
  refine lv_iload_n hx hb dX4_shareOut_6 rfl (lv_at hl 2 rfl) ?_
  refine va_put (D := D) (ci := 4) (v := .int (nI st)) (ty := .int) (C := RX4) (T := TX4) (N := 8) hx hb hts hin_X4 tyX4 tyX4_ok nmX4 hown hK hP hD hS 4 rfl rfl 5 (by decide) hf_36 (fun _ h9 => h9) rfl (by decide +kernel) rfl rfl (Nat.le_of_ble_eq_true rfl) dX4_shareOut_7 (fun H locs hP hD hS => ?_)
  have hP : va_P D vwCl (ac_w ad cI cL (upd (upd fi 8 x) 9 (nI st)) fl ai al) H := hP
  have hD : va_D A (ac_w ad cI cL (upd (upd fi 8 x) 9 (nI st)) fl ai al) := am_D hD rfl
  refine lv_aload_n hx hb dX4_shareOut_10 rfl (lv_at hl 0 rfl) ?_
  refine am_callMv (va_runV (As := []) (rest := []) ⟨hx, hb, hml, hown, hts⟩ (c_X4_setLimits l D ad cI cL (upd (upd fi 8 x) 9 (nI st)) fl ai al A na hna hnl) (cwV 0 hts (am_gV (am_in 397 rfl) (am_in 398 rfl) (am_in 8 rfl) (am_in 34 rfl) (am_in 399 rfl)) rfl rfl rfl (by decide +kernel) ⟨by simp only [am_rm]; omega, by simp only [am_rm]; omega⟩) (am_preVM 4 4 rfl rfl rfl hP hK hN hD) rfl rfl hl.1 rfl (lv_room (Nat.le_of_ble_eq_true rfl)) dX4_shareOut_11 ⟨Nat.zero_le _, Nat.zero_le _⟩) hS (fun H locs hP hS => ?_)
  have hP : va_P D vwCl (ac_w ad cI cL (upd (upd fi 8 x) 9 (nI st)) (vp_updL (vp_updL fl 1 (ac_tot (al 8) x na + 1)) 2 (ac_least (al 8) x (nI st) na)) ai al) H := hP
  have hD : va_D A (ac_w ad cI cL (upd (upd fi 8 x) 9 (nI st)) (vp_updL (vp_updL fl 1 (ac_tot (al 8) x na + 1)) 2 (ac_least (al 8) x (nI st) na)) ai al) := am_D hD rfl
  refine lv_aload_n hx hb dX4_shareOut_14 rfl (lv_at hl 0 rfl) ?_
  refine va_get (D := D) (ci := 4) (v := .ref (ad 23)) (C := RX4) (T := TX4) (N := 8) hx hb hts hin_X4 hown hK hP 4 rfl rfl 3 (by decide) hf_18 (fun _ h9 => h9) rfl dX4_shareOut_15 ?_
  refine lv_lconst (v := 0) hx hb dX4_shareOut_18 (by decide) ?_
  refine am_callMv (va_runS (As := [.ref (ad 23), .long 0]) (rest := []) ⟨hx, hb, hml, hown, hts⟩ (c_fillJ l D A (ac_w ad cI cL (upd (upd fi 8 x) 9 (nI st)) (vp_updL (vp_updL fl 1 (ac_tot (al 8) x na + 1)) 2 (ac_least (al 8) x (nI st) na)) ai al) [(cI, .int), (cL, .long)] 23 1 (ad 23) cL 4 (al 23) 0 rfl rfl (by decide)) (va_cwS 2 hts (am_gS (am_in 401 rfl) (am_in 54 rfl) (am_in 31 rfl) (am_in 55 rfl)) rfl rfl rfl (by decide +kernel) ⟨by simp only [am_rm]; omega, by simp only [am_rm]; omega⟩) (am_preSM hP hK hN hD) rfl rfl hl.1 rfl (lv_room (Nat.le_of_ble_eq_true rfl)) dX4_shareOut_19 ⟨Nat.zero_le _, Nat.zero_le _⟩) hS (fun H locs hP hS => ?_)
  have hP : va_P D vwCl (ac_w ad cI cL (upd (upd fi 8 x) 9 (nI st)) (vp_updL (vp_updL fl 1 (ac_tot (al 8) x na + 1)) 2 (ac_least (al 8) x (nI st) na)) ai (va_up al 23 (ac_fillL 0 (al 23) 4))) H := hP
  have hD : va_D A (ac_w ad cI cL (upd (upd fi 8 x) 9 (nI st)) (vp_updL (vp_updL fl 1 (ac_tot (al 8) x na + 1)) 2 (ac_least (al 8) x (nI st) na)) ai (va_up al 23 (ac_fillL 0 (al 23) 4))) := am_D hD rfl
  refine lv_aload_n hx hb dX4_shareOut_22 rfl (lv_at hl 0 rfl) ?_
  refine lv_iconst (v := 0) hx hb dX4_shareOut_23 (by decide) ?_
  refine lv_lconst (v := 0) hx hb dX4_shareOut_24 (by decide) ?_
  refine am_callMv (va_runS (As := [.ref (ad 4), .int 0, .long 0]) (rest := []) ⟨hx, hb, hml, hown, hts⟩ (c_X4_tryFrom l D ad cI cL na na (upd (upd fi 8 x) 9 (nI st)) (vp_updL (vp_updL fl 1 (ac_tot (al 8) x na + 1)) 2 (ac_least (al 8) x (nI st) na)) ai (va_up al 23 (ac_fillL 0 (al 23) 4)) A 0 0 st hna hnl rfl hst4 (by omega)) (va_cwS 3 hts (am_gS (am_in 402 rfl) (am_in 403 rfl) (am_in 34 rfl) (am_in 404 rfl)) rfl rfl rfl (by decide +kernel) ⟨by simp only [am_rm]; omega, by simp only [am_rm]; omega⟩) (am_preSM hP hK hN hD) rfl rfl hl.1 rfl (lv_room (Nat.le_of_ble_eq_true rfl)) dX4_shareOut_25 ⟨Nat.zero_le _, Nat.zero_le _⟩) hS (fun H locs hP hS => ?_)
  have hP : va_P D vwCl (ac_w ad cI cL (upd (upd fi 8 x) 9 (nI st)) (vp_updL (vp_updL fl 1 ((ac_try (al 8) (ai 9) x (nI st) (ac_least (al 8) x (nI st) na) na na 0 0 ((ai 21), (ai 22), (ac_fillL 0 (al 23) 4), (ac_tot (al 8) x na + 1))).2.2.2)) 2 (ac_least (al 8) x (nI st) na)) (va_up (va_up ai 21 ((ac_try (al 8) (ai 9) x (nI st) (ac_least (al 8) x (nI st) na) na na 0 0 ((ai 21), (ai 22), (ac_fillL 0 (al 23) 4), (ac_tot (al 8) x na + 1))).1)) 22 ((ac_try (al 8) (ai 9) x (nI st) (ac_least (al 8) x (nI st) na) na na 0 0 ((ai 21), (ai 22), (ac_fillL 0 (al 23) 4), (ac_tot (al 8) x na + 1))).2.1)) (va_up al 23 ((ac_try (al 8) (ai 9) x (nI st) (ac_least (al 8) x (nI st) na) na na 0 0 ((ai 21), (ai 22), (ac_fillL 0 (al 23) 4), (ac_tot (al 8) x na + 1))).2.2.1))) H := hP
  have hD : va_D A (ac_w ad cI cL (upd (upd fi 8 x) 9 (nI st)) (vp_updL (vp_updL fl 1 ((ac_try (al 8) (ai 9) x (nI st) (ac_least (al 8) x (nI st) na) na na 0 0 ((ai 21), (ai 22), (ac_fillL 0 (al 23) 4), (ac_tot (al 8) x na + 1))).2.2.2)) 2 (ac_least (al 8) x (nI st) na)) (va_up (va_up ai 21 ((ac_try (al 8) (ai 9) x (nI st) (ac_least (al 8) x (nI st) na) na na 0 0 ((ai 21), (ai 22), (ac_fillL 0 (al 23) 4), (ac_tot (al 8) x na + 1))).1)) 22 ((ac_try (al 8) (ai 9) x (nI st) (ac_least (al 8) x (nI st) na) na na 0 0 ((ai 21), (ai 22), (ac_fillL 0 (al 23) 4), (ac_tot (al 8) x na + 1))).2.1)) (va_up al 23 ((ac_try (al 8) (ai 9) x (nI st) (ac_least (al 8) x (nI st) na) na na 0 0 ((ai 21), (ai 22), (ac_fillL 0 (al 23) 4), (ac_tot (al 8) x na + 1))).2.2.1))) := am_D hD rfl
  refine lv_aload_n hx hb dX4_shareOut_28 rfl (lv_at hl 0 rfl) ?_
  refine va_get (D := D) (ci := 4) (v := .long ((ac_try (al 8) (ai 9) x (nI st) (ac_least (al 8) x (nI st) na) na na 0 0 ((ai 21), (ai 22), (ac_fillL 0 (al 23) 4), (ac_tot (al 8) x na + 1))).2.2.2)) (C := RX4) (T := TX4) (N := 8) hx hb hts hin_X4 hown hK hP 4 rfl rfl 6 (by decide) hf_49 (fun _ h9 => h9) rfl dX4_shareOut_29 ?_
  exact am_lretM hx hb hr hlocks hP hS rfl dX4_shareOut_32

