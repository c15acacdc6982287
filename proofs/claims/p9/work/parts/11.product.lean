set_option maxHeartbeats 4000000 in
set_option maxRecDepth 100000 in
theorem c_X1_hasAct (l : Launch) (D : va_G) (ad : Nat → Nat) (cI cL : ClassId) (fi : Nat → Int32) (fl : Nat → Int64) (ai : Nat → Nat → Int32) (al : Nat → Nat → Int64) (x : Int32) : Met l yX1_hasAct wsX1_hasAct (am_rm 0 0) (va_Pc [.ref (ad 1), .int x] (am_R nwL vwCl D (ac_w ad cI cL fi fl ai al) [(cI, .int), (cL, .long)])) (vp_Si (fun r => r = ac_hasAct (fi 0) x)) 0 0 am_No := by
  refine am_startR (cc := cX1_hasAct) (maxL := 2) (ret := (some .boolean)) (by decide) rfl (Nat.le_of_ble_eq_true rfl) [(0, .ref (ad 1)), (1, .int x)] rfl ?_
  intro p e s m below meth c ls hx hb hr hml hown hts hlocks hP hK hN hl
  have hown : s.vm.findClass RX1 = some m.cls := hown
  have ht := am_ht hts
  have hin_X1 : ∀ w ∈ u_ws RX1 TX1 14, w ∈ wsX1_hasAct := fun w h => List.mem_cons_of_mem _ (am_inX1 w h)
  have hf_54 := ht 56 (.fieldLink RX1 54 "ApartCost$Product" "acts" "I") rfl
  refine lv_iload_n hx hb dX1_hasAct_0 rfl (lv_at hl 1 rfl) ?_
  refine lv_if_lt (tgt := 16) hx hb dX1_hasAct_1 (by decide) (fun c_1 => ?_) (fun c_1 => ?_)
  · skip
    refine lv_iconst (v := 0) hx hb dX1_hasAct_16 (by decide) ?_
    exact am_zretR hx hb hr hlocks (Or.inl rfl) (by first | rfl | (simp only [ac_hasAct, c_1, if_true, if_false, eq_self, not_true_eq_false, not_false_eq_true, ite_true, ite_false, ↓reduceIte]; done) | (simp [ac_hasAct, c_1]; done)) dX1_hasAct_17
  · skip
    refine lv_iload_n hx hb dX1_hasAct_4 rfl (lv_at hl 1 rfl) ?_
    refine lv_aload_n hx hb dX1_hasAct_5 rfl (lv_at hl 0 rfl) ?_
    refine va_get (D := D) (ci := 1) (v := .int (fi 0)) (C := RX1) (T := TX1) (N := 14) hx hb hts hin_X1 hown hK hP 1 rfl rfl 0 (by decide) hf_54 (fun _ h9 => h9) rfl dX1_hasAct_6 ?_
    refine lv_icmp_ge (tgt := 16) hx hb dX1_hasAct_9 (by decide) (fun c_9 => ?_) (fun c_9 => ?_)
    · skip
      refine lv_iconst (v := 0) hx hb dX1_hasAct_16 (by decide) ?_
      exact am_zretR hx hb hr hlocks (Or.inl rfl) (by first | rfl | (simp only [ac_hasAct, c_1, c_9, if_true, if_false, eq_self, not_true_eq_false, not_false_eq_true, ite_true, ite_false, ↓reduceIte]; done) | (simp [ac_hasAct, c_1, c_9]; done)) dX1_hasAct_17
    · skip
      refine lv_iconst (v := 1) hx hb dX1_hasAct_12 (by decide) ?_
      refine lv_goto (tgt := 17) hx hb dX1_hasAct_13 (by decide) ?_
      exact am_zretR hx hb hr hlocks (Or.inr rfl) (by first | rfl | (simp only [ac_hasAct, c_1, c_9, if_true, if_false, eq_self, not_true_eq_false, not_false_eq_true, ite_true, ite_false, ↓reduceIte]; done) | (simp [ac_hasAct, c_1, c_9]; done)) dX1_hasAct_17

set_option maxHeartbeats 4000000 in
set_option maxRecDepth 100000 in
theorem c_X1_allActs (l : Launch) (D : va_G) (ad : Nat → Nat) (cI cL : ClassId) (fi : Nat → Int32) (fl : Nat → Int64) (ai : Nat → Nat → Int32) (al : Nat → Nat → Int64) : Met l yX1_allActs wsX1_allActs (am_rm 0 0) (va_Pc [.ref (ad 1)] (am_R nwL vwCl D (ac_w ad cI cL fi fl ai al) [(cI, .int), (cL, .long)])) (vp_Si (fun r => r = ac_all (fi 0))) 0 0 am_No := by
  refine am_startR (cc := cX1_allActs) (maxL := 1) (ret := (some .int)) (by decide) rfl (Nat.le_of_ble_eq_true rfl) [(0, .ref (ad 1))] rfl ?_
  intro p e s m below meth c ls hx hb hr hml hown hts hlocks hP hK hN hl
  have hown : s.vm.findClass RX1 = some m.cls := hown
  have ht := am_ht hts
  have hin_X1 : ∀ w ∈ u_ws RX1 TX1 14, w ∈ wsX1_allActs := fun w h => List.mem_cons_of_mem _ (am_inX1 w h)
  have hf_54 := ht 56 (.fieldLink RX1 54 "ApartCost$Product" "acts" "I") rfl
  refine lv_iconst (v := 1) hx hb dX1_allActs_0 (by decide) ?_
  refine lv_aload_n hx hb dX1_allActs_1 rfl (lv_at hl 0 rfl) ?_
  refine va_get (D := D) (ci := 1) (v := .int (fi 0)) (C := RX1) (T := TX1) (N := 14) hx hb hts hin_X1 hown hK hP 1 rfl rfl 0 (by decide) hf_54 (fun _ h9 => h9) rfl dX1_allActs_2 ?_
  refine lv_ishl hx hb dX1_allActs_5 ?_
  refine lv_iconst (v := 1) hx hb dX1_allActs_6 (by decide) ?_
  refine lv_isub hx hb dX1_allActs_7 ?_
  exact am_iretR hx hb hr hlocks (by first | rfl | (simp only [ac_all, if_true, if_false, eq_self, not_true_eq_false, not_false_eq_true, ite_true, ite_false, ↓reduceIte]; done) | (simp [ac_all]; done)) dX1_allActs_8

set_option maxHeartbeats 4000000 in
set_option maxRecDepth 100000 in
theorem c_X1_placeOfRest (l : Launch) (D : va_G) (ad : Nat → Nat) (cI cL : ClassId) (fi : Nat → Int32) (fl : Nat → Int64) (ai : Nat → Nat → Int32) (al : Nat → Nat → Int64) (x : Int32) (nr : Nat) (hnr : fi 2 = nI nr) (hnrl : nr ≤ 16) : Met l yX1_placeOfRest wsX1_placeOfRest (am_rm 0 0) (va_Pc [.ref (ad 1), .int x] (am_R nwL vwCl D (ac_w ad cI cL fi fl ai al) [(cI, .int), (cL, .long)])) (vp_Si (fun r => r = nI (ac_place (ai 14) x nr 0))) 0 0 am_No := by
  refine am_startR (cc := cX1_placeOfRest) (maxL := 3) (ret := (some .int)) (by decide) rfl (Nat.le_of_ble_eq_true rfl) [(0, .ref (ad 1)), (1, .int x)] rfl ?_
  intro p e s m below meth c ls hx hb hr hml hown hts hlocks hP hK hN hl
  have hown : s.vm.findClass RX1 = some m.cls := hown
  have ht := am_ht hts
  have hin_X1 : ∀ w ∈ u_ws RX1 TX1 14, w ∈ wsX1_placeOfRest := fun w h => List.mem_cons_of_mem _ (am_inX1 w h)
  have hf_40 := ht 81 (.fieldLink RX1 40 "ApartCost$Product" "restParts" "[I") rfl
  have hf_66 := ht 79 (.fieldLink RX1 66 "ApartCost$Product" "rests" "I") rfl
  refine lv_iconst (v := 0) hx hb dX1_placeOfRest_0 (by decide) ?_
  refine lv_istore_n (lv' := [(2, .int 0), (0, .ref (ad 1)), (1, .int x)]) hx hb dX1_placeOfRest_1 rfl hl (by decide) rfl (fun ls hl => ?_)
  refine am_loopR (σ := Nat) (fun q n9 ls => n9 = nr - q ∧ q ≤ nr ∧ ac_place (ai 14) x nr 0 = ac_place (ai 14) x (nr - q) q ∧ lv_has ls 3 [(0, .ref (ad 1)), (1, .int x), (2, .int (nI q))]) ?_ 0 (nr - 0) ls ⟨rfl, (by omega), rfl, lv_sub hl [1, 2, 0] rfl⟩
  rintro k n9 ls ⟨hn_2, hk, hm, hl⟩ ih_2
  refine lv_iload_n hx hb dX1_placeOfRest_2 rfl (lv_at hl 2 rfl) ?_
  refine lv_aload_n hx hb dX1_placeOfRest_3 rfl (lv_at hl 0 rfl) ?_
  refine va_get (D := D) (ci := 1) (v := .int (fi 2)) (C := RX1) (T := TX1) (N := 14) hx hb hts hin_X1 hown hK hP 1 rfl rfl 11 (by decide) hf_66 (fun _ h9 => h9) rfl dX1_placeOfRest_4 ?_
  refine lv_icmp_ge (tgt := 28) hx hb dX1_placeOfRest_7 (by decide) (fun c_7 => ?_) (fun c_7 => ?_)
  · skip
    have hke_7 : nr ≤ k := (am_ge hnr (by omega) (by omega)).mp c_7
    have hkq_7 : nr = k := by omega
    subst hkq_7
    refine lv_aload_n hx hb dX1_placeOfRest_28 rfl (lv_at hl 0 rfl) ?_
    refine va_get (D := D) (ci := 1) (v := .int (fi 2)) (C := RX1) (T := TX1) (N := 14) hx hb hts hin_X1 hown hK hP 1 rfl rfl 11 (by decide) hf_66 (fun _ h9 => h9) rfl dX1_placeOfRest_29 ?_
    exact am_iretR hx hb hr hlocks (by rw [hm, hnr, Nat.sub_self, ac_place]) dX1_placeOfRest_32
  · skip
    have hkl_7 : k < nr := Nat.lt_of_not_le (fun z => c_7 ((am_ge hnr (by omega) (by omega)).mpr z))
    refine lv_aload_n hx hb dX1_placeOfRest_10 rfl (lv_at hl 0 rfl) ?_
    refine va_get (D := D) (ci := 1) (v := .ref (ad 14)) (C := RX1) (T := TX1) (N := 14) hx hb hts hin_X1 hown hK hP 1 rfl rfl 12 (by decide) hf_40 (fun _ h9 => h9) rfl dX1_placeOfRest_11 ?_
    refine lv_iload_n hx hb dX1_placeOfRest_14 rfl (lv_at hl 2 rfl) ?_
    refine am_iald hx hb hK hP 14 0 rfl rfl k rfl (by omega) (by decide) dX1_placeOfRest_15 ?_
    refine lv_iload_n hx hb dX1_placeOfRest_16 rfl (lv_at hl 1 rfl) ?_
    refine lv_icmp_ne (tgt := 22) hx hb dX1_placeOfRest_17 (by decide) (fun c_17 => ?_) (fun c_17 => ?_)
    · skip
      refine lv_iinc (v := nI (k + 1)) (lv' := [(2, .int (nI (k + 1))), (0, .ref (ad 1)), (1, .int x)]) hx hb dX1_placeOfRest_22 hl (k := 2) rfl (nI_1 k) (by decide) rfl (fun ls hl => ?_)
      refine lv_goto (tgt := 2) hx hb dX1_placeOfRest_25 (by decide) ?_
      refine ih_2 (k + 1) (nr - (k + 1)) ls (by omega) ⟨rfl, (by omega), (by rw [hm, show nr - k = (nr - (k + 1)) + 1 by omega, ac_place, if_neg c_17]), ?_⟩
      exact lv_sub hl [1, 2, 0] rfl
    · skip
      refine lv_iload_n hx hb dX1_placeOfRest_20 rfl (lv_at hl 2 rfl) ?_
      exact am_iretR hx hb hr hlocks (by rw [hm, show nr - k = (nr - (k + 1)) + 1 by omega, ac_place, if_pos c_17]) dX1_placeOfRest_21

set_option maxHeartbeats 4000000 in
set_option maxRecDepth 100000 in
theorem c_X1_restWorth (l : Launch) (D : va_G) (ad : Nat → Nat) (cI cL : ClassId) (fi : Nat → Int32) (fl : Nat → Int64) (ai : Nat → Nat → Int32) (al : Nat → Nat → Int64) (x : Int32) (nr : Nat) (hnr : fi 2 = nI nr) (hnrl : nr ≤ 16) : Met l yX1_restWorth wsX1_restWorth (am_rm 1 22) (va_Pc [.ref (ad 1), .int x] (am_R nwL vwCl D (ac_w ad cI cL fi fl ai al) [(cI, .int), (cL, .long)])) (vp_Sl (fun r => r = ac_restW (ai 14) (al 15) nr x)) 0 0 am_No := by
  refine am_startR (cc := cX1_restWorth) (maxL := 3) (ret := (some .long)) (by decide) rfl (Nat.le_of_ble_eq_true rfl) [(0, .ref (ad 1)), (1, .int x)] rfl ?_
  intro p e s m below meth c ls hx hb hr hml hown hts hlocks hP hK hN hl
  have hown : s.vm.findClass RX1 = some m.cls := hown
  have ht := am_ht hts
  have hin_X1 : ∀ w ∈ u_ws RX1 TX1 14, w ∈ wsX1_restWorth := fun w h => List.mem_cons_of_mem _ (am_inX1 w h)
  have hf_43 := ht 82 (.fieldLink RX1 43 "ApartCost$Product" "restCents" "[J") rfl
  have hf_66 := ht 79 (.fieldLink RX1 66 "ApartCost$Product" "rests" "I") rfl
  have hpb := (ac_place_le (ai 14) x nr 0).2
  refine lv_aload_n hx hb dX1_restWorth_0 rfl (lv_at hl 0 rfl) ?_
  refine lv_iload_n hx hb dX1_restWorth_1 rfl (lv_at hl 1 rfl) ?_
  refine am_callRi (W.runV (As := [.int x]) (rest := []) ⟨hx, hb, hml, hown, hts⟩ (c_X1_placeOfRest l D ad cI cL fi fl ai al x nr hnr hnrl) (cwV 1 hts (am_gV (am_in 239 rfl) (am_in 240 rfl) (am_in 0 rfl) (am_in 30 rfl) (am_in 241 rfl)) rfl rfl rfl (by decide +kernel) ⟨Nat.le_of_ble_eq_true rfl, Nat.le_of_ble_eq_true rfl⟩) (am_preVR 1 1 rfl rfl rfl hP hK hN) rfl rfl hl.1 rfl (lv_room (Nat.le_of_ble_eq_true rfl)) dX1_restWorth_2 ⟨Nat.zero_le _, Nat.zero_le _⟩) ?_
  refine lv_istore_n (lv' := [(2, .int (nI (ac_place (ai 14) x nr 0))), (0, .ref (ad 1)), (1, .int x)]) hx hb dX1_restWorth_5 rfl hl (by decide) rfl (fun ls hl => ?_)
  refine lv_iload_n hx hb dX1_restWorth_6 rfl (lv_at hl 0 rfl) ?_
  refine lv_aload_n hx hb dX1_restWorth_7 rfl (lv_at hl 1 rfl) ?_
  refine va_get (D := D) (ci := 1) (v := .int (fi 2)) (C := RX1) (T := TX1) (N := 14) hx hb hts hin_X1 hown hK hP 1 rfl rfl 11 (by decide) hf_66 (fun _ h9 => h9) rfl dX1_restWorth_8 ?_
  refine lv_icmp_ge (tgt := 23) hx hb dX1_restWorth_11 (by decide) (fun c_11 => ?_) (fun c_11 => ?_)
  · skip
    have hpg : nr ≤ ac_place (ai 14) x nr 0 := (am_ge hnr (by omega) (by omega)).mp c_11
    refine lv_lconst (v := 0) hx hb dX1_restWorth_23 (by decide) ?_
    exact am_lretR hx hb hr hlocks (by rw [ac_restW, if_neg (Nat.not_lt.mpr hpg)]) dX1_restWorth_24
  · skip
    have hpl : ac_place (ai 14) x nr 0 < nr := Nat.lt_of_not_le (fun z => c_11 ((am_ge hnr (by omega) (by omega)).mpr z))
    refine lv_aload_n hx hb dX1_restWorth_14 rfl (lv_at hl 1 rfl) ?_
    refine va_get (D := D) (ci := 1) (v := .ref (ad 15)) (C := RX1) (T := TX1) (N := 14) hx hb hts hin_X1 hown hK hP 1 rfl rfl 13 (by decide) hf_43 (fun _ h9 => h9) rfl dX1_restWorth_15 ?_
    refine lv_iload_n hx hb dX1_restWorth_18 rfl (lv_at hl 0 rfl) ?_
    refine am_lald hx hb hK hP 15 1 rfl rfl (ac_place (ai 14) x nr 0) rfl (by omega) (by decide) dX1_restWorth_19 ?_
    refine lv_goto (tgt := 24) hx hb dX1_restWorth_20 (by decide) ?_
    exact am_lretR hx hb hr hlocks (by rw [ac_restW, if_pos hpl]) dX1_restWorth_24

set_option maxHeartbeats 4000000 in
set_option maxRecDepth 100000 in
theorem c_X1_valueOf (l : Launch) (D : va_G) (ad : Nat → Nat) (cI cL : ClassId) (fi : Nat → Int32) (fl : Nat → Int64) (ai : Nat → Nat → Int32) (al : Nat → Nat → Int64) (a : Nat) (ha : a < 12) : Met l yX1_valueOf wsX1_valueOf (am_rm 0 0) (va_Pc [.ref (ad 1), .int (nI a)] (am_R nwL vwCl D (ac_w ad cI cL fi fl ai al) [(cI, .int), (cL, .long)])) (vp_Sl (fun r => r = (al 12) a * (al 13) a)) 0 0 am_No := by
  refine am_startR (cc := cX1_valueOf) (maxL := 2) (ret := (some .long)) (by decide) rfl (Nat.le_of_ble_eq_true rfl) [(0, .ref (ad 1)), (1, .int (nI a))] rfl ?_
  intro p e s m below meth c ls hx hb hr hml hown hts hlocks hP hK hN hl
  have hown : s.vm.findClass RX1 = some m.cls := hown
  have ht := am_ht hts
  have hin_X1 : ∀ w ∈ u_ws RX1 TX1 14, w ∈ wsX1_valueOf := fun w h => List.mem_cons_of_mem _ (am_inX1 w h)
  have hf_34 := ht 74 (.fieldLink RX1 34 "ApartCost$Product" "worths" "[J") rfl
  have hf_37 := ht 77 (.fieldLink RX1 37 "ApartCost$Product" "shares" "[J") rfl
  refine lv_aload_n hx hb dX1_valueOf_0 rfl (lv_at hl 0 rfl) ?_
  refine va_get (D := D) (ci := 1) (v := .ref (ad 12)) (C := RX1) (T := TX1) (N := 14) hx hb hts hin_X1 hown hK hP 1 rfl rfl 9 (by decide) hf_34 (fun _ h9 => h9) rfl dX1_valueOf_1 ?_
  refine lv_iload_n hx hb dX1_valueOf_4 rfl (lv_at hl 1 rfl) ?_
  refine am_lald hx hb hK hP 12 1 rfl rfl a rfl (by omega) (by decide) dX1_valueOf_5 ?_
  refine lv_aload_n hx hb dX1_valueOf_6 rfl (lv_at hl 0 rfl) ?_
  refine va_get (D := D) (ci := 1) (v := .ref (ad 13)) (C := RX1) (T := TX1) (N := 14) hx hb hts hin_X1 hown hK hP 1 rfl rfl 10 (by decide) hf_37 (fun _ h9 => h9) rfl dX1_valueOf_7 ?_
  refine lv_iload_n hx hb dX1_valueOf_10 rfl (lv_at hl 1 rfl) ?_
  refine am_lald hx hb hK hP 13 1 rfl rfl a rfl (by omega) (by decide) dX1_valueOf_11 ?_
  refine lv_lmul hx hb dX1_valueOf_12 ?_
  exact am_lretR hx hb hr hlocks (by rfl) dX1_valueOf_13

set_option maxHeartbeats 4000000 in
set_option maxRecDepth 100000 in
theorem c_X1_freedBy (l : Launch) (D : va_G) (ad : Nat → Nat) (cI cL : ClassId) (fi : Nat → Int32) (fl : Nat → Int64) (ai : Nat → Nat → Int32) (al : Nat → Nat → Int64) (x : Int32) (na : Nat) (hna : fi 0 = nI na) (hnl : na ≤ 10) : Met l yX1_freedBy wsX1_freedBy (am_rm 1 21) (va_Pc [.ref (ad 1), .int x] (am_R nwL vwCl D (ac_w ad cI cL fi fl ai al) [(cI, .int), (cL, .long)])) (vp_Si (fun r => r = ac_freed (ai 5) x na)) 0 0 am_No := by
  refine am_startR (cc := cX1_freedBy) (maxL := 4) (ret := (some .int)) (by decide) rfl (Nat.le_of_ble_eq_true rfl) [(0, .ref (ad 1)), (1, .int x)] rfl ?_
  intro p e s m below meth c ls hx hb hr hml hown hts hlocks hP hK hN hl
  have hown : s.vm.findClass RX1 = some m.cls := hown
  have ht := am_ht hts
  have hin_X1 : ∀ w ∈ u_ws RX1 TX1 14, w ∈ wsX1_freedBy := fun w h => List.mem_cons_of_mem _ (am_inX1 w h)
  have hf_54 := ht 56 (.fieldLink RX1 54 "ApartCost$Product" "acts" "I") rfl
  have hf_9 := ht 60 (.fieldLink RX1 9 "ApartCost$Product" "frees" "[I") rfl
  refine lv_iconst (v := 0) hx hb dX1_freedBy_0 (by decide) ?_
  refine lv_istore_n (lv' := [(2, .int 0), (0, .ref (ad 1)), (1, .int x)]) hx hb dX1_freedBy_1 rfl hl (by decide) rfl (fun ls hl => ?_)
  refine lv_iconst (v := 0) hx hb dX1_freedBy_2 (by decide) ?_
  refine lv_istore_n (lv' := [(3, .int 0), (2, .int 0), (0, .ref (ad 1)), (1, .int x)]) hx hb dX1_freedBy_3 rfl hl (by decide) rfl (fun ls hl => ?_)
  refine am_loopR (σ := Nat) (fun q n9 ls => n9 = na - q ∧ q ≤ na ∧ lv_has ls 4 [(0, .ref (ad 1)), (1, .int x), (2, .int (ac_freed (ai 5) x q)), (3, .int (nI q))]) ?_ 0 (na - 0) ls ⟨rfl, (by omega), lv_sub hl [2, 3, 1, 0] rfl⟩
  rintro k n9 ls ⟨hn_4, hk, hl⟩ ih_4
  refine lv_iload_n hx hb dX1_freedBy_4 rfl (lv_at hl 3 rfl) ?_
  refine lv_aload_n hx hb dX1_freedBy_5 rfl (lv_at hl 0 rfl) ?_
  refine va_get (D := D) (ci := 1) (v := .int (fi 0)) (C := RX1) (T := TX1) (N := 14) hx hb hts hin_X1 hown hK hP 1 rfl rfl 0 (by decide) hf_54 (fun _ h9 => h9) rfl dX1_freedBy_6 ?_
  refine lv_icmp_ge (tgt := 47) hx hb dX1_freedBy_9 (by decide) (fun c_9 => ?_) (fun c_9 => ?_)
  · skip
    have hke_9 : na ≤ k := (am_ge hna (by omega) (by omega)).mp c_9
    have hkq_9 : na = k := by omega
    subst hkq_9
    refine lv_iload_n hx hb dX1_freedBy_47 rfl (lv_at hl 2 rfl) ?_
    exact am_iretR hx hb hr hlocks (by first | rfl | (simp only [c_9, if_true, if_false, eq_self, not_true_eq_false, not_false_eq_true, ite_true, ite_false, ↓reduceIte]; done) | (simp [c_9]; done)) dX1_freedBy_48
  · skip
    have hkl_9 : k < na := Nat.lt_of_not_le (fun z => c_9 ((am_ge hna (by omega) (by omega)).mpr z))
    refine lv_iload_n hx hb dX1_freedBy_12 rfl (lv_at hl 1 rfl) ?_
    refine lv_iload_n hx hb dX1_freedBy_13 rfl (lv_at hl 3 rfl) ?_
    refine am_callRi (va_Run.run (va_runSN (As := [.int x, .int (nI k)]) (rest := []) ⟨hx, hb, hml, hown, hts⟩ (c_X0_has l D _ _ x (nI k)) ⟨va_cnB 2 hts (am_gN (am_in 206 rfl)) rfl rfl rfl (am_nw_at hN 1 rfl) (ht 29 _ rfl) (by decide +kernel) ⟨Nat.le_of_ble_eq_true rfl, Nat.le_of_ble_eq_true rfl⟩, (ht 205 _ rfl), trivial⟩ (am_preSR hP hK hN) rfl rfl hl.1 rfl (lv_room (Nat.le_of_ble_eq_true rfl)) dX1_freedBy_14 ⟨Nat.zero_le _, Nat.zero_le _⟩)) ?_
    refine lv_if_eq (tgt := 41) hx hb dX1_freedBy_17 (by decide) (fun c_17 => ?_) (fun c_17 => ?_)
    · skip
      refine lv_iinc (v := nI (k + 1)) (lv' := [(3, .int (nI (k + 1))), (0, .ref (ad 1)), (1, .int x), (2, .int (ac_freed (ai 5) x k))]) hx hb dX1_freedBy_41 hl (k := 3) rfl (nI_1 k) (by decide) rfl (fun ls hl => ?_)
      refine lv_goto (tgt := 4) hx hb dX1_freedBy_44 (by decide) ?_
      have e_4_0 : ac_freed (ai 5) x (k + 1) = ac_freed (ai 5) x k := by first | rfl | (simp only [ac_freed, c_9, c_17, if_true, if_false, eq_self, not_true_eq_false, not_false_eq_true, ite_true, ite_false, ↓reduceIte]; done) | (simp [ac_freed, c_9, c_17]; done)
      refine ih_4 (k + 1) (na - (k + 1)) ls (by omega) ⟨rfl, (by omega), ?_⟩
      try dsimp only
      rw [e_4_0]
      exact lv_sub hl [1, 2, 3, 0] rfl
    · skip
      refine lv_aload_n hx hb dX1_freedBy_20 rfl (lv_at hl 0 rfl) ?_
      refine va_get (D := D) (ci := 1) (v := .ref (ad 5)) (C := RX1) (T := TX1) (N := 14) hx hb hts hin_X1 hown hK hP 1 rfl rfl 1 (by decide) hf_9 (fun _ h9 => h9) rfl dX1_freedBy_21 ?_
      refine lv_iload_n hx hb dX1_freedBy_24 rfl (lv_at hl 3 rfl) ?_
      refine am_iald hx hb hK hP 5 0 rfl rfl k rfl (by omega) (by decide) dX1_freedBy_25 ?_
      refine lv_iconst (v := (-1)) hx hb dX1_freedBy_26 (by decide) ?_
      refine lv_icmp_eq (tgt := 41) hx hb dX1_freedBy_27 (by decide) (fun c_27 => ?_) (fun c_27 => ?_)
      · skip
        refine lv_iinc (v := nI (k + 1)) (lv' := [(3, .int (nI (k + 1))), (0, .ref (ad 1)), (1, .int x), (2, .int (ac_freed (ai 5) x k))]) hx hb dX1_freedBy_41 hl (k := 3) rfl (nI_1 k) (by decide) rfl (fun ls hl => ?_)
        refine lv_goto (tgt := 4) hx hb dX1_freedBy_44 (by decide) ?_
        have e_4_0 : ac_freed (ai 5) x (k + 1) = ac_freed (ai 5) x k := by first | rfl | (simp only [ac_freed, c_9, c_17, c_27, if_true, if_false, eq_self, not_true_eq_false, not_false_eq_true, ite_true, ite_false, ↓reduceIte]; done) | (simp [ac_freed, c_9, c_17, c_27]; done)
        refine ih_4 (k + 1) (na - (k + 1)) ls (by omega) ⟨rfl, (by omega), ?_⟩
        try dsimp only
        rw [e_4_0]
        exact lv_sub hl [1, 2, 3, 0] rfl
      · skip
        refine lv_iload_n hx hb dX1_freedBy_30 rfl (lv_at hl 2 rfl) ?_
        refine lv_iconst (v := 1) hx hb dX1_freedBy_31 (by decide) ?_
        refine lv_aload_n hx hb dX1_freedBy_32 rfl (lv_at hl 0 rfl) ?_
        refine va_get (D := D) (ci := 1) (v := .ref (ad 5)) (C := RX1) (T := TX1) (N := 14) hx hb hts hin_X1 hown hK hP 1 rfl rfl 1 (by decide) hf_9 (fun _ h9 => h9) rfl dX1_freedBy_33 ?_
        refine lv_iload_n hx hb dX1_freedBy_36 rfl (lv_at hl 3 rfl) ?_
        refine am_iald hx hb hK hP 5 0 rfl rfl k rfl (by omega) (by decide) dX1_freedBy_37 ?_
        refine lv_ishl hx hb dX1_freedBy_38 ?_
        refine lv_ior hx hb dX1_freedBy_39 ?_
        refine lv_istore_n (lv' := [(2, .int ((ac_freed (ai 5) x k) ||| ((1 : Int32) <<< (((ai 5) k) &&& 31)))), (0, .ref (ad 1)), (1, .int x), (3, .int (nI k))]) hx hb dX1_freedBy_40 rfl hl (by decide) rfl (fun ls hl => ?_)
        refine lv_iinc (v := nI (k + 1)) (lv' := [(3, .int (nI (k + 1))), (2, .int ((ac_freed (ai 5) x k) ||| ((1 : Int32) <<< (((ai 5) k) &&& 31)))), (0, .ref (ad 1)), (1, .int x)]) hx hb dX1_freedBy_41 hl (k := 3) rfl (nI_1 k) (by decide) rfl (fun ls hl => ?_)
        refine lv_goto (tgt := 4) hx hb dX1_freedBy_44 (by decide) ?_
        have e_4_0 : ac_freed (ai 5) x (k + 1) = (ac_freed (ai 5) x k) ||| ((1 : Int32) <<< (((ai 5) k) &&& 31)) := by first | rfl | (simp only [ac_freed, c_9, c_17, c_27, if_true, if_false, eq_self, not_true_eq_false, not_false_eq_true, ite_true, ite_false, ↓reduceIte]; done) | (simp [ac_freed, c_9, c_17, c_27]; done)
        refine ih_4 (k + 1) (na - (k + 1)) ls (by omega) ⟨rfl, (by omega), ?_⟩
        try dsimp only
        rw [e_4_0]
        exact lv_sub hl [2, 3, 1, 0] rfl

set_option maxHeartbeats 4000000 in
set_option maxRecDepth 100000 in
theorem c_X1_wholeBy (l : Launch) (D : va_G) (ad : Nat → Nat) (cI cL : ClassId) (fi : Nat → Int32) (fl : Nat → Int64) (ai : Nat → Nat → Int32) (al : Nat → Nat → Int64) (x : Int32) (na : Nat) (hna : fi 0 = nI na) (hnl : na ≤ 10) : Met l yX1_wholeBy wsX1_wholeBy (am_rm 2 44) (va_Pc [.ref (ad 1), .int x] (am_R nwL vwCl D (ac_w ad cI cL fi fl ai al) [(cI, .int), (cL, .long)])) (vp_Si (fun r => r = ac_whole (ai 5) (fi 1) na x)) 0 0 am_No := by
  refine am_startR (cc := cX1_wholeBy) (maxL := 2) (ret := (some .int)) (by decide) rfl (Nat.le_of_ble_eq_true rfl) [(0, .ref (ad 1)), (1, .int x)] rfl ?_
  intro p e s m below meth c ls hx hb hr hml hown hts hlocks hP hK hN hl
  have hown : s.vm.findClass RX1 = some m.cls := hown
  have ht := am_ht hts
  have hin_X1 : ∀ w ∈ u_ws RX1 TX1 14, w ∈ wsX1_wholeBy := fun w h => List.mem_cons_of_mem _ (am_inX1 w h)
  have hf_72 := ht 69 (.fieldLink RX1 72 "ApartCost$Product" "breaking" "I") rfl
  refine lv_aload_n hx hb dX1_wholeBy_0 rfl (lv_at hl 0 rfl) ?_
  refine lv_iload_n hx hb dX1_wholeBy_1 rfl (lv_at hl 1 rfl) ?_
  refine am_callRi (W.runV (As := [.int x]) (rest := []) ⟨hx, hb, hml, hown, hts⟩ (c_X1_freedBy l D ad cI cL fi fl ai al x na hna hnl) (cwV 1 hts (am_gV (am_in 320 rfl) (am_in 321 rfl) (am_in 322 rfl) (am_in 30 rfl) (am_in 323 rfl)) rfl rfl rfl (by decide +kernel) ⟨Nat.le_of_ble_eq_true rfl, Nat.le_of_ble_eq_true rfl⟩) (am_preVR 1 1 rfl rfl rfl hP hK hN) rfl rfl hl.1 rfl (lv_room (Nat.le_of_ble_eq_true rfl)) dX1_wholeBy_2 ⟨Nat.zero_le _, Nat.zero_le _⟩) ?_
  refine lv_aload_n hx hb dX1_wholeBy_5 rfl (lv_at hl 0 rfl) ?_
  refine lv_iload_n hx hb dX1_wholeBy_6 rfl (lv_at hl 1 rfl) ?_
  refine lv_aload_n hx hb dX1_wholeBy_7 rfl (lv_at hl 0 rfl) ?_
  refine va_get (D := D) (ci := 1) (v := .int (fi 1)) (C := RX1) (T := TX1) (N := 14) hx hb hts hin_X1 hown hK hP 1 rfl rfl 6 (by decide) hf_72 (fun _ h9 => h9) rfl dX1_wholeBy_8 ?_
  refine lv_iand hx hb dX1_wholeBy_11 ?_
  refine am_callRi (W.runV (As := [.int (x &&& (fi 1))]) (rest := [.int (ac_freed (ai 5) x na)]) ⟨hx, hb, hml, hown, hts⟩ (c_X1_freedBy l D ad cI cL fi fl ai al (x &&& (fi 1)) na hna hnl) (cwV 1 hts (am_gV (am_in 320 rfl) (am_in 321 rfl) (am_in 322 rfl) (am_in 30 rfl) (am_in 323 rfl)) rfl rfl rfl (by decide +kernel) ⟨Nat.le_of_ble_eq_true rfl, Nat.le_of_ble_eq_true rfl⟩) (am_preVR 1 1 rfl rfl rfl hP hK hN) rfl rfl hl.1 rfl (lv_room (Nat.le_of_ble_eq_true rfl)) dX1_wholeBy_12 ⟨Nat.zero_le _, Nat.zero_le _⟩) ?_
  refine lv_iconst (v := (-1)) hx hb dX1_wholeBy_15 (by decide) ?_
  refine lv_ixor hx hb dX1_wholeBy_16 ?_
  refine lv_iand hx hb dX1_wholeBy_17 ?_
  exact am_iretR hx hb hr hlocks (by first | rfl | (simp only [ac_whole, if_true, if_false, eq_self, not_true_eq_false, not_false_eq_true, ite_true, ite_false, ↓reduceIte]; done) | (simp [ac_whole]; done)) dX1_wholeBy_18

set_option maxHeartbeats 4000000 in
set_option maxRecDepth 100000 in
theorem c_X1_centsOfStep (l : Launch) (D : va_G) (ad : Nat → Nat) (cI cL : ClassId) (fi : Nat → Int32) (fl : Nat → Int64) (ai : Nat → Nat → Int32) (al : Nat → Nat → Int64) (j : Nat) (b : Nat) (na : Nat) (hna : fi 0 = nI na) (hnl : na ≤ 10) (hto : ∀ a, a < na → ∃ t, t < 6 ∧ (ai 6) a = nI t) (hsi : ∀ a, a < na → ∃ t, t < 6 ∧ (ai 7) a = nI t) (hj : j ≤ na) (hb2 : b < na) : Met l yX1_centsOfStep wsX1_centsOfStep (am_rm 0 0) (va_Pc [.ref (ad 1), .int (ac_la j), .int (nI b)] (am_R nwL vwCl D (ac_w ad cI cL fi fl ai al) [(cI, .int), (cL, .long)])) (vp_Sl (fun r => r = ac_cents (ai 6) (ai 7) (al 8) (al 10) (al 11) j b)) 0 0 am_No := by
  refine am_startR (cc := cX1_centsOfStep) (maxL := 7) (ret := (some .long)) (by decide) rfl (Nat.le_of_ble_eq_true rfl) [(0, .ref (ad 1)), (1, .int (ac_la j)), (2, .int (nI b))] rfl ?_
  intro p e s m below meth c ls hx hb hr hml hown hts hlocks hP hK hN hl
  have hown : s.vm.findClass RX1 = some m.cls := hown
  have ht := am_ht hts
  have hin_X1 : ∀ w ∈ u_ws RX1 TX1 14, w ∈ wsX1_centsOfStep := fun w h => List.mem_cons_of_mem _ (am_inX1 w h)
  have hf_15 := ht 61 (.fieldLink RX1 15 "ApartCost$Product" "tools" "[I") rfl
  have hf_18 := ht 62 (.fieldLink RX1 18 "ApartCost$Product" "sides" "[I") rfl
  have hf_21 := ht 63 (.fieldLink RX1 21 "ApartCost$Product" "cents" "[J") rfl
  have hf_28 := ht 70 (.fieldLink RX1 28 "ApartCost$Product" "changes" "[J") rfl
  have hf_31 := ht 72 (.fieldLink RX1 31 "ApartCost$Product" "turns" "[J") rfl
  refine lv_iload_n hx hb dX1_centsOfStep_0 rfl (lv_at hl 1 rfl) ?_
  refine lv_iconst (v := (-1)) hx hb dX1_centsOfStep_1 (by decide) ?_
  refine lv_icmp_ne (tgt := 12) hx hb dX1_centsOfStep_2 (by decide) (fun c_2 => ?_) (fun c_2 => ?_)
  · skip
    obtain ⟨a, rfl⟩ : ∃ z, j = z + 1 := by cases j with | zero => exact absurd rfl c_2 | succ z => exact ⟨z, rfl⟩
    have hl : lv_has ls 7 [(0, .ref (ad 1)), (1, .int (nI a)), (2, .int (nI b))] := hl
    refine lv_aload_n hx hb dX1_centsOfStep_12 rfl (lv_at hl 0 rfl) ?_
    refine va_get (D := D) (ci := 1) (v := .ref (ad 10)) (C := RX1) (T := TX1) (N := 14) hx hb hts hin_X1 hown hK hP 1 rfl rfl 7 (by decide) hf_28 (fun _ h9 => h9) rfl dX1_centsOfStep_13 ?_
    refine lv_aload_n hx hb dX1_centsOfStep_16 rfl (lv_at hl 0 rfl) ?_
    refine va_get (D := D) (ci := 1) (v := .ref (ad 6)) (C := RX1) (T := TX1) (N := 14) hx hb hts hin_X1 hown hK hP 1 rfl rfl 2 (by decide) hf_15 (fun _ h9 => h9) rfl dX1_centsOfStep_17 ?_
    refine lv_iload_n hx hb dX1_centsOfStep_20 rfl (lv_at hl 1 rfl) ?_
    refine am_iald hx hb hK hP 6 0 rfl rfl a rfl (by omega) (by decide) dX1_centsOfStep_21 ?_
    refine lv_bipush (v := 6) hx hb dX1_centsOfStep_22 (by decide) ?_
    refine lv_imul hx hb dX1_centsOfStep_24 ?_
    refine lv_aload_n hx hb dX1_centsOfStep_25 rfl (lv_at hl 0 rfl) ?_
    refine va_get (D := D) (ci := 1) (v := .ref (ad 6)) (C := RX1) (T := TX1) (N := 14) hx hb hts hin_X1 hown hK hP 1 rfl rfl 2 (by decide) hf_15 (fun _ h9 => h9) rfl dX1_centsOfStep_26 ?_
    refine lv_iload_n hx hb dX1_centsOfStep_29 rfl (lv_at hl 2 rfl) ?_
    refine am_iald hx hb hK hP 6 0 rfl rfl b rfl (by omega) (by decide) dX1_centsOfStep_30 ?_
    refine lv_iadd hx hb dX1_centsOfStep_31 ?_
    refine am_lald hx hb hK hP 10 1 rfl rfl (((ai 6) a * 6 + (ai 6) b).toNatClampNeg) (am_ix6 (hto a (by omega)) (hto b (by omega))).1 (am_ix6 (hto a (by omega)) (hto b (by omega))).2 (by decide) dX1_centsOfStep_32 ?_
    refine lv_lstore_n (lv' := [(3, .long ((al 10) (((ai 6) a * 6 + (ai 6) b).toNatClampNeg))), (0, .ref (ad 1)), (1, .int (nI a)), (2, .int (nI b))]) hx hb dX1_centsOfStep_33 rfl hl (by decide) rfl (fun ls hl => ?_)
    refine lv_aload_n hx hb dX1_centsOfStep_34 rfl (lv_at hl 1 rfl) ?_
    refine va_get (D := D) (ci := 1) (v := .ref (ad 11)) (C := RX1) (T := TX1) (N := 14) hx hb hts hin_X1 hown hK hP 1 rfl rfl 8 (by decide) hf_31 (fun _ h9 => h9) rfl dX1_centsOfStep_35 ?_
    refine lv_aload_n hx hb dX1_centsOfStep_38 rfl (lv_at hl 1 rfl) ?_
    refine va_get (D := D) (ci := 1) (v := .ref (ad 7)) (C := RX1) (T := TX1) (N := 14) hx hb hts hin_X1 hown hK hP 1 rfl rfl 3 (by decide) hf_18 (fun _ h9 => h9) rfl dX1_centsOfStep_39 ?_
    refine lv_iload_n hx hb dX1_centsOfStep_42 rfl (lv_at hl 2 rfl) ?_
    refine am_iald hx hb hK hP 7 0 rfl rfl a rfl (by omega) (by decide) dX1_centsOfStep_43 ?_
    refine lv_bipush (v := 6) hx hb dX1_centsOfStep_44 (by decide) ?_
    refine lv_imul hx hb dX1_centsOfStep_46 ?_
    refine lv_aload_n hx hb dX1_centsOfStep_47 rfl (lv_at hl 1 rfl) ?_
    refine va_get (D := D) (ci := 1) (v := .ref (ad 7)) (C := RX1) (T := TX1) (N := 14) hx hb hts hin_X1 hown hK hP 1 rfl rfl 3 (by decide) hf_18 (fun _ h9 => h9) rfl dX1_centsOfStep_48 ?_
    refine lv_iload_n hx hb dX1_centsOfStep_51 rfl (lv_at hl 3 rfl) ?_
    refine am_iald hx hb hK hP 7 0 rfl rfl b rfl (by omega) (by decide) dX1_centsOfStep_52 ?_
    refine lv_iadd hx hb dX1_centsOfStep_53 ?_
    refine am_lald hx hb hK hP 11 1 rfl rfl (((ai 7) a * 6 + (ai 7) b).toNatClampNeg) (am_ix6 (hsi a (by omega)) (hsi b (by omega))).1 (am_ix6 (hsi a (by omega)) (hsi b (by omega))).2 (by decide) dX1_centsOfStep_54 ?_
    refine lv_lstore (lv' := [(5, .long ((al 11) (((ai 7) a * 6 + (ai 7) b).toNatClampNeg))), (3, .long ((al 10) (((ai 6) a * 6 + (ai 6) b).toNatClampNeg))), (0, .ref (ad 1)), (1, .int (nI a)), (2, .int (nI b))]) hx hb dX1_centsOfStep_55 hl (by decide) rfl (fun ls hl => ?_)
    refine lv_aload_n hx hb dX1_centsOfStep_57 rfl (lv_at hl 2 rfl) ?_
    refine va_get (D := D) (ci := 1) (v := .ref (ad 8)) (C := RX1) (T := TX1) (N := 14) hx hb hts hin_X1 hown hK hP 1 rfl rfl 4 (by decide) hf_21 (fun _ h9 => h9) rfl dX1_centsOfStep_58 ?_
    refine lv_iload_n hx hb dX1_centsOfStep_61 rfl (lv_at hl 4 rfl) ?_
    refine am_lald hx hb hK hP 8 1 rfl rfl b rfl (by omega) (by decide) dX1_centsOfStep_62 ?_
    refine lv_lload_n hx hb dX1_centsOfStep_63 rfl (lv_at hl 1 rfl) ?_
    refine lv_ladd hx hb dX1_centsOfStep_64 ?_
    refine lv_lload hx hb dX1_centsOfStep_65 (lv_at hl 0 rfl) ?_
    refine lv_ladd hx hb dX1_centsOfStep_67 ?_
    exact am_lretR hx hb hr hlocks (by first | rfl | (simp only [c_2, if_true, if_false, eq_self, not_true_eq_false, not_false_eq_true, ite_true, ite_false, ↓reduceIte]; done) | (simp [c_2]; done)) dX1_centsOfStep_68
  · skip
    obtain rfl : j = 0 := by cases j with | zero => rfl | succ z => exact absurd c_2 (ac_la_ne z (by omega))
    have hl : lv_has ls 7 [(0, .ref (ad 1)), (1, .int (-1)), (2, .int (nI b))] := hl
    refine lv_aload_n hx hb dX1_centsOfStep_5 rfl (lv_at hl 0 rfl) ?_
    refine va_get (D := D) (ci := 1) (v := .ref (ad 8)) (C := RX1) (T := TX1) (N := 14) hx hb hts hin_X1 hown hK hP 1 rfl rfl 4 (by decide) hf_21 (fun _ h9 => h9) rfl dX1_centsOfStep_6 ?_
    refine lv_iload_n hx hb dX1_centsOfStep_9 rfl (lv_at hl 2 rfl) ?_
    refine am_lald hx hb hK hP 8 1 rfl rfl b rfl (by omega) (by decide) dX1_centsOfStep_10 ?_
    exact am_lretR hx hb hr hlocks (by first | rfl | (simp only [c_2, if_true, if_false, eq_self, not_true_eq_false, not_false_eq_true, ite_true, ite_false, ↓reduceIte]; done) | (simp [c_2]; done)) dX1_centsOfStep_11

set_option maxHeartbeats 4000000 in
set_option maxRecDepth 100000 in
theorem c_X1_neededBy (l : Launch) (D : va_G) (ad : Nat → Nat) (cI cL : ClassId) (fi : Nat → Int32) (fl : Nat → Int64) (ai : Nat → Nat → Int32) (al : Nat → Nat → Int64) (x : Int32) (na : Nat) (hna : fi 0 = nI na) (hnl : na ≤ 10) : Met l yX1_neededBy wsX1_neededBy (am_rm 1 21) (va_Pc [.ref (ad 1), .int x] (am_R nwL vwCl D (ac_w ad cI cL fi fl ai al) [(cI, .int), (cL, .long)])) (vp_Si (fun r => r = ac_needed (ai 9) x na)) 0 0 am_No := by
  refine am_startR (cc := cX1_neededBy) (maxL := 4) (ret := (some .int)) (by decide) rfl (Nat.le_of_ble_eq_true rfl) [(0, .ref (ad 1)), (1, .int x)] rfl ?_
  intro p e s m below meth c ls hx hb hr hml hown hts hlocks hP hK hN hl
  have hown : s.vm.findClass RX1 = some m.cls := hown
  have ht := am_ht hts
  have hin_X1 : ∀ w ∈ u_ws RX1 TX1 14, w ∈ wsX1_neededBy := fun w h => List.mem_cons_of_mem _ (am_inX1 w h)
  have hf_25 := ht 65 (.fieldLink RX1 25 "ApartCost$Product" "needs" "[I") rfl
  have hf_54 := ht 56 (.fieldLink RX1 54 "ApartCost$Product" "acts" "I") rfl
  refine lv_iconst (v := 0) hx hb dX1_neededBy_0 (by decide) ?_
  refine lv_istore_n (lv' := [(2, .int 0), (0, .ref (ad 1)), (1, .int x)]) hx hb dX1_neededBy_1 rfl hl (by decide) rfl (fun ls hl => ?_)
  refine lv_iconst (v := 0) hx hb dX1_neededBy_2 (by decide) ?_
  refine lv_istore_n (lv' := [(3, .int 0), (2, .int 0), (0, .ref (ad 1)), (1, .int x)]) hx hb dX1_neededBy_3 rfl hl (by decide) rfl (fun ls hl => ?_)
  refine am_loopR (σ := Nat) (fun q n9 ls => n9 = na - q ∧ q ≤ na ∧ lv_has ls 4 [(0, .ref (ad 1)), (1, .int x), (2, .int (ac_needed (ai 9) x q)), (3, .int (nI q))]) ?_ 0 (na - 0) ls ⟨rfl, (by omega), lv_sub hl [2, 3, 1, 0] rfl⟩
  rintro k n9 ls ⟨hn_4, hk, hl⟩ ih_4
  refine lv_iload_n hx hb dX1_neededBy_4 rfl (lv_at hl 3 rfl) ?_
  refine lv_aload_n hx hb dX1_neededBy_5 rfl (lv_at hl 0 rfl) ?_
  refine va_get (D := D) (ci := 1) (v := .int (fi 0)) (C := RX1) (T := TX1) (N := 14) hx hb hts hin_X1 hown hK hP 1 rfl rfl 0 (by decide) hf_54 (fun _ h9 => h9) rfl dX1_neededBy_6 ?_
  refine lv_icmp_ge (tgt := 35) hx hb dX1_neededBy_9 (by decide) (fun c_9 => ?_) (fun c_9 => ?_)
  · skip
    have hke_9 : na ≤ k := (am_ge hna (by omega) (by omega)).mp c_9
    have hkq_9 : na = k := by omega
    subst hkq_9
    refine lv_iload_n hx hb dX1_neededBy_35 rfl (lv_at hl 2 rfl) ?_
    exact am_iretR hx hb hr hlocks (by first | rfl | (simp only [c_9, if_true, if_false, eq_self, not_true_eq_false, not_false_eq_true, ite_true, ite_false, ↓reduceIte]; done) | (simp [c_9]; done)) dX1_neededBy_36
  · skip
    have hkl_9 : k < na := Nat.lt_of_not_le (fun z => c_9 ((am_ge hna (by omega) (by omega)).mpr z))
    refine lv_iload_n hx hb dX1_neededBy_12 rfl (lv_at hl 1 rfl) ?_
    refine lv_iload_n hx hb dX1_neededBy_13 rfl (lv_at hl 3 rfl) ?_
    refine am_callRi (va_Run.run (va_runSN (As := [.int x, .int (nI k)]) (rest := []) ⟨hx, hb, hml, hown, hts⟩ (c_X0_has l D _ _ x (nI k)) ⟨va_cnB 2 hts (am_gN (am_in 206 rfl)) rfl rfl rfl (am_nw_at hN 1 rfl) (ht 29 _ rfl) (by decide +kernel) ⟨Nat.le_of_ble_eq_true rfl, Nat.le_of_ble_eq_true rfl⟩, (ht 205 _ rfl), trivial⟩ (am_preSR hP hK hN) rfl rfl hl.1 rfl (lv_room (Nat.le_of_ble_eq_true rfl)) dX1_neededBy_14 ⟨Nat.zero_le _, Nat.zero_le _⟩)) ?_
    refine lv_if_eq (tgt := 29) hx hb dX1_neededBy_17 (by decide) (fun c_17 => ?_) (fun c_17 => ?_)
    · skip
      refine lv_iinc (v := nI (k + 1)) (lv' := [(3, .int (nI (k + 1))), (0, .ref (ad 1)), (1, .int x), (2, .int (ac_needed (ai 9) x k))]) hx hb dX1_neededBy_29 hl (k := 3) rfl (nI_1 k) (by decide) rfl (fun ls hl => ?_)
      refine lv_goto (tgt := 4) hx hb dX1_neededBy_32 (by decide) ?_
      have e_4_0 : ac_needed (ai 9) x (k + 1) = ac_needed (ai 9) x k := by first | rfl | (simp only [ac_needed, c_9, c_17, if_true, if_false, eq_self, not_true_eq_false, not_false_eq_true, ite_true, ite_false, ↓reduceIte]; done) | (simp [ac_needed, c_9, c_17]; done)
      refine ih_4 (k + 1) (na - (k + 1)) ls (by omega) ⟨rfl, (by omega), ?_⟩
      try dsimp only
      rw [e_4_0]
      exact lv_sub hl [1, 2, 3, 0] rfl
    · skip
      refine lv_iload_n hx hb dX1_neededBy_20 rfl (lv_at hl 2 rfl) ?_
      refine lv_aload_n hx hb dX1_neededBy_21 rfl (lv_at hl 0 rfl) ?_
      refine va_get (D := D) (ci := 1) (v := .ref (ad 9)) (C := RX1) (T := TX1) (N := 14) hx hb hts hin_X1 hown hK hP 1 rfl rfl 5 (by decide) hf_25 (fun _ h9 => h9) rfl dX1_neededBy_22 ?_
      refine lv_iload_n hx hb dX1_neededBy_25 rfl (lv_at hl 3 rfl) ?_
      refine am_iald hx hb hK hP 9 0 rfl rfl k rfl (by omega) (by decide) dX1_neededBy_26 ?_
      refine lv_ior hx hb dX1_neededBy_27 ?_
      refine lv_istore_n (lv' := [(2, .int ((ac_needed (ai 9) x k) ||| ((ai 9) k))), (0, .ref (ad 1)), (1, .int x), (3, .int (nI k))]) hx hb dX1_neededBy_28 rfl hl (by decide) rfl (fun ls hl => ?_)
      refine lv_iinc (v := nI (k + 1)) (lv' := [(3, .int (nI (k + 1))), (2, .int ((ac_needed (ai 9) x k) ||| ((ai 9) k))), (0, .ref (ad 1)), (1, .int x)]) hx hb dX1_neededBy_29 hl (k := 3) rfl (nI_1 k) (by decide) rfl (fun ls hl => ?_)
      refine lv_goto (tgt := 4) hx hb dX1_neededBy_32 (by decide) ?_
      have e_4_0 : ac_needed (ai 9) x (k + 1) = (ac_needed (ai 9) x k) ||| ((ai 9) k) := by first | rfl | (simp only [ac_needed, c_9, c_17, if_true, if_false, eq_self, not_true_eq_false, not_false_eq_true, ite_true, ite_false, ↓reduceIte]; done) | (simp [ac_needed, c_9, c_17]; done)
      refine ih_4 (k + 1) (na - (k + 1)) ls (by omega) ⟨rfl, (by omega), ?_⟩
      try dsimp only
      rw [e_4_0]
      exact lv_sub hl [2, 3, 1, 0] rfl

set_option maxHeartbeats 4000000 in
set_option maxRecDepth 100000 in
theorem c_X1_lastsOf (l : Launch) (D : va_G) (ad : Nat → Nat) (cI cL : ClassId) (fi : Nat → Int32) (fl : Nat → Int64) (ai : Nat → Nat → Int32) (al : Nat → Nat → Int64) (x : Int32) (na : Nat) (hna : fi 0 = nI na) (hnl : na ≤ 10) : Met l yX1_lastsOf wsX1_lastsOf (am_rm 2 44) (va_Pc [.ref (ad 1), .int x] (am_R nwL vwCl D (ac_w ad cI cL fi fl ai al) [(cI, .int), (cL, .long)])) (vp_Si (fun r => r = ac_lasts (ai 9) na x)) 0 0 am_No := by
  refine am_startR (cc := cX1_lastsOf) (maxL := 3) (ret := (some .int)) (by decide) rfl (Nat.le_of_ble_eq_true rfl) [(0, .ref (ad 1)), (1, .int x)] rfl ?_
  intro p e s m below meth c ls hx hb hr hml hown hts hlocks hP hK hN hl
  have hown : s.vm.findClass RX1 = some m.cls := hown
  have ht := am_ht hts
  refine lv_aload_n hx hb dX1_lastsOf_0 rfl (lv_at hl 0 rfl) ?_
  refine lv_iload_n hx hb dX1_lastsOf_1 rfl (lv_at hl 1 rfl) ?_
  refine am_callRi (W.runV (As := [.int x]) (rest := []) ⟨hx, hb, hml, hown, hts⟩ (c_X1_neededBy l D ad cI cL fi fl ai al x na hna hnl) (cwV 1 hts (am_gV (am_in 268 rfl) (am_in 269 rfl) (am_in 1 rfl) (am_in 30 rfl) (am_in 270 rfl)) rfl rfl rfl (by decide +kernel) ⟨Nat.le_of_ble_eq_true rfl, Nat.le_of_ble_eq_true rfl⟩) (am_preVR 1 1 rfl rfl rfl hP hK hN) rfl rfl hl.1 rfl (lv_room (Nat.le_of_ble_eq_true rfl)) dX1_lastsOf_2 ⟨Nat.zero_le _, Nat.zero_le _⟩) ?_
  refine lv_istore_n (lv' := [(2, .int (ac_needed (ai 9) x na)), (0, .ref (ad 1)), (1, .int x)]) hx hb dX1_lastsOf_5 rfl hl (by decide) rfl (fun ls hl => ?_)
  refine lv_iload_n hx hb dX1_lastsOf_6 rfl (lv_at hl 0 rfl) ?_
  refine lv_iload_n hx hb dX1_lastsOf_7 rfl (lv_at hl 2 rfl) ?_
  refine lv_iconst (v := (-1)) hx hb dX1_lastsOf_8 (by decide) ?_
  refine lv_ixor hx hb dX1_lastsOf_9 ?_
  refine lv_iand hx hb dX1_lastsOf_10 ?_
  refine lv_if_ne (tgt := 22) hx hb dX1_lastsOf_11 (by decide) (fun c_11 => ?_) (fun c_11 => ?_)
  · skip
    refine lv_iconst (v := 0) hx hb dX1_lastsOf_22 (by decide) ?_
    exact am_iretR hx hb hr hlocks (by first | rfl | (simp only [ac_lasts, c_11, if_true, if_false, eq_self, not_true_eq_false, not_false_eq_true, ite_true, ite_false, ↓reduceIte]; done) | (simp [ac_lasts, c_11]; done)) dX1_lastsOf_23
  · skip
    refine lv_iload_n hx hb dX1_lastsOf_14 rfl (lv_at hl 2 rfl) ?_
    refine lv_iload_n hx hb dX1_lastsOf_15 rfl (lv_at hl 0 rfl) ?_
    refine lv_iconst (v := (-1)) hx hb dX1_lastsOf_16 (by decide) ?_
    refine lv_ixor hx hb dX1_lastsOf_17 ?_
    refine lv_iand hx hb dX1_lastsOf_18 ?_
    refine lv_goto (tgt := 23) hx hb dX1_lastsOf_19 (by decide) ?_
    exact am_iretR hx hb hr hlocks (by first | rfl | (simp only [ac_lasts, c_11, if_true, if_false, eq_self, not_true_eq_false, not_false_eq_true, ite_true, ite_false, ↓reduceIte]; done) | (simp [ac_lasts, c_11]; done)) dX1_lastsOf_23

set_option maxHeartbeats 4000000 in
set_option maxRecDepth 100000 in
theorem c_X1_nextsOf (l : Launch) (D : va_G) (ad : Nat → Nat) (cI cL : ClassId) (fi : Nat → Int32) (fl : Nat → Int64) (ai : Nat → Nat → Int32) (al : Nat → Nat → Int64) (x : Int32) (na : Nat) (hna : fi 0 = nI na) (hnl : na ≤ 10) : Met l yX1_nextsOf wsX1_nextsOf (am_rm 1 21) (va_Pc [.ref (ad 1), .int x] (am_R nwL vwCl D (ac_w ad cI cL fi fl ai al) [(cI, .int), (cL, .long)])) (vp_Si (fun r => r = ac_nexts (ai 9) x na)) 0 0 am_No := by
  refine am_startR (cc := cX1_nextsOf) (maxL := 4) (ret := (some .int)) (by decide) rfl (Nat.le_of_ble_eq_true rfl) [(0, .ref (ad 1)), (1, .int x)] rfl ?_
  intro p e s m below meth c ls hx hb hr hml hown hts hlocks hP hK hN hl
  have hown : s.vm.findClass RX1 = some m.cls := hown
  have ht := am_ht hts
  have hin_X1 : ∀ w ∈ u_ws RX1 TX1 14, w ∈ wsX1_nextsOf := fun w h => List.mem_cons_of_mem _ (am_inX1 w h)
  have hf_25 := ht 65 (.fieldLink RX1 25 "ApartCost$Product" "needs" "[I") rfl
  have hf_54 := ht 56 (.fieldLink RX1 54 "ApartCost$Product" "acts" "I") rfl
  refine lv_iconst (v := 0) hx hb dX1_nextsOf_0 (by decide) ?_
  refine lv_istore_n (lv' := [(2, .int 0), (0, .ref (ad 1)), (1, .int x)]) hx hb dX1_nextsOf_1 rfl hl (by decide) rfl (fun ls hl => ?_)
  refine lv_iconst (v := 0) hx hb dX1_nextsOf_2 (by decide) ?_
  refine lv_istore_n (lv' := [(3, .int 0), (2, .int 0), (0, .ref (ad 1)), (1, .int x)]) hx hb dX1_nextsOf_3 rfl hl (by decide) rfl (fun ls hl => ?_)
  refine am_loopR (σ := Nat) (fun q n9 ls => n9 = na - q ∧ q ≤ na ∧ lv_has ls 4 [(0, .ref (ad 1)), (1, .int x), (2, .int (ac_nexts (ai 9) x q)), (3, .int (nI q))]) ?_ 0 (na - 0) ls ⟨rfl, (by omega), lv_sub hl [2, 3, 1, 0] rfl⟩
  rintro k n9 ls ⟨hn_4, hk, hl⟩ ih_4
  refine lv_iload_n hx hb dX1_nextsOf_4 rfl (lv_at hl 3 rfl) ?_
  refine lv_aload_n hx hb dX1_nextsOf_5 rfl (lv_at hl 0 rfl) ?_
  refine va_get (D := D) (ci := 1) (v := .int (fi 0)) (C := RX1) (T := TX1) (N := 14) hx hb hts hin_X1 hown hK hP 1 rfl rfl 0 (by decide) hf_54 (fun _ h9 => h9) rfl dX1_nextsOf_6 ?_
  refine lv_icmp_ge (tgt := 45) hx hb dX1_nextsOf_9 (by decide) (fun c_9 => ?_) (fun c_9 => ?_)
  · skip
    have hke_9 : na ≤ k := (am_ge hna (by omega) (by omega)).mp c_9
    have hkq_9 : na = k := by omega
    subst hkq_9
    refine lv_iload_n hx hb dX1_nextsOf_45 rfl (lv_at hl 2 rfl) ?_
    exact am_iretR hx hb hr hlocks (by first | rfl | (simp only [c_9, if_true, if_false, eq_self, not_true_eq_false, not_false_eq_true, ite_true, ite_false, ↓reduceIte]; done) | (simp [c_9]; done)) dX1_nextsOf_46
  · skip
    have hkl_9 : k < na := Nat.lt_of_not_le (fun z => c_9 ((am_ge hna (by omega) (by omega)).mpr z))
    refine lv_iload_n hx hb dX1_nextsOf_12 rfl (lv_at hl 1 rfl) ?_
    refine lv_iload_n hx hb dX1_nextsOf_13 rfl (lv_at hl 3 rfl) ?_
    refine am_callRi (va_Run.run (va_runSN (As := [.int x, .int (nI k)]) (rest := []) ⟨hx, hb, hml, hown, hts⟩ (c_X0_has l D _ _ x (nI k)) ⟨va_cnB 2 hts (am_gN (am_in 206 rfl)) rfl rfl rfl (am_nw_at hN 1 rfl) (ht 29 _ rfl) (by decide +kernel) ⟨Nat.le_of_ble_eq_true rfl, Nat.le_of_ble_eq_true rfl⟩, (ht 205 _ rfl), trivial⟩ (am_preSR hP hK hN) rfl rfl hl.1 rfl (lv_room (Nat.le_of_ble_eq_true rfl)) dX1_nextsOf_14 ⟨Nat.zero_le _, Nat.zero_le _⟩)) ?_
    refine lv_if_ne (tgt := 39) hx hb dX1_nextsOf_17 (by decide) (fun c_17 => ?_) (fun c_17 => ?_)
    · skip
      refine lv_iinc (v := nI (k + 1)) (lv' := [(3, .int (nI (k + 1))), (0, .ref (ad 1)), (1, .int x), (2, .int (ac_nexts (ai 9) x k))]) hx hb dX1_nextsOf_39 hl (k := 3) rfl (nI_1 k) (by decide) rfl (fun ls hl => ?_)
      refine lv_goto (tgt := 4) hx hb dX1_nextsOf_42 (by decide) ?_
      have e_4_0 : ac_nexts (ai 9) x (k + 1) = ac_nexts (ai 9) x k := by first | rfl | (simp only [ac_nexts, c_9, c_17, if_true, if_false, eq_self, not_true_eq_false, not_false_eq_true, ite_true, ite_false, ↓reduceIte]; done) | (simp [ac_nexts, c_9, c_17]; done)
      refine ih_4 (k + 1) (na - (k + 1)) ls (by omega) ⟨rfl, (by omega), ?_⟩
      try dsimp only
      rw [e_4_0]
      exact lv_sub hl [1, 2, 3, 0] rfl
    · skip
      refine lv_aload_n hx hb dX1_nextsOf_20 rfl (lv_at hl 0 rfl) ?_
      refine va_get (D := D) (ci := 1) (v := .ref (ad 9)) (C := RX1) (T := TX1) (N := 14) hx hb hts hin_X1 hown hK hP 1 rfl rfl 5 (by decide) hf_25 (fun _ h9 => h9) rfl dX1_nextsOf_21 ?_
      refine lv_iload_n hx hb dX1_nextsOf_24 rfl (lv_at hl 3 rfl) ?_
      refine am_iald hx hb hK hP 9 0 rfl rfl k rfl (by omega) (by decide) dX1_nextsOf_25 ?_
      refine lv_iload_n hx hb dX1_nextsOf_26 rfl (lv_at hl 1 rfl) ?_
      refine lv_iconst (v := (-1)) hx hb dX1_nextsOf_27 (by decide) ?_
      refine lv_ixor hx hb dX1_nextsOf_28 ?_
      refine lv_iand hx hb dX1_nextsOf_29 ?_
      refine lv_if_ne (tgt := 39) hx hb dX1_nextsOf_30 (by decide) (fun c_30 => ?_) (fun c_30 => ?_)
      · skip
        refine lv_iinc (v := nI (k + 1)) (lv' := [(3, .int (nI (k + 1))), (0, .ref (ad 1)), (1, .int x), (2, .int (ac_nexts (ai 9) x k))]) hx hb dX1_nextsOf_39 hl (k := 3) rfl (nI_1 k) (by decide) rfl (fun ls hl => ?_)
        refine lv_goto (tgt := 4) hx hb dX1_nextsOf_42 (by decide) ?_
        have e_4_0 : ac_nexts (ai 9) x (k + 1) = ac_nexts (ai 9) x k := by first | rfl | (simp only [ac_nexts, c_9, c_17, c_30, if_true, if_false, eq_self, not_true_eq_false, not_false_eq_true, ite_true, ite_false, ↓reduceIte]; done) | (simp [ac_nexts, c_9, c_17, c_30]; done)
        refine ih_4 (k + 1) (na - (k + 1)) ls (by omega) ⟨rfl, (by omega), ?_⟩
        try dsimp only
        rw [e_4_0]
        exact lv_sub hl [1, 2, 3, 0] rfl
      · skip
        refine lv_iload_n hx hb dX1_nextsOf_33 rfl (lv_at hl 2 rfl) ?_
        refine lv_iconst (v := 1) hx hb dX1_nextsOf_34 (by decide) ?_
        refine lv_iload_n hx hb dX1_nextsOf_35 rfl (lv_at hl 3 rfl) ?_
        refine lv_ishl hx hb dX1_nextsOf_36 ?_
        refine lv_ior hx hb dX1_nextsOf_37 ?_
        refine lv_istore_n (lv' := [(2, .int ((ac_nexts (ai 9) x k) ||| ((1 : Int32) <<< ((nI k) &&& 31)))), (0, .ref (ad 1)), (1, .int x), (3, .int (nI k))]) hx hb dX1_nextsOf_38 rfl hl (by decide) rfl (fun ls hl => ?_)
        refine lv_iinc (v := nI (k + 1)) (lv' := [(3, .int (nI (k + 1))), (2, .int ((ac_nexts (ai 9) x k) ||| ((1 : Int32) <<< ((nI k) &&& 31)))), (0, .ref (ad 1)), (1, .int x)]) hx hb dX1_nextsOf_39 hl (k := 3) rfl (nI_1 k) (by decide) rfl (fun ls hl => ?_)
        refine lv_goto (tgt := 4) hx hb dX1_nextsOf_42 (by decide) ?_
        have e_4_0 : ac_nexts (ai 9) x (k + 1) = (ac_nexts (ai 9) x k) ||| ((1 : Int32) <<< ((nI k) &&& 31)) := by first | rfl | (simp only [ac_nexts, c_9, c_17, c_30, if_true, if_false, eq_self, not_true_eq_false, not_false_eq_true, ite_true, ite_false, ↓reduceIte]; done) | (simp [ac_nexts, c_9, c_17, c_30]; done)
        refine ih_4 (k + 1) (na - (k + 1)) ls (by omega) ⟨rfl, (by omega), ?_⟩
        try dsimp only
        rw [e_4_0]
        exact lv_sub hl [2, 3, 1, 0] rfl

set_option maxHeartbeats 4000000 in
set_option maxRecDepth 100000 in
theorem c_X1_countStates (l : Launch) (D : va_G) (ad : Nat → Nat) (cI cL : ClassId) (fi : Nat → Int32) (fl : Nat → Int64) (ai : Nat → Nat → Int32) (al : Nat → Nat → Int64) (na : Nat) (hna : fi 0 = nI na) (hnl : na ≤ 10) : Met l yX1_countStates wsX1_countStates (am_rm 3 66) (va_Pc [.ref (ad 1)] (am_R nwL vwCl D (ac_w ad cI cL fi fl ai al) [(cI, .int), (cL, .long)])) (vp_Sl (fun r => r = ac_count (ai 9) na (2 ^ na - 1))) 0 0 am_No := by
  refine am_startR (cc := cX1_countStates) (maxL := 4) (ret := (some .long)) (by decide) rfl (Nat.le_of_ble_eq_true rfl) [(0, .ref (ad 1))] rfl ?_
  intro p e s m below meth c ls hx hb hr hml hown hts hlocks hP hK hN hl
  have hown : s.vm.findClass RX1 = some m.cls := hown
  have ht := am_ht hts
  have hp2 := am_p2 hnl
  refine lv_lconst (v := 1) hx hb dX1_countStates_0 (by decide) ?_
  refine lv_lstore_n (lv' := [(1, .long 1), (0, .ref (ad 1))]) hx hb dX1_countStates_1 rfl hl (by decide) rfl (fun ls hl => ?_)
  refine lv_iconst (v := 1) hx hb dX1_countStates_2 (by decide) ?_
  refine lv_istore_n (lv' := [(3, .int 1), (1, .long 1), (0, .ref (ad 1))]) hx hb dX1_countStates_3 rfl hl (by decide) rfl (fun ls hl => ?_)
  refine am_loopR (σ := Nat) (fun q n9 ls => n9 = 2 ^ na - 1 - q ∧ q ≤ 2 ^ na - 1 ∧ lv_has ls 4 [(0, .ref (ad 1)), (1, .long (ac_count (ai 9) na q)), (3, .int (nI (q + 1)))]) ?_ 0 (2 ^ na - 1 - 0) ls ⟨rfl, (by omega), lv_sub hl [2, 1, 0] rfl⟩
  rintro k n9 ls ⟨hn_4, hk, hl⟩ ih_4
  refine lv_iload_n hx hb dX1_countStates_4 rfl (lv_at hl 2 rfl) ?_
  refine lv_aload_n hx hb dX1_countStates_5 rfl (lv_at hl 0 rfl) ?_
  refine am_callRi (W.runV (As := []) (rest := [.int (nI (k + 1))]) ⟨hx, hb, hml, hown, hts⟩ (c_X1_allActs l D ad cI cL fi fl ai al) (cwV 0 hts (am_gV (am_in 260 rfl) (am_in 261 rfl) (am_in 262 rfl) (am_in 30 rfl) (am_in 263 rfl)) rfl rfl rfl (by decide +kernel) ⟨Nat.le_of_ble_eq_true rfl, Nat.le_of_ble_eq_true rfl⟩) (am_preVR 1 1 rfl rfl rfl hP hK hN) rfl rfl hl.1 rfl (lv_room (Nat.le_of_ble_eq_true rfl)) dX1_countStates_6 ⟨Nat.zero_le _, Nat.zero_le _⟩) ?_
  refine am_topi (am_all hna hnl) ?_
  refine lv_icmp_gt (tgt := 30) hx hb dX1_countStates_9 (by decide) (fun c_9 => ?_) (fun c_9 => ?_)
  · skip
    have hkq : 2 ^ na - 1 = k := by have := (am_gt (rfl : nI (2 ^ na - 1) = nI (2 ^ na - 1)) (by omega) (by omega)).mp c_9; omega
    subst hkq
    refine lv_lload_n hx hb dX1_countStates_30 rfl (lv_at hl 1 rfl) ?_
    exact am_lretR hx hb hr hlocks (by first | rfl | (simp only [c_9, if_true, if_false, eq_self, not_true_eq_false, not_false_eq_true, ite_true, ite_false, ↓reduceIte]; done) | (simp [c_9]; done)) dX1_countStates_31
  · skip
    have hkl : k + 1 ≤ 2 ^ na - 1 := Nat.le_of_not_lt (fun z => c_9 ((am_gt (rfl : nI (2 ^ na - 1) = nI (2 ^ na - 1)) (by omega) (by omega)).mpr z))
    refine lv_lload_n hx hb dX1_countStates_12 rfl (lv_at hl 1 rfl) ?_
    refine lv_aload_n hx hb dX1_countStates_13 rfl (lv_at hl 0 rfl) ?_
    refine lv_iload_n hx hb dX1_countStates_14 rfl (lv_at hl 2 rfl) ?_
    refine am_callRi (W.runV (As := [.int (nI (k + 1))]) (rest := [.long (ac_count (ai 9) na k)]) ⟨hx, hb, hml, hown, hts⟩ (c_X1_lastsOf l D ad cI cL fi fl ai al (nI (k + 1)) na hna hnl) (cwV 1 hts (am_gV (am_in 264 rfl) (am_in 265 rfl) (am_in 266 rfl) (am_in 30 rfl) (am_in 267 rfl)) rfl rfl rfl (by decide +kernel) ⟨Nat.le_of_ble_eq_true rfl, Nat.le_of_ble_eq_true rfl⟩) (am_preVR 1 1 rfl rfl rfl hP hK hN) rfl rfl hl.1 rfl (lv_room (Nat.le_of_ble_eq_true rfl)) dX1_countStates_15 ⟨Nat.zero_le _, Nat.zero_le _⟩) ?_
    refine am_callRi (W.runS (As := [.int (ac_lasts (ai 9) na (nI (k + 1)))]) (rest := [.long (ac_count (ai 9) na k)]) ⟨hx, hb, hml, hown, hts⟩ (c_JI_bitCount l D _ _ (ac_lasts (ai 9) na (nI (k + 1)))) (va_cwS 1 hts (am_gS (am_in 271 rfl) (am_in 272 rfl) (am_in 36 rfl) (am_in 273 rfl)) rfl rfl rfl (by decide +kernel) ⟨Nat.le_of_ble_eq_true rfl, Nat.le_of_ble_eq_true rfl⟩) (am_preSR hP hK hN) rfl rfl hl.1 rfl (lv_room (Nat.le_of_ble_eq_true rfl)) dX1_countStates_18 ⟨Nat.zero_le _, Nat.zero_le _⟩) ?_
    refine lv_i2l (v := (ac_bc (ac_lasts (ai 9) na (nI (k + 1)))).toInt64) hx hb dX1_countStates_21 rfl ?_
    refine lv_ladd hx hb dX1_countStates_22 ?_
    refine lv_lstore_n (lv' := [(1, .long ((ac_count (ai 9) na k) + ((ac_bc (ac_lasts (ai 9) na (nI (k + 1)))).toInt64))), (0, .ref (ad 1)), (3, .int (nI (k + 1)))]) hx hb dX1_countStates_23 rfl hl (by decide) rfl (fun ls hl => ?_)
    refine lv_iinc (v := nI ((k + 1) + 1)) (lv' := [(3, .int (nI ((k + 1) + 1))), (1, .long ((ac_count (ai 9) na k) + ((ac_bc (ac_lasts (ai 9) na (nI (k + 1)))).toInt64))), (0, .ref (ad 1))]) hx hb dX1_countStates_24 hl (k := 2) rfl (nI_1 (k + 1)) (by decide) rfl (fun ls hl => ?_)
    refine lv_goto (tgt := 4) hx hb dX1_countStates_27 (by decide) ?_
    have e_4_0 : ac_count (ai 9) na (k + 1) = (ac_count (ai 9) na k) + ((ac_bc (ac_lasts (ai 9) na (nI (k + 1)))).toInt64) := by first | rfl | (simp only [ac_count, c_9, if_true, if_false, eq_self, not_true_eq_false, not_false_eq_true, ite_true, ite_false, ↓reduceIte]; done) | (simp [ac_count, c_9]; done)
    refine ih_4 (k + 1) (2 ^ na - 1 - (k + 1)) ls (by omega) ⟨rfl, (by omega), ?_⟩
    try dsimp only
    rw [e_4_0]
    exact lv_sub hl [2, 1, 0] rfl

