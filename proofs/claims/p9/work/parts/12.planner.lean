set_option maxHeartbeats 4000000 in
set_option maxRecDepth 100000 in
theorem c_X2_stepPlace (l : Launch) (D : va_G) (w : va_W) (tys : List (ClassId × FieldType)) (j : Nat) (b : Nat) (hj : j ≤ 10) (hb2 : b < 10) : Met l yX2_stepPlace wsX2_stepPlace (am_rm 0 0) (va_Pc [.int (ac_la j), .int (nI b)] (am_R nwL vwCl D w tys)) (vp_Si (fun r => r = nI (ac_pl j b))) 0 0 am_No := by
  refine am_startR (cc := cX2_stepPlace) (maxL := 2) (ret := (some .int)) (by decide) rfl (Nat.le_of_ble_eq_true rfl) [(0, .int (ac_la j)), (1, .int (nI b))] rfl ?_
  intro p e s m below meth c ls hx hb hr hml hown hts hlocks hP hK hN hl
  have hown : s.vm.findClass RX2 = some m.cls := hown
  have ht := am_ht hts
  refine lv_iload_n hx hb dX2_stepPlace_0 rfl (lv_at hl 0 rfl) ?_
  refine lv_iconst (v := (-1)) hx hb dX2_stepPlace_1 (by decide) ?_
  refine lv_icmp_ne (tgt := 10) hx hb dX2_stepPlace_2 (by decide) (fun c_2 => ?_) (fun c_2 => ?_)
  · skip
    obtain ⟨a, rfl⟩ : ∃ z, j = z + 1 := by cases j with | zero => exact absurd rfl c_2 | succ z => exact ⟨z, rfl⟩
    have hl : lv_has ls 2 [(0, .int (nI a)), (1, .int (nI b))] := hl
    refine lv_iload_n hx hb dX2_stepPlace_10 rfl (lv_at hl 0 rfl) ?_
    refine lv_bipush (v := 10) hx hb dX2_stepPlace_11 (by decide) ?_
    refine lv_imul hx hb dX2_stepPlace_13 ?_
    refine lv_iload_n hx hb dX2_stepPlace_14 rfl (lv_at hl 1 rfl) ?_
    refine lv_iadd hx hb dX2_stepPlace_15 ?_
    exact am_iretR hx hb hr hlocks (ac_pl_eq1 a b) dX2_stepPlace_16
  · skip
    obtain rfl : j = 0 := by cases j with | zero => rfl | succ z => exact absurd c_2 (ac_la_ne z (by omega))
    have hl : lv_has ls 2 [(0, .int (-1)), (1, .int (nI b))] := hl
    refine lv_bipush (v := 10) hx hb dX2_stepPlace_5 (by decide) ?_
    refine lv_goto (tgt := 11) hx hb dX2_stepPlace_7 (by decide) ?_
    refine lv_bipush (v := 10) hx hb dX2_stepPlace_11 (by decide) ?_
    refine lv_imul hx hb dX2_stepPlace_13 ?_
    refine lv_iload_n hx hb dX2_stepPlace_14 rfl (lv_at hl 1 rfl) ?_
    refine lv_iadd hx hb dX2_stepPlace_15 ?_
    exact am_iretR hx hb hr hlocks (ac_pl_eq0 b) dX2_stepPlace_16

set_option maxHeartbeats 4000000 in
set_option maxRecDepth 100000 in
theorem c_X2_mostBy (l : Launch) (D : va_G) (ad : Nat → Nat) (cI cL : ClassId) (fi : Nat → Int32) (fl : Nat → Int64) (ai : Nat → Nat → Int32) (al : Nat → Nat → Int64) (j : Nat) (sn : Nat) (b : Nat) (hj : j ≤ 10) (hsn : sn < 1024) (hb2 : b < 10) : Met l yX2_mostBy wsX2_mostBy (am_rm 1 21) (va_Pc [.ref (ad 2), .int (ac_la j), .int (nI sn), .int (nI b)] (am_R nwL vwCl D (ac_w ad cI cL fi fl ai al) [(cI, .int), (cL, .long)])) (vp_Sl (fun r => r = ac_mby (al 18) (al 17) j sn b)) 0 0 am_No := by
  refine am_startR (cc := cX2_mostBy) (maxL := 4) (ret := (some .long)) (by decide) rfl (Nat.le_of_ble_eq_true rfl) [(0, .ref (ad 2)), (1, .int (ac_la j)), (2, .int (nI sn)), (3, .int (nI b))] rfl ?_
  intro p e s m below meth c ls hx hb hr hml hown hts hlocks hP hK hN hl
  have hown : s.vm.findClass RX2 = some m.cls := hown
  have ht := am_ht hts
  have hin_X2 : ∀ w ∈ u_ws RX2 TX2 4, w ∈ wsX2_mostBy := fun w h => List.mem_cons_of_mem _ (am_inX2 w h)
  have hf_15 := ht 110 (.fieldLink RX2 15 "ApartCost$Planner" "steps" "[J") rfl
  have hf_18 := ht 111 (.fieldLink RX2 18 "ApartCost$Planner" "most" "[J") rfl
  refine lv_aload_n hx hb dX2_mostBy_0 rfl (lv_at hl 0 rfl) ?_
  refine va_get (D := D) (ci := 2) (v := .ref (ad 18)) (C := RX2) (T := TX2) (N := 4) hx hb hts hin_X2 hown hK hP 2 rfl rfl 3 (by decide) hf_18 (fun _ h9 => h9) rfl dX2_mostBy_1 ?_
  refine lv_iload_n hx hb dX2_mostBy_4 rfl (lv_at hl 2 rfl) ?_
  refine lv_iconst (v := 1) hx hb dX2_mostBy_5 (by decide) ?_
  refine lv_iload_n hx hb dX2_mostBy_6 rfl (lv_at hl 3 rfl) ?_
  refine lv_ishl hx hb dX2_mostBy_7 ?_
  refine lv_ior hx hb dX2_mostBy_8 ?_
  refine lv_bipush (v := 10) hx hb dX2_mostBy_9 (by decide) ?_
  refine lv_imul hx hb dX2_mostBy_11 ?_
  refine lv_iload_n hx hb dX2_mostBy_12 rfl (lv_at hl 3 rfl) ?_
  refine lv_iadd hx hb dX2_mostBy_13 ?_
  refine am_lald hx hb hK hP 18 1 rfl rfl ((sn ||| 2 ^ b) * 10 + b) (am_six (by omega)) (by have := am_or_lt hsn hb2; omega) (by decide) dX2_mostBy_14 ?_
  refine lv_aload_n hx hb dX2_mostBy_15 rfl (lv_at hl 0 rfl) ?_
  refine va_get (D := D) (ci := 2) (v := .ref (ad 17)) (C := RX2) (T := TX2) (N := 4) hx hb hts hin_X2 hown hK hP 2 rfl rfl 2 (by decide) hf_15 (fun _ h9 => h9) rfl dX2_mostBy_16 ?_
  refine lv_iload_n hx hb dX2_mostBy_19 rfl (lv_at hl 1 rfl) ?_
  refine lv_iload_n hx hb dX2_mostBy_20 rfl (lv_at hl 3 rfl) ?_
  refine am_callRi (W.runS (As := [.int (ac_la j), .int (nI b)]) (rest := [.ref (ad 17), .long ((al 18) ((sn ||| 2 ^ b) * 10 + b))]) ⟨hx, hb, hml, hown, hts⟩ (c_X2_stepPlace l D _ _ j b hj hb2) (va_cwS 2 hts (am_gS (am_in 296 rfl) (am_in 297 rfl) (am_in 32 rfl) (am_in 298 rfl)) rfl rfl rfl (by decide +kernel) ⟨Nat.le_of_ble_eq_true rfl, Nat.le_of_ble_eq_true rfl⟩) (am_preSR hP hK hN) rfl rfl hl.1 rfl (lv_room (Nat.le_of_ble_eq_true rfl)) dX2_mostBy_21 ⟨Nat.zero_le _, Nat.zero_le _⟩) ?_
  refine am_lald hx hb hK hP 17 1 rfl rfl (ac_pl j b) rfl (ac_pl_lt hj hb2) (by decide) dX2_mostBy_24 ?_
  refine lv_lsub hx hb dX2_mostBy_25 ?_
  exact am_lretR hx hb hr hlocks rfl dX2_mostBy_26

set_option maxHeartbeats 4000000 in
set_option maxRecDepth 100000 in
theorem c_X2_mostFrom (l : Launch) (D : va_G) (ad : Nat → Nat) (cI cL : ClassId) (fi : Nat → Int32) (fl : Nat → Int64) (ai : Nat → Nat → Int32) (al : Nat → Nat → Int64) (j : Nat) (sn : Nat) (nx : Int32) (ed : Int64) (na : Nat) (hna : fi 0 = nI na) (hnl : na ≤ 10) (hj : j ≤ 10) (hsn : sn < 1024) : Met l yX2_mostFrom wsX2_mostFrom (am_rm 2 44) (va_Pc [.ref (ad 2), .int (ac_la j), .int (nI sn), .int nx, .long ed] (am_R nwL vwCl D (ac_w ad cI cL fi fl ai al) [(cI, .int), (cL, .long)])) (vp_Sl (fun r => r = ac_mfrom (al 18) (al 17) j sn nx ed na)) 0 0 am_No := by
  refine am_startR (cc := cX2_mostFrom) (maxL := 9) (ret := (some .long)) (by decide) rfl (Nat.le_of_ble_eq_true rfl) [(0, .ref (ad 2)), (1, .int (ac_la j)), (2, .int (nI sn)), (3, .int nx), (4, .long ed)] rfl ?_
  intro p e s m below meth c ls hx hb hr hml hown hts hlocks hP hK hN hl
  have hown : s.vm.findClass RX2 = some m.cls := hown
  have ht := am_ht hts
  have hin_X2 : ∀ w ∈ u_ws RX2 TX2 4, w ∈ wsX2_mostFrom := fun w h => List.mem_cons_of_mem _ (am_inX2 w h)
  have hin_X1 : ∀ w ∈ u_ws RX1 TX1 14, w ∈ wsX2_mostFrom := fun w h => List.mem_cons_of_mem _ (am_inX1 w h)
  have hf_21 := ht 106 (.fieldLink RX2 21 "ApartCost$Planner" "product" "LApartCost$Product;") rfl
  have hf_56 := ht 59 (.fieldLink RX2 56 "ApartCost$Product" "acts" "I") rfl
  refine lv_lload hx hb dX2_mostFrom_0 (lv_at hl 4 rfl) ?_
  refine lv_lstore (lv' := [(6, .long ed), (0, .ref (ad 2)), (1, .int (ac_la j)), (2, .int (nI sn)), (3, .int nx), (4, .long ed)]) hx hb dX2_mostFrom_2 hl (by decide) rfl (fun ls hl => ?_)
  refine lv_iconst (v := 0) hx hb dX2_mostFrom_4 (by decide) ?_
  refine lv_istore (lv' := [(8, .int 0), (6, .long ed), (0, .ref (ad 2)), (1, .int (ac_la j)), (2, .int (nI sn)), (3, .int nx), (4, .long ed)]) hx hb dX2_mostFrom_5 hl (by decide) rfl (fun ls hl => ?_)
  refine am_loopR (σ := Nat) (fun q n9 ls => n9 = na - q ∧ q ≤ na ∧ lv_has ls 9 [(0, .ref (ad 2)), (1, .int (ac_la j)), (2, .int (nI sn)), (3, .int nx), (4, .long ed), (6, .long (ac_mfrom (al 18) (al 17) j sn nx ed q)), (8, .int (nI q))]) ?_ 0 (na - 0) ls ⟨rfl, (by omega), lv_sub hl [2, 3, 4, 5, 6, 1, 0] rfl⟩
  rintro k n9 ls ⟨hn_7, hk, hl⟩ ih_7
  refine lv_iload hx hb dX2_mostFrom_7 (lv_at hl 6 rfl) ?_
  refine lv_aload_n hx hb dX2_mostFrom_9 rfl (lv_at hl 0 rfl) ?_
  refine va_get (D := D) (ci := 2) (v := .ref (ad 1)) (C := RX2) (T := TX2) (N := 4) hx hb hts hin_X2 hown hK hP 2 rfl rfl 0 (by decide) hf_21 (fun _ h9 => h9) rfl dX2_mostFrom_10 ?_
  refine va_get (D := D) (ci := 1) (v := .int (fi 0)) (C := RX1) (T := TX1) (N := 14) hx hb hts hin_X1 hown hK hP 1 rfl rfl 0 (by decide) hf_56 (fun _ h9 => h9) rfl dX2_mostFrom_13 ?_
  refine lv_icmp_ge (tgt := 49) hx hb dX2_mostFrom_16 (by decide) (fun c_16 => ?_) (fun c_16 => ?_)
  · skip
    have hke_16 : na ≤ k := (am_ge hna (by omega) (by omega)).mp c_16
    have hkq_16 : na = k := by omega
    subst hkq_16
    refine lv_lload hx hb dX2_mostFrom_49 (lv_at hl 5 rfl) ?_
    exact am_lretR hx hb hr hlocks (by first | rfl | (simp only [c_16, if_true, if_false, eq_self, not_true_eq_false, not_false_eq_true, ite_true, ite_false, ↓reduceIte]; done) | (simp [c_16]; done)) dX2_mostFrom_51
  · skip
    have hkl_16 : k < na := Nat.lt_of_not_le (fun z => c_16 ((am_ge hna (by omega) (by omega)).mpr z))
    refine lv_iload_n hx hb dX2_mostFrom_19 rfl (lv_at hl 3 rfl) ?_
    refine lv_iload hx hb dX2_mostFrom_20 (lv_at hl 6 rfl) ?_
    refine am_callRi (va_Run.run (va_runSN (As := [.int nx, .int (nI k)]) (rest := []) ⟨hx, hb, hml, hown, hts⟩ (c_X0_has l D _ _ nx (nI k)) ⟨va_cnB 2 hts (am_gN (am_in 206 rfl)) rfl rfl rfl (am_nw_at hN 2 rfl) (ht 29 _ rfl) (by decide +kernel) ⟨Nat.le_of_ble_eq_true rfl, Nat.le_of_ble_eq_true rfl⟩, (ht 205 _ rfl), trivial⟩ (am_preSR hP hK hN) rfl rfl hl.1 rfl (lv_room (Nat.le_of_ble_eq_true rfl)) dX2_mostFrom_22 ⟨Nat.zero_le _, Nat.zero_le _⟩)) ?_
    refine lv_if_eq (tgt := 43) hx hb dX2_mostFrom_25 (by decide) (fun c_25 => ?_) (fun c_25 => ?_)
    · skip
      refine lv_iinc (v := nI (k + 1)) (lv' := [(8, .int (nI (k + 1))), (0, .ref (ad 2)), (1, .int (ac_la j)), (2, .int (nI sn)), (3, .int nx), (4, .long ed), (6, .long (ac_mfrom (al 18) (al 17) j sn nx ed k))]) hx hb dX2_mostFrom_43 hl (k := 6) rfl (nI_1 k) (by decide) rfl (fun ls hl => ?_)
      refine lv_goto (tgt := 7) hx hb dX2_mostFrom_46 (by decide) ?_
      have e_7_0 : ac_mfrom (al 18) (al 17) j sn nx ed (k + 1) = ac_mfrom (al 18) (al 17) j sn nx ed k := by first | rfl | (simp only [ac_mfrom, c_16, c_25, if_true, if_false, eq_self, not_true_eq_false, not_false_eq_true, ite_true, ite_false, ↓reduceIte]; done) | (simp [ac_mfrom, c_16, c_25]; done)
      refine ih_7 (k + 1) (na - (k + 1)) ls (by omega) ⟨rfl, (by omega), ?_⟩
      try dsimp only
      rw [e_7_0]
      exact lv_sub hl [1, 2, 3, 4, 5, 6, 0] rfl
    · skip
      refine lv_lload hx hb dX2_mostFrom_28 (lv_at hl 5 rfl) ?_
      refine lv_aload_n hx hb dX2_mostFrom_30 rfl (lv_at hl 0 rfl) ?_
      refine lv_iload_n hx hb dX2_mostFrom_31 rfl (lv_at hl 1 rfl) ?_
      refine lv_iload_n hx hb dX2_mostFrom_32 rfl (lv_at hl 2 rfl) ?_
      refine lv_iload hx hb dX2_mostFrom_33 (lv_at hl 6 rfl) ?_
      refine am_callRl (W.runV (As := [.int (ac_la j), .int (nI sn), .int (nI k)]) (rest := [.long (ac_mfrom (al 18) (al 17) j sn nx ed k)]) ⟨hx, hb, hml, hown, hts⟩ (c_X2_mostBy l D ad cI cL fi fl ai al j sn k hj hsn (by omega)) (cwV 3 hts (am_gV (am_in 332 rfl) (am_in 333 rfl) (am_in 6 rfl) (am_in 32 rfl) (am_in 334 rfl)) rfl rfl rfl (by decide +kernel) ⟨Nat.le_of_ble_eq_true rfl, Nat.le_of_ble_eq_true rfl⟩) (am_preVR 2 2 rfl rfl rfl hP hK hN) rfl rfl hl.1 rfl (lv_room (Nat.le_of_ble_eq_true rfl)) dX2_mostFrom_35 ⟨Nat.zero_le _, Nat.zero_le _⟩) ?_
      refine va_mmax_long hx hb (hml.trans hl.1.symm) hown (ht 335 _ rfl) (ht 336 _ rfl) (ht 37 _ rfl) (ht 337 _ rfl) (Nat.le_of_ble_eq_true rfl) (Nat.le_of_ble_eq_true rfl) (Nat.zero_le _) (Nat.zero_le _) dX2_mostFrom_38 ?_
      refine am_topl (y := ac_max (ac_mfrom (al 18) (al 17) j sn nx ed k) (ac_mby (al 18) (al 17) j sn k)) rfl ?_
      refine lv_lstore (lv' := [(6, .long (ac_max (ac_mfrom (al 18) (al 17) j sn nx ed k) (ac_mby (al 18) (al 17) j sn k))), (0, .ref (ad 2)), (1, .int (ac_la j)), (2, .int (nI sn)), (3, .int nx), (4, .long ed), (8, .int (nI k))]) hx hb dX2_mostFrom_41 hl (by decide) rfl (fun ls hl => ?_)
      refine lv_iinc (v := nI (k + 1)) (lv' := [(8, .int (nI (k + 1))), (6, .long (ac_max (ac_mfrom (al 18) (al 17) j sn nx ed k) (ac_mby (al 18) (al 17) j sn k))), (0, .ref (ad 2)), (1, .int (ac_la j)), (2, .int (nI sn)), (3, .int nx), (4, .long ed)]) hx hb dX2_mostFrom_43 hl (k := 6) rfl (nI_1 k) (by decide) rfl (fun ls hl => ?_)
      refine lv_goto (tgt := 7) hx hb dX2_mostFrom_46 (by decide) ?_
      have e_7_0 : ac_mfrom (al 18) (al 17) j sn nx ed (k + 1) = ac_max (ac_mfrom (al 18) (al 17) j sn nx ed k) (ac_mby (al 18) (al 17) j sn k) := by first | rfl | (simp only [ac_mfrom, c_16, c_25, if_true, if_false, eq_self, not_true_eq_false, not_false_eq_true, ite_true, ite_false, ↓reduceIte]; done) | (simp [ac_mfrom, c_16, c_25]; done)
      refine ih_7 (k + 1) (na - (k + 1)) ls (by omega) ⟨rfl, (by omega), ?_⟩
      try dsimp only
      rw [e_7_0]
      exact lv_sub hl [2, 3, 4, 5, 6, 1, 0] rfl

set_option maxHeartbeats 4000000 in
set_option maxRecDepth 100000 in
theorem c_X2_endOf (l : Launch) (D : va_G) (ad : Nat → Nat) (cI cL : ClassId) (fi : Nat → Int32) (fl : Nat → Int64) (ai : Nat → Nat → Int32) (al : Nat → Nat → Int64) (x : Int32) (na : Nat) (nr : Nat) (hna : fi 0 = nI na) (hnl : na ≤ 10) (hnr : fi 2 = nI nr) (hnrl : nr ≤ 16) : Met l yX2_endOf wsX2_endOf (am_rm 3 65) (va_Pc [.ref (ad 2), .int x] (am_R nwL vwCl D (ac_w ad cI cL fi fl ai al) [(cI, .int), (cL, .long)])) (vp_Sl (fun r => r = ac_end (ai 5) (ai 14) (al 15) (al 16) (fi 1) na nr x)) 0 0 am_No := by
  refine am_startR (cc := cX2_endOf) (maxL := 6) (ret := (some .long)) (by decide) rfl (Nat.le_of_ble_eq_true rfl) [(0, .ref (ad 2)), (1, .int x)] rfl ?_
  intro p e s m below meth c ls hx hb hr hml hown hts hlocks hP hK hN hl
  have hown : s.vm.findClass RX2 = some m.cls := hown
  have ht := am_ht hts
  have hin_X2 : ∀ w ∈ u_ws RX2 TX2 4, w ∈ wsX2_endOf := fun w h => List.mem_cons_of_mem _ (am_inX2 w h)
  have hf_21 := ht 106 (.fieldLink RX2 21 "ApartCost$Planner" "product" "LApartCost$Product;") rfl
  have hf_9 := ht 108 (.fieldLink RX2 9 "ApartCost$Planner" "values" "[J") rfl
  refine lv_aload_n hx hb dX2_endOf_0 rfl (lv_at hl 0 rfl) ?_
  refine va_get (D := D) (ci := 2) (v := .ref (ad 1)) (C := RX2) (T := TX2) (N := 4) hx hb hts hin_X2 hown hK hP 2 rfl rfl 0 (by decide) hf_21 (fun _ h9 => h9) rfl dX2_endOf_1 ?_
  refine lv_iload_n hx hb dX2_endOf_4 rfl (lv_at hl 1 rfl) ?_
  refine am_callRi (W.runV (As := [.int x]) (rest := []) ⟨hx, hb, hml, hown, hts⟩ (c_X1_wholeBy l D ad cI cL fi fl ai al x na hna hnl) (cwV 1 hts (am_gV (am_in 316 rfl) (am_in 317 rfl) (am_in 318 rfl) (am_in 30 rfl) (am_in 319 rfl)) rfl rfl rfl (by decide +kernel) ⟨Nat.le_of_ble_eq_true rfl, Nat.le_of_ble_eq_true rfl⟩) (am_preVR 1 1 rfl rfl rfl hP hK hN) rfl rfl hl.1 rfl (lv_room (Nat.le_of_ble_eq_true rfl)) dX2_endOf_5 ⟨Nat.zero_le _, Nat.zero_le _⟩) ?_
  refine lv_istore_n (lv' := [(2, .int (ac_whole (ai 5) (fi 1) na x)), (0, .ref (ad 2)), (1, .int x)]) hx hb dX2_endOf_8 rfl hl (by decide) rfl (fun ls hl => ?_)
  refine lv_aload_n hx hb dX2_endOf_9 rfl (lv_at hl 1 rfl) ?_
  refine va_get (D := D) (ci := 2) (v := .ref (ad 1)) (C := RX2) (T := TX2) (N := 4) hx hb hts hin_X2 hown hK hP 2 rfl rfl 0 (by decide) hf_21 (fun _ h9 => h9) rfl dX2_endOf_10 ?_
  refine lv_sipush (v := 4095) hx hb dX2_endOf_13 (by decide) ?_
  refine lv_aload_n hx hb dX2_endOf_16 rfl (lv_at hl 1 rfl) ?_
  refine va_get (D := D) (ci := 2) (v := .ref (ad 1)) (C := RX2) (T := TX2) (N := 4) hx hb hts hin_X2 hown hK hP 2 rfl rfl 0 (by decide) hf_21 (fun _ h9 => h9) rfl dX2_endOf_17 ?_
  refine lv_iload_n hx hb dX2_endOf_20 rfl (lv_at hl 2 rfl) ?_
  refine am_callRi (W.runV (As := [.int x]) (rest := [.int 4095, .ref (ad 1)]) ⟨hx, hb, hml, hown, hts⟩ (c_X1_freedBy l D ad cI cL fi fl ai al x na hna hnl) (cwV 1 hts (am_gV (am_in 324 rfl) (am_in 321 rfl) (am_in 322 rfl) (am_in 30 rfl) (am_in 323 rfl)) rfl rfl rfl (by decide +kernel) ⟨Nat.le_of_ble_eq_true rfl, Nat.le_of_ble_eq_true rfl⟩) (am_preVR 1 1 rfl rfl rfl hP hK hN) rfl rfl hl.1 rfl (lv_room (Nat.le_of_ble_eq_true rfl)) dX2_endOf_21 ⟨Nat.zero_le _, Nat.zero_le _⟩) ?_
  refine lv_iconst (v := (-1)) hx hb dX2_endOf_24 (by decide) ?_
  refine lv_ixor hx hb dX2_endOf_25 ?_
  refine lv_iand hx hb dX2_endOf_26 ?_
  refine am_callRl (W.runV (As := [.int (4095 &&& ((ac_freed (ai 5) x na) ^^^ (-1)))]) (rest := []) ⟨hx, hb, hml, hown, hts⟩ (c_X1_restWorth l D ad cI cL fi fl ai al (4095 &&& ((ac_freed (ai 5) x na) ^^^ (-1))) nr hnr hnrl) (cwV 1 hts (am_gV (am_in 325 rfl) (am_in 326 rfl) (am_in 327 rfl) (am_in 30 rfl) (am_in 328 rfl)) rfl rfl rfl (by decide +kernel) ⟨Nat.le_of_ble_eq_true rfl, Nat.le_of_ble_eq_true rfl⟩) (am_preVR 1 1 rfl rfl rfl hP hK hN) rfl rfl hl.1 rfl (lv_room (Nat.le_of_ble_eq_true rfl)) dX2_endOf_27 ⟨Nat.zero_le _, Nat.zero_le _⟩) ?_
  refine lv_ldc2 (v := 27720) hx hb hown (ht 303 _ rfl) dX2_endOf_30 ?_
  refine lv_lmul hx hb dX2_endOf_33 ?_
  refine lv_lstore_n (lv' := [(3, .long ((ac_restW (ai 14) (al 15) nr (4095 &&& ((ac_freed (ai 5) x na) ^^^ (-1)))) * 27720)), (2, .int (ac_whole (ai 5) (fi 1) na x)), (0, .ref (ad 2)), (1, .int x)]) hx hb dX2_endOf_34 rfl hl (by decide) rfl (fun ls hl => ?_)
  refine lv_iconst (v := 0) hx hb dX2_endOf_35 (by decide) ?_
  refine lv_istore (lv' := [(5, .int 0), (3, .long ((ac_restW (ai 14) (al 15) nr (4095 &&& ((ac_freed (ai 5) x na) ^^^ (-1)))) * 27720)), (2, .int (ac_whole (ai 5) (fi 1) na x)), (0, .ref (ad 2)), (1, .int x)]) hx hb dX2_endOf_36 hl (by decide) rfl (fun ls hl => ?_)
  refine am_loopR (σ := Nat) (fun q n9 ls => n9 = 12 - q ∧ q ≤ 12 ∧ lv_has ls 6 [(0, .ref (ad 2)), (1, .int x), (2, .int (ac_whole (ai 5) (fi 1) na x)), (3, .long (ac_endl (al 16) (ac_whole (ai 5) (fi 1) na x) (ac_restW (ai 14) (al 15) nr (4095 &&& (ac_freed (ai 5) x na ^^^ (-1))) * 27720) q)), (5, .int (nI q))]) ?_ 0 (12 - 0) ls ⟨rfl, (by omega), lv_sub hl [3, 4, 2, 1, 0] rfl⟩
  rintro k n9 ls ⟨hn_38, hk, hl⟩ ih_38
  refine lv_iload hx hb dX2_endOf_38 (lv_at hl 4 rfl) ?_
  refine lv_bipush (v := 12) hx hb dX2_endOf_40 (by decide) ?_
  refine lv_icmp_ge (tgt := 70) hx hb dX2_endOf_42 (by decide) (fun c_42 => ?_) (fun c_42 => ?_)
  · skip
    have hke_42 : 12 ≤ k := (am_ge (rfl : (12 : Int32) = nI 12) (by decide) (by omega)).mp c_42
    have hkq_42 : k = 12 := by omega
    subst hkq_42
    refine lv_lload_n hx hb dX2_endOf_70 rfl (lv_at hl 3 rfl) ?_
    exact am_lretR hx hb hr hlocks (by first | rfl | (simp only [ac_end, c_42, if_true, if_false, eq_self, not_true_eq_false, not_false_eq_true, ite_true, ite_false, ↓reduceIte]; done) | (simp [ac_end, c_42]; done)) dX2_endOf_71
  · skip
    have hkl_42 : k < 12 := Nat.lt_of_not_le (fun z => c_42 ((am_ge (rfl : (12 : Int32) = nI 12) (by decide) (by omega)).mpr z))
    refine lv_iload_n hx hb dX2_endOf_45 rfl (lv_at hl 2 rfl) ?_
    refine lv_iload hx hb dX2_endOf_46 (lv_at hl 4 rfl) ?_
    refine am_callRi (va_Run.run (va_runSN (As := [.int (ac_whole (ai 5) (fi 1) na x), .int (nI k)]) (rest := []) ⟨hx, hb, hml, hown, hts⟩ (c_X0_has l D _ _ (ac_whole (ai 5) (fi 1) na x) (nI k)) ⟨va_cnB 2 hts (am_gN (am_in 206 rfl)) rfl rfl rfl (am_nw_at hN 2 rfl) (ht 29 _ rfl) (by decide +kernel) ⟨Nat.le_of_ble_eq_true rfl, Nat.le_of_ble_eq_true rfl⟩, (ht 205 _ rfl), trivial⟩ (am_preSR hP hK hN) rfl rfl hl.1 rfl (lv_room (Nat.le_of_ble_eq_true rfl)) dX2_endOf_48 ⟨Nat.zero_le _, Nat.zero_le _⟩)) ?_
    refine lv_if_eq (tgt := 64) hx hb dX2_endOf_51 (by decide) (fun c_51 => ?_) (fun c_51 => ?_)
    · skip
      refine lv_iinc (v := nI (k + 1)) (lv' := [(5, .int (nI (k + 1))), (0, .ref (ad 2)), (1, .int x), (2, .int (ac_whole (ai 5) (fi 1) na x)), (3, .long (ac_endl (al 16) (ac_whole (ai 5) (fi 1) na x) (ac_restW (ai 14) (al 15) nr (4095 &&& (ac_freed (ai 5) x na ^^^ (-1))) * 27720) k))]) hx hb dX2_endOf_64 hl (k := 4) rfl (nI_1 k) (by decide) rfl (fun ls hl => ?_)
      refine lv_goto (tgt := 38) hx hb dX2_endOf_67 (by decide) ?_
      have e_38_0 : ac_endl (al 16) (ac_whole (ai 5) (fi 1) na x) (ac_restW (ai 14) (al 15) nr (4095 &&& (ac_freed (ai 5) x na ^^^ (-1))) * 27720) (k + 1) = ac_endl (al 16) (ac_whole (ai 5) (fi 1) na x) (ac_restW (ai 14) (al 15) nr (4095 &&& (ac_freed (ai 5) x na ^^^ (-1))) * 27720) k := by first | rfl | (simp only [ac_endl, c_42, c_51, if_true, if_false, eq_self, not_true_eq_false, not_false_eq_true, ite_true, ite_false, ↓reduceIte]; done) | (simp [ac_endl, c_42, c_51]; done)
      refine ih_38 (k + 1) (12 - (k + 1)) ls (by omega) ⟨rfl, (by omega), ?_⟩
      try dsimp only
      rw [e_38_0]
      exact lv_sub hl [1, 2, 3, 4, 0] rfl
    · skip
      refine lv_lload_n hx hb dX2_endOf_54 rfl (lv_at hl 3 rfl) ?_
      refine lv_aload_n hx hb dX2_endOf_55 rfl (lv_at hl 0 rfl) ?_
      refine va_get (D := D) (ci := 2) (v := .ref (ad 16)) (C := RX2) (T := TX2) (N := 4) hx hb hts hin_X2 hown hK hP 2 rfl rfl 1 (by decide) hf_9 (fun _ h9 => h9) rfl dX2_endOf_56 ?_
      refine lv_iload hx hb dX2_endOf_59 (lv_at hl 4 rfl) ?_
      refine am_lald hx hb hK hP 16 1 rfl rfl k rfl (by omega) (by decide) dX2_endOf_61 ?_
      refine lv_ladd hx hb dX2_endOf_62 ?_
      refine lv_lstore_n (lv' := [(3, .long ((ac_endl (al 16) (ac_whole (ai 5) (fi 1) na x) (ac_restW (ai 14) (al 15) nr (4095 &&& (ac_freed (ai 5) x na ^^^ (-1))) * 27720) k) + ((al 16) k))), (0, .ref (ad 2)), (1, .int x), (2, .int (ac_whole (ai 5) (fi 1) na x)), (5, .int (nI k))]) hx hb dX2_endOf_63 rfl hl (by decide) rfl (fun ls hl => ?_)
      refine lv_iinc (v := nI (k + 1)) (lv' := [(5, .int (nI (k + 1))), (3, .long ((ac_endl (al 16) (ac_whole (ai 5) (fi 1) na x) (ac_restW (ai 14) (al 15) nr (4095 &&& (ac_freed (ai 5) x na ^^^ (-1))) * 27720) k) + ((al 16) k))), (0, .ref (ad 2)), (1, .int x), (2, .int (ac_whole (ai 5) (fi 1) na x))]) hx hb dX2_endOf_64 hl (k := 4) rfl (nI_1 k) (by decide) rfl (fun ls hl => ?_)
      refine lv_goto (tgt := 38) hx hb dX2_endOf_67 (by decide) ?_
      have e_38_0 : ac_endl (al 16) (ac_whole (ai 5) (fi 1) na x) (ac_restW (ai 14) (al 15) nr (4095 &&& (ac_freed (ai 5) x na ^^^ (-1))) * 27720) (k + 1) = (ac_endl (al 16) (ac_whole (ai 5) (fi 1) na x) (ac_restW (ai 14) (al 15) nr (4095 &&& (ac_freed (ai 5) x na ^^^ (-1))) * 27720) k) + ((al 16) k) := by first | rfl | (simp only [ac_endl, c_42, c_51, if_true, if_false, eq_self, not_true_eq_false, not_false_eq_true, ite_true, ite_false, ↓reduceIte]; done) | (simp [ac_endl, c_42, c_51]; done)
      refine ih_38 (k + 1) (12 - (k + 1)) ls (by omega) ⟨rfl, (by omega), ?_⟩
      try dsimp only
      rw [e_38_0]
      exact lv_sub hl [2, 3, 4, 1, 0] rfl

set_option maxHeartbeats 4000000 in
set_option maxRecDepth 100000 in
theorem c_X2_bestNext (l : Launch) (D : va_G) (ad : Nat → Nat) (cI cL : ClassId) (fi : Nat → Int32) (fl : Nat → Int64) (ai : Nat → Nat → Int32) (al : Nat → Nat → Int64) (sn : Nat) (j : Nat) (na : Nat) (nr : Nat) (hna : fi 0 = nI na) (hnl : na ≤ 10) (hnr : fi 2 = nI nr) (hnrl : nr ≤ 16) (hj : j ≤ 10) (hsn : sn < 1024) : Met l yX2_bestNext wsX2_bestNext (am_rm 4 90) (va_Pc [.ref (ad 2), .int (nI sn), .int (ac_la j)] (am_R nwL vwCl D (ac_w ad cI cL fi fl ai al) [(cI, .int), (cL, .long)])) (vp_Si (fun r => r = ac_la (ac_bn (ai 5) (ai 14) (ai 9) (al 15) (al 16) (al 17) (al 18) (fi 1) na nr sn j))) 0 0 am_No := by
  refine am_startR (cc := cX2_bestNext) (maxL := 9) (ret := (some .int)) (by decide) rfl (Nat.le_of_ble_eq_true rfl) [(0, .ref (ad 2)), (1, .int (nI sn)), (2, .int (ac_la j))] rfl ?_
  intro p e s m below meth c ls hx hb hr hml hown hts hlocks hP hK hN hl
  have hown : s.vm.findClass RX2 = some m.cls := hown
  have ht := am_ht hts
  have hin_X2 : ∀ w ∈ u_ws RX2 TX2 4, w ∈ wsX2_bestNext := fun w h => List.mem_cons_of_mem _ (am_inX2 w h)
  have hin_X1 : ∀ w ∈ u_ws RX1 TX1 14, w ∈ wsX2_bestNext := fun w h => List.mem_cons_of_mem _ (am_inX1 w h)
  have hf_21 := ht 106 (.fieldLink RX2 21 "ApartCost$Planner" "product" "LApartCost$Product;") rfl
  have hf_56 := ht 59 (.fieldLink RX2 56 "ApartCost$Product" "acts" "I") rfl
  refine lv_aload_n hx hb dX2_bestNext_0 rfl (lv_at hl 0 rfl) ?_
  refine va_get (D := D) (ci := 2) (v := .ref (ad 1)) (C := RX2) (T := TX2) (N := 4) hx hb hts hin_X2 hown hK hP 2 rfl rfl 0 (by decide) hf_21 (fun _ h9 => h9) rfl dX2_bestNext_1 ?_
  refine lv_iload_n hx hb dX2_bestNext_4 rfl (lv_at hl 1 rfl) ?_
  refine am_callRi (W.runV (As := [.int (nI sn)]) (rest := []) ⟨hx, hb, hml, hown, hts⟩ (c_X1_nextsOf l D ad cI cL fi fl ai al (nI sn) na hna hnl) (cwV 1 hts (am_gV (am_in 309 rfl) (am_in 310 rfl) (am_in 311 rfl) (am_in 30 rfl) (am_in 312 rfl)) rfl rfl rfl (by decide +kernel) ⟨Nat.le_of_ble_eq_true rfl, Nat.le_of_ble_eq_true rfl⟩) (am_preVR 1 1 rfl rfl rfl hP hK hN) rfl rfl hl.1 rfl (lv_room (Nat.le_of_ble_eq_true rfl)) dX2_bestNext_5 ⟨Nat.zero_le _, Nat.zero_le _⟩) ?_
  refine lv_istore_n (lv' := [(3, .int (ac_nexts (ai 9) (nI sn) na)), (0, .ref (ad 2)), (1, .int (nI sn)), (2, .int (ac_la j))]) hx hb dX2_bestNext_8 rfl hl (by decide) rfl (fun ls hl => ?_)
  refine lv_aload_n hx hb dX2_bestNext_9 rfl (lv_at hl 1 rfl) ?_
  refine lv_iload_n hx hb dX2_bestNext_10 rfl (lv_at hl 2 rfl) ?_
  refine am_callRl (W.runV (As := [.int (nI sn)]) (rest := []) ⟨hx, hb, hml, hown, hts⟩ (c_X2_endOf l D ad cI cL fi fl ai al (nI sn) na nr hna hnl hnr hnrl) (cwV 1 hts (am_gV (am_in 313 rfl) (am_in 314 rfl) (am_in 4 rfl) (am_in 32 rfl) (am_in 315 rfl)) rfl rfl rfl (by decide +kernel) ⟨Nat.le_of_ble_eq_true rfl, Nat.le_of_ble_eq_true rfl⟩) (am_preVR 2 2 rfl rfl rfl hP hK hN) rfl rfl hl.1 rfl (lv_room (Nat.le_of_ble_eq_true rfl)) dX2_bestNext_11 ⟨Nat.zero_le _, Nat.zero_le _⟩) ?_
  refine lv_lstore (lv' := [(4, .long (ac_end (ai 5) (ai 14) (al 15) (al 16) (fi 1) na nr (nI sn))), (3, .int (ac_nexts (ai 9) (nI sn) na)), (0, .ref (ad 2)), (1, .int (nI sn)), (2, .int (ac_la j))]) hx hb dX2_bestNext_14 hl (by decide) rfl (fun ls hl => ?_)
  refine lv_aload_n hx hb dX2_bestNext_16 rfl (lv_at hl 2 rfl) ?_
  refine lv_iload_n hx hb dX2_bestNext_17 rfl (lv_at hl 4 rfl) ?_
  refine lv_iload_n hx hb dX2_bestNext_18 rfl (lv_at hl 3 rfl) ?_
  refine lv_iload_n hx hb dX2_bestNext_19 rfl (lv_at hl 1 rfl) ?_
  refine lv_lload hx hb dX2_bestNext_20 (lv_at hl 0 rfl) ?_
  refine am_callRl (W.runV (As := [.int (ac_la j), .int (nI sn), .int (ac_nexts (ai 9) (nI sn) na), .long (ac_end (ai 5) (ai 14) (al 15) (al 16) (fi 1) na nr (nI sn))]) (rest := []) ⟨hx, hb, hml, hown, hts⟩ (c_X2_mostFrom l D ad cI cL fi fl ai al j sn (ac_nexts (ai 9) (nI sn) na) (ac_end (ai 5) (ai 14) (al 15) (al 16) (fi 1) na nr (nI sn)) na hna hnl hj hsn) (cwV 4 hts (am_gV (am_in 329 rfl) (am_in 330 rfl) (am_in 5 rfl) (am_in 32 rfl) (am_in 331 rfl)) rfl rfl rfl (by decide +kernel) ⟨Nat.le_of_ble_eq_true rfl, Nat.le_of_ble_eq_true rfl⟩) (am_preVR 2 2 rfl rfl rfl hP hK hN) rfl rfl hl.1 rfl (lv_room (Nat.le_of_ble_eq_true rfl)) dX2_bestNext_22 ⟨Nat.zero_le _, Nat.zero_le _⟩) ?_
  refine lv_lstore (lv' := [(6, .long (ac_mfrom (al 18) (al 17) j sn (ac_nexts (ai 9) (nI sn) na) (ac_end (ai 5) (ai 14) (al 15) (al 16) (fi 1) na nr (nI sn)) na)), (4, .long (ac_end (ai 5) (ai 14) (al 15) (al 16) (fi 1) na nr (nI sn))), (3, .int (ac_nexts (ai 9) (nI sn) na)), (0, .ref (ad 2)), (1, .int (nI sn)), (2, .int (ac_la j))]) hx hb dX2_bestNext_25 hl (by decide) rfl (fun ls hl => ?_)
  refine lv_lload hx hb dX2_bestNext_27 (lv_at hl 0 rfl) ?_
  refine lv_lload hx hb dX2_bestNext_29 (lv_at hl 1 rfl) ?_
  refine W.lcmp hx hb dX2_bestNext_31 ?_
  refine lv_if_ne (tgt := 37) hx hb dX2_bestNext_32 (by decide) (fun c_32 => ?_) (fun c_32 => ?_)
  · skip
    have c_32 : ¬ (ac_mfrom (al 18) (al 17) j sn (ac_nexts (ai 9) (nI sn) na) (ac_end (ai 5) (ai 14) (al 15) (al 16) (fi 1) na nr (nI sn)) na) = (ac_end (ai 5) (ai 14) (al 15) (al 16) (fi 1) na nr (nI sn)) := (fun z => c_32 ((lg_cmp_eq _ _).mpr z))
    refine lv_iconst (v := 0) hx hb dX2_bestNext_37 (by decide) ?_
    refine lv_istore (lv' := [(8, .int 0), (6, .long (ac_mfrom (al 18) (al 17) j sn (ac_nexts (ai 9) (nI sn) na) (ac_end (ai 5) (ai 14) (al 15) (al 16) (fi 1) na nr (nI sn)) na)), (4, .long (ac_end (ai 5) (ai 14) (al 15) (al 16) (fi 1) na nr (nI sn))), (3, .int (ac_nexts (ai 9) (nI sn) na)), (0, .ref (ad 2)), (1, .int (nI sn)), (2, .int (ac_la j))]) hx hb dX2_bestNext_38 hl (by decide) rfl (fun ls hl => ?_)
    refine am_loopR (σ := Nat) (fun q n9 ls => n9 = na - q ∧ q ≤ na ∧ ac_bnl (al 18) (al 17) j sn (ac_nexts (ai 9) (nI sn) na) (ac_mfrom (al 18) (al 17) j sn (ac_nexts (ai 9) (nI sn) na) (ac_end (ai 5) (ai 14) (al 15) (al 16) (fi 1) na nr (nI sn)) na) na 0 = ac_bnl (al 18) (al 17) j sn (ac_nexts (ai 9) (nI sn) na) (ac_mfrom (al 18) (al 17) j sn (ac_nexts (ai 9) (nI sn) na) (ac_end (ai 5) (ai 14) (al 15) (al 16) (fi 1) na nr (nI sn)) na) (na - q) q ∧ lv_has ls 9 [(0, .ref (ad 2)), (1, .int (nI sn)), (2, .int (ac_la j)), (3, .int (ac_nexts (ai 9) (nI sn) na)), (4, .long (ac_end (ai 5) (ai 14) (al 15) (al 16) (fi 1) na nr (nI sn))), (6, .long (ac_mfrom (al 18) (al 17) j sn (ac_nexts (ai 9) (nI sn) na) (ac_end (ai 5) (ai 14) (al 15) (al 16) (fi 1) na nr (nI sn)) na)), (8, .int (nI q))]) ?_ 0 (na - 0) ls ⟨rfl, (by omega), rfl, lv_sub hl [4, 5, 6, 3, 2, 1, 0] rfl⟩
    rintro k n9 ls ⟨hn_40, hk, hm, hl⟩ ih_40
    refine lv_iload hx hb dX2_bestNext_40 (lv_at hl 6 rfl) ?_
    refine lv_aload_n hx hb dX2_bestNext_42 rfl (lv_at hl 0 rfl) ?_
    refine va_get (D := D) (ci := 2) (v := .ref (ad 1)) (C := RX2) (T := TX2) (N := 4) hx hb hts hin_X2 hown hK hP 2 rfl rfl 0 (by decide) hf_21 (fun _ h9 => h9) rfl dX2_bestNext_43 ?_
    refine va_get (D := D) (ci := 1) (v := .int (fi 0)) (C := RX1) (T := TX1) (N := 14) hx hb hts hin_X1 hown hK hP 1 rfl rfl 0 (by decide) hf_56 (fun _ h9 => h9) rfl dX2_bestNext_46 ?_
    refine lv_icmp_ge (tgt := 84) hx hb dX2_bestNext_49 (by decide) (fun c_49 => ?_) (fun c_49 => ?_)
    · skip
      have hke_49 : na ≤ k := (am_ge hna (by omega) (by omega)).mp c_49
      have hkq_49 : na = k := by omega
      subst hkq_49
      refine lv_iconst (v := (-1)) hx hb dX2_bestNext_84 (by decide) ?_
      exact am_iretR hx hb hr hlocks (by rw [ac_bn, if_neg c_32, hm, Nat.sub_self, ac_bnl]; rfl) dX2_bestNext_85
    · skip
      have hkl_49 : k < na := Nat.lt_of_not_le (fun z => c_49 ((am_ge hna (by omega) (by omega)).mpr z))
      refine lv_iload_n hx hb dX2_bestNext_52 rfl (lv_at hl 3 rfl) ?_
      refine lv_iload hx hb dX2_bestNext_53 (lv_at hl 6 rfl) ?_
      refine am_callRi (va_Run.run (va_runSN (As := [.int (ac_nexts (ai 9) (nI sn) na), .int (nI k)]) (rest := []) ⟨hx, hb, hml, hown, hts⟩ (c_X0_has l D _ _ (ac_nexts (ai 9) (nI sn) na) (nI k)) ⟨va_cnB 2 hts (am_gN (am_in 206 rfl)) rfl rfl rfl (am_nw_at hN 2 rfl) (ht 29 _ rfl) (by decide +kernel) ⟨Nat.le_of_ble_eq_true rfl, Nat.le_of_ble_eq_true rfl⟩, (ht 205 _ rfl), trivial⟩ (am_preSR hP hK hN) rfl rfl hl.1 rfl (lv_room (Nat.le_of_ble_eq_true rfl)) dX2_bestNext_55 ⟨Nat.zero_le _, Nat.zero_le _⟩)) ?_
      refine lv_if_eq (tgt := 78) hx hb dX2_bestNext_58 (by decide) (fun c_58 => ?_) (fun c_58 => ?_)
      · skip
        refine lv_iinc (v := nI (k + 1)) (lv' := [(8, .int (nI (k + 1))), (0, .ref (ad 2)), (1, .int (nI sn)), (2, .int (ac_la j)), (3, .int (ac_nexts (ai 9) (nI sn) na)), (4, .long (ac_end (ai 5) (ai 14) (al 15) (al 16) (fi 1) na nr (nI sn))), (6, .long (ac_mfrom (al 18) (al 17) j sn (ac_nexts (ai 9) (nI sn) na) (ac_end (ai 5) (ai 14) (al 15) (al 16) (fi 1) na nr (nI sn)) na))]) hx hb dX2_bestNext_78 hl (k := 6) rfl (nI_1 k) (by decide) rfl (fun ls hl => ?_)
        refine lv_goto (tgt := 40) hx hb dX2_bestNext_81 (by decide) ?_
        refine ih_40 (k + 1) (na - (k + 1)) ls (by omega) ⟨rfl, (by omega), (by rw [hm, show na - k = (na - (k + 1)) + 1 by omega, ac_bnl]; simp [c_49, c_58]), ?_⟩
        exact lv_sub hl [1, 2, 3, 4, 5, 6, 0] rfl
      · skip
        refine lv_aload_n hx hb dX2_bestNext_61 rfl (lv_at hl 0 rfl) ?_
        refine lv_iload_n hx hb dX2_bestNext_62 rfl (lv_at hl 2 rfl) ?_
        refine lv_iload_n hx hb dX2_bestNext_63 rfl (lv_at hl 1 rfl) ?_
        refine lv_iload hx hb dX2_bestNext_64 (lv_at hl 6 rfl) ?_
        refine am_callRl (W.runV (As := [.int (ac_la j), .int (nI sn), .int (nI k)]) (rest := []) ⟨hx, hb, hml, hown, hts⟩ (c_X2_mostBy l D ad cI cL fi fl ai al j sn k hj hsn (by omega)) (cwV 3 hts (am_gV (am_in 332 rfl) (am_in 333 rfl) (am_in 6 rfl) (am_in 32 rfl) (am_in 334 rfl)) rfl rfl rfl (by decide +kernel) ⟨Nat.le_of_ble_eq_true rfl, Nat.le_of_ble_eq_true rfl⟩) (am_preVR 2 2 rfl rfl rfl hP hK hN) rfl rfl hl.1 rfl (lv_room (Nat.le_of_ble_eq_true rfl)) dX2_bestNext_66 ⟨Nat.zero_le _, Nat.zero_le _⟩) ?_
        refine lv_lload hx hb dX2_bestNext_69 (lv_at hl 5 rfl) ?_
        refine W.lcmp hx hb dX2_bestNext_71 ?_
        refine lv_if_ne (tgt := 78) hx hb dX2_bestNext_72 (by decide) (fun c_72 => ?_) (fun c_72 => ?_)
        · skip
          have c_72 : ¬ (ac_mby (al 18) (al 17) j sn k) = (ac_mfrom (al 18) (al 17) j sn (ac_nexts (ai 9) (nI sn) na) (ac_end (ai 5) (ai 14) (al 15) (al 16) (fi 1) na nr (nI sn)) na) := (fun z => c_72 ((lg_cmp_eq _ _).mpr z))
          refine lv_iinc (v := nI (k + 1)) (lv' := [(8, .int (nI (k + 1))), (0, .ref (ad 2)), (1, .int (nI sn)), (2, .int (ac_la j)), (3, .int (ac_nexts (ai 9) (nI sn) na)), (4, .long (ac_end (ai 5) (ai 14) (al 15) (al 16) (fi 1) na nr (nI sn))), (6, .long (ac_mfrom (al 18) (al 17) j sn (ac_nexts (ai 9) (nI sn) na) (ac_end (ai 5) (ai 14) (al 15) (al 16) (fi 1) na nr (nI sn)) na))]) hx hb dX2_bestNext_78 hl (k := 6) rfl (nI_1 k) (by decide) rfl (fun ls hl => ?_)
          refine lv_goto (tgt := 40) hx hb dX2_bestNext_81 (by decide) ?_
          refine ih_40 (k + 1) (na - (k + 1)) ls (by omega) ⟨rfl, (by omega), (by rw [hm, show na - k = (na - (k + 1)) + 1 by omega, ac_bnl]; simp [c_49, c_58, c_72]), ?_⟩
          exact lv_sub hl [1, 2, 3, 4, 5, 6, 0] rfl
        · skip
          have c_72 : (ac_mby (al 18) (al 17) j sn k) = (ac_mfrom (al 18) (al 17) j sn (ac_nexts (ai 9) (nI sn) na) (ac_end (ai 5) (ai 14) (al 15) (al 16) (fi 1) na nr (nI sn)) na) := (lg_cmp_eq _ _).mp c_72
          refine lv_iload hx hb dX2_bestNext_75 (lv_at hl 6 rfl) ?_
          exact am_iretR hx hb hr hlocks (by rw [ac_bn, if_neg c_32, hm, show na - k = (na - (k + 1)) + 1 by omega, ac_bnl, if_neg c_58, if_pos c_72]; rfl) dX2_bestNext_77
  · skip
    have c_32 : (ac_mfrom (al 18) (al 17) j sn (ac_nexts (ai 9) (nI sn) na) (ac_end (ai 5) (ai 14) (al 15) (al 16) (fi 1) na nr (nI sn)) na) = (ac_end (ai 5) (ai 14) (al 15) (al 16) (fi 1) na nr (nI sn)) := (lg_cmp_eq _ _).mp c_32
    refine lv_iconst (v := (-1)) hx hb dX2_bestNext_35 (by decide) ?_
    exact am_iretR hx hb hr hlocks (by rw [ac_bn, if_pos c_32]; rfl) dX2_bestNext_36

