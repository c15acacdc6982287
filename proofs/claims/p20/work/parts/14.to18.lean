set_option maxHeartbeats 4000000 in
set_option maxRecDepth 100000 in
theorem c_X2_setSteps (l : Launch) (D : va_G) (ad : Nat → Nat) (cI cL : ClassId) (fi : Nat → Int32) (fl : Nat → Int64) (ai : Nat → Nat → Int32) (al : Nat → Nat → Int64) (A : Nat → Prop) (na : Nat) (hna : fi 0 = nI na) (hnl : na ≤ 10) (hto : ∀ a, a < na → ∃ t, t < 6 ∧ (ai 6) a = nI t) (hsi : ∀ a, a < na → ∃ t, t < 6 ∧ (ai 7) a = nI t) : Met l yX2_setSteps wsX2_setSteps (am_rm 1 26) (va_Pc [.ref (ad 2)] (am_M nwL vwCl D A (ac_w ad cI cL fi fl ai al) [(cI, .int), (cL, .long)])) (am_Mv vwCl D (ac_w ad cI cL fi fl ai (va_up al 17 (ac_sso (ac_cents (ai 6) (ai 7) (al 8) (al 10) (al 11)) na (al 17) na))) A) 0 0 A := by
  refine am_startM (cc := cX2_setSteps) (maxL := 3) (ret := none) (by decide) rfl (Nat.le_of_ble_eq_true rfl) [(0, .ref (ad 2))] rfl ?_
  intro p e s m below meth c ls hx hb hr hml hown hts hlocks hK hN hD H locs hP hS hl
  have hown : s.vm.findClass RX2 = some m.cls := hown
  have ht := am_ht hts
  have hin_X2 : ∀ w ∈ u_ws RX2 TX2 4, w ∈ wsX2_setSteps := fun w h => List.mem_cons_of_mem _ (am_inX2 w h)
  have hin_X1 : ∀ w ∈ u_ws RX1 TX1 14, w ∈ wsX2_setSteps := fun w h => List.mem_cons_of_mem _ (am_inX1 w h)
  have hf_15 := ht 110 (.fieldLink RX2 15 "ApartCost$Planner" "steps" "[J") rfl
  have hf_21 := ht 106 (.fieldLink RX2 21 "ApartCost$Planner" "product" "LApartCost$Product;") rfl
  have hf_56 := ht 59 (.fieldLink RX2 56 "ApartCost$Product" "acts" "I") rfl
  refine lv_iconst (v := 0) hx hb dX2_setSteps_0 (by decide) ?_
  refine lv_istore_n (lv' := [(1, .int 0), (0, .ref (ad 2))]) hx hb dX2_setSteps_1 rfl hl (by decide) rfl (fun ls hl => ?_)
  refine am_loop (σ := Nat) (fun q n9 H locs ls => n9 = na - q ∧ q ≤ na ∧ va_P D vwCl (ac_w ad cI cL fi fl ai (va_up al 17 (ac_sso (ac_cents (ai 6) (ai 7) (al 8) (al 10) (al 11)) na (al 17) q))) H ∧ va_S A s.heap H locs ∧ lv_has ls 3 [(0, .ref (ad 2)), (1, .int (nI q))]) ?_ 0 (na - 0) H locs ls ⟨rfl, (by omega), hP, hS, lv_sub hl [1, 0] rfl⟩
  rintro b n9 H locs ls ⟨hn_2, hk, hP, hS, hl⟩ ih_2
  have hD : va_D A (ac_w ad cI cL fi fl ai (va_up al 17 (ac_sso (ac_cents (ai 6) (ai 7) (al 8) (al 10) (al 11)) na (al 17) b))) := am_D hD rfl
  refine lv_iload_n hx hb dX2_setSteps_2 rfl (lv_at hl 1 rfl) ?_
  refine lv_aload_n hx hb dX2_setSteps_3 rfl (lv_at hl 0 rfl) ?_
  refine va_get (D := D) (ci := 2) (v := .ref (ad 1)) (C := RX2) (T := TX2) (N := 4) hx hb hts hin_X2 hown hK hP 2 rfl rfl 0 (by decide) hf_21 (fun _ h9 => h9) rfl dX2_setSteps_4 ?_
  refine va_get (D := D) (ci := 1) (v := .int (fi 0)) (C := RX1) (T := TX1) (N := 14) hx hb hts hin_X1 hown hK hP 1 rfl rfl 0 (by decide) hf_56 (fun _ h9 => h9) rfl dX2_setSteps_7 ?_
  refine lv_icmp_ge (tgt := 61) hx hb dX2_setSteps_10 (by decide) (fun c_10 => ?_) (fun c_10 => ?_)
  · skip
    have hke_10 : na ≤ b := (am_ge hna (by omega) (by omega)).mp c_10
    have hkq_10 : na = b := by omega
    subst hkq_10
    exact am_vretM hx hb hr hlocks hP hS dX2_setSteps_61
  · skip
    have hkl_10 : b < na := Nat.lt_of_not_le (fun z => c_10 ((am_ge hna (by omega) (by omega)).mpr z))
    refine lv_iconst (v := (-1)) hx hb dX2_setSteps_13 (by decide) ?_
    refine lv_istore_n (lv' := [(2, .int (-1)), (0, .ref (ad 2)), (1, .int (nI b))]) hx hb dX2_setSteps_14 rfl hl (by decide) rfl (fun ls hl => ?_)
    refine am_loop (σ := Nat) (fun q n9 H locs ls => n9 = na + 1 - q ∧ q ≤ na + 1 ∧ va_P D vwCl (ac_w ad cI cL fi fl ai (va_up al 17 (ac_ssi (ac_cents (ai 6) (ai 7) (al 8) (al 10) (al 11)) b (ac_sso (ac_cents (ai 6) (ai 7) (al 8) (al 10) (al 11)) na (al 17) b) q))) H ∧ va_S A s.heap H locs ∧ lv_has ls 3 [(0, .ref (ad 2)), (1, .int (nI b)), (2, .int (ac_la q))]) ?_ 0 (na + 1 - 0) H locs ls ⟨rfl, (by omega), hP, hS, lv_sub hl [1, 2, 0] rfl⟩
    rintro j n9 H locs ls ⟨hn_15, hjk, hP, hS, hl⟩ ih_15
    have hD : va_D A (ac_w ad cI cL fi fl ai (va_up al 17 (ac_ssi (ac_cents (ai 6) (ai 7) (al 8) (al 10) (al 11)) b (ac_sso (ac_cents (ai 6) (ai 7) (al 8) (al 10) (al 11)) na (al 17) b) j))) := am_D hD rfl
    refine lv_iload_n hx hb dX2_setSteps_15 rfl (lv_at hl 2 rfl) ?_
    refine lv_aload_n hx hb dX2_setSteps_16 rfl (lv_at hl 0 rfl) ?_
    refine va_get (D := D) (ci := 2) (v := .ref (ad 1)) (C := RX2) (T := TX2) (N := 4) hx hb hts hin_X2 hown hK hP 2 rfl rfl 0 (by decide) hf_21 (fun _ h9 => h9) rfl dX2_setSteps_17 ?_
    refine va_get (D := D) (ci := 1) (v := .int (fi 0)) (C := RX1) (T := TX1) (N := 14) hx hb hts hin_X1 hown hK hP 1 rfl rfl 0 (by decide) hf_56 (fun _ h9 => h9) rfl dX2_setSteps_20 ?_
    refine lv_icmp_ge (tgt := 55) hx hb dX2_setSteps_23 (by decide) (fun c_23 => ?_) (fun c_23 => ?_)
    · skip
      have hke_23 : na + 1 ≤ j := (ac_la_ge hna (by omega) (by omega)).mp c_23
      have hkq_23 : j = na + 1 := by omega
      subst hkq_23
      refine lv_iinc (v := nI (b + 1)) (lv' := [(1, .int (nI (b + 1))), (0, .ref (ad 2)), (2, .int (ac_la (na + 1)))]) hx hb dX2_setSteps_55 hl (k := 1) rfl (nI_1 b) (by decide) rfl (fun ls hl => ?_)
      refine lv_goto (tgt := 2) hx hb dX2_setSteps_58 (by decide) ?_
      have e_2_0 : (ac_sso (ac_cents (ai 6) (ai 7) (al 8) (al 10) (al 11)) na (al 17) (b + 1)) = (ac_ssi (ac_cents (ai 6) (ai 7) (al 8) (al 10) (al 11)) b (ac_sso (ac_cents (ai 6) (ai 7) (al 8) (al 10) (al 11)) na (al 17) b) (na + 1)) := by first | rfl | (simp only [ac_sso, c_23, if_true, if_false, eq_self, not_true_eq_false, not_false_eq_true, ite_true, ite_false, ↓reduceIte]; done) | (simp [ac_sso, c_23]; done)
      refine ih_2 (b + 1) (na - (b + 1)) H locs ls (by omega) ⟨rfl, (by omega), ?_, hS, ?_⟩
      · (try dsimp only); (try rw [e_2_0]); exact hP
      · (try dsimp only); (try rw [e_2_0]); exact lv_sub hl [1, 0] rfl
    · skip
      have hkl_23 : j < na + 1 := Nat.lt_of_not_le (fun z => c_23 ((ac_la_ge hna (by omega) (by omega)).mpr z))
      refine lv_aload_n hx hb dX2_setSteps_26 rfl (lv_at hl 0 rfl) ?_
      refine va_get (D := D) (ci := 2) (v := .ref (ad 17)) (C := RX2) (T := TX2) (N := 4) hx hb hts hin_X2 hown hK hP 2 rfl rfl 2 (by decide) hf_15 (fun _ h9 => h9) rfl dX2_setSteps_27 ?_
      refine lv_iload_n hx hb dX2_setSteps_30 rfl (lv_at hl 2 rfl) ?_
      refine lv_iload_n hx hb dX2_setSteps_31 rfl (lv_at hl 1 rfl) ?_
      refine am_callRi (W.runS (As := [.int (ac_la j), .int (nI b)]) (rest := [.ref (ad 17)]) ⟨hx, hb, hml, hown, hts⟩ (c_X2_stepPlace l D _ _ j b (by omega) (by omega)) (va_cwS 2 hts (am_gS (am_in 296 rfl) (am_in 297 rfl) (am_in 32 rfl) (am_in 298 rfl)) rfl rfl rfl (by decide +kernel) ⟨Nat.le_of_ble_eq_true rfl, Nat.le_of_ble_eq_true rfl⟩) (am_preSR hP hK hN) rfl rfl hl.1 rfl (lv_room (Nat.le_of_ble_eq_true rfl)) dX2_setSteps_32 ⟨Nat.zero_le _, Nat.zero_le _⟩) ?_
      refine lv_aload_n hx hb dX2_setSteps_35 rfl (lv_at hl 0 rfl) ?_
      refine va_get (D := D) (ci := 2) (v := .ref (ad 1)) (C := RX2) (T := TX2) (N := 4) hx hb hts hin_X2 hown hK hP 2 rfl rfl 0 (by decide) hf_21 (fun _ h9 => h9) rfl dX2_setSteps_36 ?_
      refine lv_iload_n hx hb dX2_setSteps_39 rfl (lv_at hl 2 rfl) ?_
      refine lv_iload_n hx hb dX2_setSteps_40 rfl (lv_at hl 1 rfl) ?_
      refine am_callRl (W.runV (As := [.int (ac_la j), .int (nI b)]) (rest := [.int (nI (ac_pl j b)), .ref (ad 17)]) ⟨hx, hb, hml, hown, hts⟩ (c_X1_centsOfStep l D ad cI cL fi fl ai (va_up al 17 (ac_ssi (ac_cents (ai 6) (ai 7) (al 8) (al 10) (al 11)) b (ac_sso (ac_cents (ai 6) (ai 7) (al 8) (al 10) (al 11)) na (al 17) b) j)) j b na hna hnl hto hsi (by omega) (by omega)) (cwV 2 hts (am_gV (am_in 299 rfl) (am_in 300 rfl) (am_in 301 rfl) (am_in 30 rfl) (am_in 302 rfl)) rfl rfl rfl (by decide +kernel) ⟨Nat.le_of_ble_eq_true rfl, Nat.le_of_ble_eq_true rfl⟩) (am_preVR 1 1 rfl rfl rfl hP hK hN) rfl rfl hl.1 rfl (lv_room (Nat.le_of_ble_eq_true rfl)) dX2_setSteps_41 ⟨Nat.zero_le _, Nat.zero_le _⟩) ?_
      refine lv_ldc2 (v := 27720) hx hb hown (ht 303 _ rfl) dX2_setSteps_44 ?_
      refine lv_lmul hx hb dX2_setSteps_47 ?_
      refine am_last hx hb hK hP hD hS 17 1 rfl rfl (ac_pl j b) rfl (ac_pl_lt (by omega) (by omega)) (by decide) (ac_w ad cI cL fi fl ai (va_up al 17 (vp_updL (ac_ssi (ac_cents (ai 6) (ai 7) (al 8) (al 10) (al 11)) b (ac_sso (ac_cents (ai 6) (ai 7) (al 8) (al 10) (al 11)) na (al 17) b) j) (ac_pl j b) ((ac_cents (ai 6) (ai 7) (al 8) (al 10) (al 11) j b) * 27720)))) rfl dX2_setSteps_48 (fun H locs hP hD hS => ?_)
      refine lv_iinc (v := ac_la (j + 1)) (lv' := [(2, .int (ac_la (j + 1))), (0, .ref (ad 2)), (1, .int (nI b))]) hx hb dX2_setSteps_49 hl (k := 2) rfl (ac_la_inc j) (by decide) rfl (fun ls hl => ?_)
      refine lv_goto (tgt := 15) hx hb dX2_setSteps_52 (by decide) ?_
      have e_15_0 : (ac_ssi (ac_cents (ai 6) (ai 7) (al 8) (al 10) (al 11)) b (ac_sso (ac_cents (ai 6) (ai 7) (al 8) (al 10) (al 11)) na (al 17) b) (j + 1)) = (vp_updL (ac_ssi (ac_cents (ai 6) (ai 7) (al 8) (al 10) (al 11)) b (ac_sso (ac_cents (ai 6) (ai 7) (al 8) (al 10) (al 11)) na (al 17) b) j) (ac_pl j b) ((ac_cents (ai 6) (ai 7) (al 8) (al 10) (al 11) j b) * 27720)) := by first | rfl | (simp only [ac_ssi, c_23, if_true, if_false, eq_self, not_true_eq_false, not_false_eq_true, ite_true, ite_false, ↓reduceIte]; done) | (simp [ac_ssi, c_23]; done)
      refine ih_15 (j + 1) (na + 1 - (j + 1)) H locs ls (by omega) ⟨rfl, (by omega), ?_, hS, ?_⟩
      · (try dsimp only); (try rw [e_15_0]); exact hP
      · (try dsimp only); (try rw [e_15_0]); exact lv_sub hl [1, 2, 0] rfl

set_option maxHeartbeats 4000000 in
set_option maxRecDepth 100000 in
theorem c_X2_setMost (l : Launch) (D : va_G) (ad : Nat → Nat) (cI cL : ClassId) (fi : Nat → Int32) (fl : Nat → Int64) (ai : Nat → Nat → Int32) (al : Nat → Nat → Int64) (A : Nat → Prop) (sn : Nat) (na : Nat) (nr : Nat) (hna : fi 0 = nI na) (hnl : na ≤ 10) (hnr : fi 2 = nI nr) (hnrl : nr ≤ 16) (hsn : sn < 1024) : Met l yX2_setMost wsX2_setMost (am_rm 4 90) (va_Pc [.ref (ad 2), .int (nI sn)] (am_M nwL vwCl D A (ac_w ad cI cL fi fl ai al) [(cI, .int), (cL, .long)])) (am_Mv vwCl D (ac_w ad cI cL fi fl ai (va_up al 18 (ac_setMost (ai 5) (ai 14) (ai 9) (al 15) (al 16) (al 17) (fi 1) na nr sn (al 18)))) A) 0 0 A := by
  refine am_startM (cc := cX2_setMost) (maxL := 7) (ret := none) (by decide) rfl (Nat.le_of_ble_eq_true rfl) [(0, .ref (ad 2)), (1, .int (nI sn))] rfl ?_
  intro p e s m below meth c ls hx hb hr hml hown hts hlocks hK hN hD H locs hP hS hl
  have hown : s.vm.findClass RX2 = some m.cls := hown
  have ht := am_ht hts
  have hin_X2 : ∀ w ∈ u_ws RX2 TX2 4, w ∈ wsX2_setMost := fun w h => List.mem_cons_of_mem _ (am_inX2 w h)
  have hin_X1 : ∀ w ∈ u_ws RX1 TX1 14, w ∈ wsX2_setMost := fun w h => List.mem_cons_of_mem _ (am_inX1 w h)
  have hf_18 := ht 111 (.fieldLink RX2 18 "ApartCost$Planner" "most" "[J") rfl
  have hf_21 := ht 106 (.fieldLink RX2 21 "ApartCost$Planner" "product" "LApartCost$Product;") rfl
  have hf_56 := ht 59 (.fieldLink RX2 56 "ApartCost$Product" "acts" "I") rfl
  refine lv_aload_n hx hb dX2_setMost_0 rfl (lv_at hl 0 rfl) ?_
  refine va_get (D := D) (ci := 2) (v := .ref (ad 1)) (C := RX2) (T := TX2) (N := 4) hx hb hts hin_X2 hown hK hP 2 rfl rfl 0 (by decide) hf_21 (fun _ h9 => h9) rfl dX2_setMost_1 ?_
  refine lv_iload_n hx hb dX2_setMost_4 rfl (lv_at hl 1 rfl) ?_
  refine am_callRi (W.runV (As := [.int (nI sn)]) (rest := []) ⟨hx, hb, hml, hown, hts⟩ (c_X1_lastsOf l D ad cI cL fi fl ai al (nI sn) na hna hnl) (cwV 1 hts (am_gV (am_in 308 rfl) (am_in 265 rfl) (am_in 266 rfl) (am_in 30 rfl) (am_in 267 rfl)) rfl rfl rfl (by decide +kernel) ⟨Nat.le_of_ble_eq_true rfl, Nat.le_of_ble_eq_true rfl⟩) (am_preVR 1 1 rfl rfl rfl hP hK hN) rfl rfl hl.1 rfl (lv_room (Nat.le_of_ble_eq_true rfl)) dX2_setMost_5 ⟨Nat.zero_le _, Nat.zero_le _⟩) ?_
  refine lv_istore_n (lv' := [(2, .int (ac_lasts (ai 9) na (nI sn))), (0, .ref (ad 2)), (1, .int (nI sn))]) hx hb dX2_setMost_8 rfl hl (by decide) rfl (fun ls hl => ?_)
  refine lv_iload_n hx hb dX2_setMost_9 rfl (lv_at hl 0 rfl) ?_
  refine lv_if_ne (tgt := 14) hx hb dX2_setMost_10 (by decide) (fun c_10 => ?_) (fun c_10 => ?_)
  · skip
    refine lv_aload_n hx hb dX2_setMost_14 rfl (lv_at hl 1 rfl) ?_
    refine va_get (D := D) (ci := 2) (v := .ref (ad 1)) (C := RX2) (T := TX2) (N := 4) hx hb hts hin_X2 hown hK hP 2 rfl rfl 0 (by decide) hf_21 (fun _ h9 => h9) rfl dX2_setMost_15 ?_
    refine lv_iload_n hx hb dX2_setMost_18 rfl (lv_at hl 2 rfl) ?_
    refine am_callRi (W.runV (As := [.int (nI sn)]) (rest := []) ⟨hx, hb, hml, hown, hts⟩ (c_X1_nextsOf l D ad cI cL fi fl ai al (nI sn) na hna hnl) (cwV 1 hts (am_gV (am_in 309 rfl) (am_in 310 rfl) (am_in 311 rfl) (am_in 30 rfl) (am_in 312 rfl)) rfl rfl rfl (by decide +kernel) ⟨Nat.le_of_ble_eq_true rfl, Nat.le_of_ble_eq_true rfl⟩) (am_preVR 1 1 rfl rfl rfl hP hK hN) rfl rfl hl.1 rfl (lv_room (Nat.le_of_ble_eq_true rfl)) dX2_setMost_19 ⟨Nat.zero_le _, Nat.zero_le _⟩) ?_
    refine lv_istore_n (lv' := [(3, .int (ac_nexts (ai 9) (nI sn) na)), (2, .int (ac_lasts (ai 9) na (nI sn))), (0, .ref (ad 2)), (1, .int (nI sn))]) hx hb dX2_setMost_22 rfl hl (by decide) rfl (fun ls hl => ?_)
    refine lv_aload_n hx hb dX2_setMost_23 rfl (lv_at hl 2 rfl) ?_
    refine lv_iload_n hx hb dX2_setMost_24 rfl (lv_at hl 3 rfl) ?_
    refine am_callRl (W.runV (As := [.int (nI sn)]) (rest := []) ⟨hx, hb, hml, hown, hts⟩ (c_X2_endOf l D ad cI cL fi fl ai al (nI sn) na nr hna hnl hnr hnrl) (cwV 1 hts (am_gV (am_in 313 rfl) (am_in 314 rfl) (am_in 4 rfl) (am_in 32 rfl) (am_in 315 rfl)) rfl rfl rfl (by decide +kernel) ⟨Nat.le_of_ble_eq_true rfl, Nat.le_of_ble_eq_true rfl⟩) (am_preVR 2 2 rfl rfl rfl hP hK hN) rfl rfl hl.1 rfl (lv_room (Nat.le_of_ble_eq_true rfl)) dX2_setMost_25 ⟨Nat.zero_le _, Nat.zero_le _⟩) ?_
    refine lv_lstore (lv' := [(4, .long (ac_end (ai 5) (ai 14) (al 15) (al 16) (fi 1) na nr (nI sn))), (3, .int (ac_nexts (ai 9) (nI sn) na)), (2, .int (ac_lasts (ai 9) na (nI sn))), (0, .ref (ad 2)), (1, .int (nI sn))]) hx hb dX2_setMost_28 hl (by decide) rfl (fun ls hl => ?_)
    refine lv_iconst (v := 0) hx hb dX2_setMost_30 (by decide) ?_
    refine lv_istore (lv' := [(6, .int 0), (4, .long (ac_end (ai 5) (ai 14) (al 15) (al 16) (fi 1) na nr (nI sn))), (3, .int (ac_nexts (ai 9) (nI sn) na)), (2, .int (ac_lasts (ai 9) na (nI sn))), (0, .ref (ad 2)), (1, .int (nI sn))]) hx hb dX2_setMost_31 hl (by decide) rfl (fun ls hl => ?_)
    refine am_loop (σ := Nat) (fun q n9 H locs ls => n9 = na - q ∧ q ≤ na ∧ va_P D vwCl (ac_w ad cI cL fi fl ai (va_up al 18 (ac_sml (al 17) sn (ac_lasts (ai 9) na (nI sn)) (ac_nexts (ai 9) (nI sn) na) (ac_end (ai 5) (ai 14) (al 15) (al 16) (fi 1) na nr (nI sn)) na (al 18) q))) H ∧ va_S A s.heap H locs ∧ lv_has ls 7 [(0, .ref (ad 2)), (1, .int (nI sn)), (2, .int (ac_lasts (ai 9) na (nI sn))), (3, .int (ac_nexts (ai 9) (nI sn) na)), (4, .long (ac_end (ai 5) (ai 14) (al 15) (al 16) (fi 1) na nr (nI sn))), (6, .int (nI q))]) ?_ 0 (na - 0) H locs ls ⟨rfl, (by omega), hP, hS, lv_sub hl [4, 5, 3, 2, 1, 0] rfl⟩
    rintro k n9 H locs ls ⟨hn_33, hk, hP, hS, hl⟩ ih_33
    have hD : va_D A (ac_w ad cI cL fi fl ai (va_up al 18 (ac_sml (al 17) sn (ac_lasts (ai 9) na (nI sn)) (ac_nexts (ai 9) (nI sn) na) (ac_end (ai 5) (ai 14) (al 15) (al 16) (fi 1) na nr (nI sn)) na (al 18) k))) := am_D hD rfl
    refine lv_iload hx hb dX2_setMost_33 (lv_at hl 5 rfl) ?_
    refine lv_aload_n hx hb dX2_setMost_35 rfl (lv_at hl 0 rfl) ?_
    refine va_get (D := D) (ci := 2) (v := .ref (ad 1)) (C := RX2) (T := TX2) (N := 4) hx hb hts hin_X2 hown hK hP 2 rfl rfl 0 (by decide) hf_21 (fun _ h9 => h9) rfl dX2_setMost_36 ?_
    refine va_get (D := D) (ci := 1) (v := .int (fi 0)) (C := RX1) (T := TX1) (N := 14) hx hb hts hin_X1 hown hK hP 1 rfl rfl 0 (by decide) hf_56 (fun _ h9 => h9) rfl dX2_setMost_39 ?_
    refine lv_icmp_ge (tgt := 82) hx hb dX2_setMost_42 (by decide) (fun c_42 => ?_) (fun c_42 => ?_)
    · skip
      have hke_42 : na ≤ k := (am_ge hna (by omega) (by omega)).mp c_42
      have hkq_42 : na = k := by omega
      subst hkq_42
      exact am_vretM hx hb hr hlocks (by simp only [ac_setMost, if_neg c_10]; exact hP) hS dX2_setMost_82
    · skip
      have hkl_42 : k < na := Nat.lt_of_not_le (fun z => c_42 ((am_ge hna (by omega) (by omega)).mpr z))
      refine lv_iload_n hx hb dX2_setMost_45 rfl (lv_at hl 2 rfl) ?_
      refine lv_iload hx hb dX2_setMost_46 (lv_at hl 5 rfl) ?_
      refine am_callRi (va_Run.run (va_runSN (As := [.int (ac_lasts (ai 9) na (nI sn)), .int (nI k)]) (rest := []) ⟨hx, hb, hml, hown, hts⟩ (c_X0_has l D _ _ (ac_lasts (ai 9) na (nI sn)) (nI k)) ⟨va_cnB 2 hts (am_gN (am_in 206 rfl)) rfl rfl rfl (am_nw_at hN 2 rfl) (ht 29 _ rfl) (by decide +kernel) ⟨Nat.le_of_ble_eq_true rfl, Nat.le_of_ble_eq_true rfl⟩, (ht 205 _ rfl), trivial⟩ (am_preSR hP hK hN) rfl rfl hl.1 rfl (lv_room (Nat.le_of_ble_eq_true rfl)) dX2_setMost_48 ⟨Nat.zero_le _, Nat.zero_le _⟩)) ?_
      refine lv_if_eq (tgt := 76) hx hb dX2_setMost_51 (by decide) (fun c_51 => ?_) (fun c_51 => ?_)
      · skip
        refine lv_iinc (v := nI (k + 1)) (lv' := [(6, .int (nI (k + 1))), (0, .ref (ad 2)), (1, .int (nI sn)), (2, .int (ac_lasts (ai 9) na (nI sn))), (3, .int (ac_nexts (ai 9) (nI sn) na)), (4, .long (ac_end (ai 5) (ai 14) (al 15) (al 16) (fi 1) na nr (nI sn)))]) hx hb dX2_setMost_76 hl (k := 5) rfl (nI_1 k) (by decide) rfl (fun ls hl => ?_)
        refine lv_goto (tgt := 33) hx hb dX2_setMost_79 (by decide) ?_
        have e_33_0 : (ac_sml (al 17) sn (ac_lasts (ai 9) na (nI sn)) (ac_nexts (ai 9) (nI sn) na) (ac_end (ai 5) (ai 14) (al 15) (al 16) (fi 1) na nr (nI sn)) na (al 18) (k + 1)) = (ac_sml (al 17) sn (ac_lasts (ai 9) na (nI sn)) (ac_nexts (ai 9) (nI sn) na) (ac_end (ai 5) (ai 14) (al 15) (al 16) (fi 1) na nr (nI sn)) na (al 18) k) := by first | rfl | (simp only [ac_sml, c_42, c_51, if_true, if_false, eq_self, not_true_eq_false, not_false_eq_true, ite_true, ite_false, ↓reduceIte]; done) | (simp [ac_sml, c_42, c_51]; done)
        refine ih_33 (k + 1) (na - (k + 1)) H locs ls (by omega) ⟨rfl, (by omega), ?_, hS, ?_⟩
        · (try dsimp only); (try rw [e_33_0]); exact hP
        · (try dsimp only); (try rw [e_33_0]); exact lv_sub hl [1, 2, 3, 4, 5, 0] rfl
      · skip
        refine lv_aload_n hx hb dX2_setMost_54 rfl (lv_at hl 0 rfl) ?_
        refine va_get (D := D) (ci := 2) (v := .ref (ad 18)) (C := RX2) (T := TX2) (N := 4) hx hb hts hin_X2 hown hK hP 2 rfl rfl 3 (by decide) hf_18 (fun _ h9 => h9) rfl dX2_setMost_55 ?_
        refine lv_iload_n hx hb dX2_setMost_58 rfl (lv_at hl 1 rfl) ?_
        refine lv_bipush (v := 10) hx hb dX2_setMost_59 (by decide) ?_
        refine lv_imul hx hb dX2_setMost_61 ?_
        refine lv_iload hx hb dX2_setMost_62 (lv_at hl 5 rfl) ?_
        refine lv_iadd hx hb dX2_setMost_64 ?_
        refine lv_aload_n hx hb dX2_setMost_65 rfl (lv_at hl 0 rfl) ?_
        refine lv_iload hx hb dX2_setMost_66 (lv_at hl 5 rfl) ?_
        refine lv_iload_n hx hb dX2_setMost_68 rfl (lv_at hl 1 rfl) ?_
        refine lv_iload_n hx hb dX2_setMost_69 rfl (lv_at hl 3 rfl) ?_
        refine lv_lload hx hb dX2_setMost_70 (lv_at hl 4 rfl) ?_
        refine am_callRl (W.runV (As := [.int (nI k), .int (nI sn), .int (ac_nexts (ai 9) (nI sn) na), .long (ac_end (ai 5) (ai 14) (al 15) (al 16) (fi 1) na nr (nI sn))]) (rest := [.int (((nI sn) * 10) + (nI k)), .ref (ad 18)]) ⟨hx, hb, hml, hown, hts⟩ (c_X2_mostFrom l D ad cI cL fi fl ai (va_up al 18 (ac_sml (al 17) sn (ac_lasts (ai 9) na (nI sn)) (ac_nexts (ai 9) (nI sn) na) (ac_end (ai 5) (ai 14) (al 15) (al 16) (fi 1) na nr (nI sn)) na (al 18) k)) (k + 1) sn (ac_nexts (ai 9) (nI sn) na) (ac_end (ai 5) (ai 14) (al 15) (al 16) (fi 1) na nr (nI sn)) na hna hnl (by omega) hsn) (cwV 4 hts (am_gV (am_in 329 rfl) (am_in 330 rfl) (am_in 5 rfl) (am_in 32 rfl) (am_in 331 rfl)) rfl rfl rfl (by decide +kernel) ⟨Nat.le_of_ble_eq_true rfl, Nat.le_of_ble_eq_true rfl⟩) (am_preVR 2 2 rfl rfl rfl hP hK hN) rfl rfl hl.1 rfl (lv_room (Nat.le_of_ble_eq_true rfl)) dX2_setMost_72 ⟨Nat.zero_le _, Nat.zero_le _⟩) ?_
        refine am_last hx hb hK hP hD hS 18 1 rfl rfl (sn * 10 + k) (am_ix10 sn k) (by omega) (by decide) (ac_w ad cI cL fi fl ai (va_up al 18 (vp_updL (ac_sml (al 17) sn (ac_lasts (ai 9) na (nI sn)) (ac_nexts (ai 9) (nI sn) na) (ac_end (ai 5) (ai 14) (al 15) (al 16) (fi 1) na nr (nI sn)) na (al 18) k) (sn * 10 + k) (ac_mfrom (ac_sml (al 17) sn (ac_lasts (ai 9) na (nI sn)) (ac_nexts (ai 9) (nI sn) na) (ac_end (ai 5) (ai 14) (al 15) (al 16) (fi 1) na nr (nI sn)) na (al 18) k) (al 17) (k + 1) sn (ac_nexts (ai 9) (nI sn) na) (ac_end (ai 5) (ai 14) (al 15) (al 16) (fi 1) na nr (nI sn)) na)))) rfl dX2_setMost_75 (fun H locs hP hD hS => ?_)
        refine lv_iinc (v := nI (k + 1)) (lv' := [(6, .int (nI (k + 1))), (0, .ref (ad 2)), (1, .int (nI sn)), (2, .int (ac_lasts (ai 9) na (nI sn))), (3, .int (ac_nexts (ai 9) (nI sn) na)), (4, .long (ac_end (ai 5) (ai 14) (al 15) (al 16) (fi 1) na nr (nI sn)))]) hx hb dX2_setMost_76 hl (k := 5) rfl (nI_1 k) (by decide) rfl (fun ls hl => ?_)
        refine lv_goto (tgt := 33) hx hb dX2_setMost_79 (by decide) ?_
        have e_33_0 : (ac_sml (al 17) sn (ac_lasts (ai 9) na (nI sn)) (ac_nexts (ai 9) (nI sn) na) (ac_end (ai 5) (ai 14) (al 15) (al 16) (fi 1) na nr (nI sn)) na (al 18) (k + 1)) = (vp_updL (ac_sml (al 17) sn (ac_lasts (ai 9) na (nI sn)) (ac_nexts (ai 9) (nI sn) na) (ac_end (ai 5) (ai 14) (al 15) (al 16) (fi 1) na nr (nI sn)) na (al 18) k) (sn * 10 + k) (ac_mfrom (ac_sml (al 17) sn (ac_lasts (ai 9) na (nI sn)) (ac_nexts (ai 9) (nI sn) na) (ac_end (ai 5) (ai 14) (al 15) (al 16) (fi 1) na nr (nI sn)) na (al 18) k) (al 17) (k + 1) sn (ac_nexts (ai 9) (nI sn) na) (ac_end (ai 5) (ai 14) (al 15) (al 16) (fi 1) na nr (nI sn)) na)) := by first | rfl | (simp only [ac_sml, c_42, c_51, if_true, if_false, eq_self, not_true_eq_false, not_false_eq_true, ite_true, ite_false, ↓reduceIte]; done) | (simp [ac_sml, c_42, c_51]; done)
        refine ih_33 (k + 1) (na - (k + 1)) H locs ls (by omega) ⟨rfl, (by omega), ?_, hS, ?_⟩
        · (try dsimp only); (try rw [e_33_0]); exact hP
        · (try dsimp only); (try rw [e_33_0]); exact lv_sub hl [1, 2, 3, 4, 5, 0] rfl
  · skip
    exact am_vretM hx hb hr hlocks (by simp only [ac_setMost, if_pos c_10]; exact hP) hS dX2_setMost_13

set_option maxHeartbeats 4000000 in
set_option maxRecDepth 100000 in
theorem c_X2_greatestGain (l : Launch) (D : va_G) (ad : Nat → Nat) (cI cL : ClassId) (fi : Nat → Int32) (fl : Nat → Int64) (ai : Nat → Nat → Int32) (al : Nat → Nat → Int64) (A : Nat → Prop) (na : Nat) (nr : Nat) (hna : fi 0 = nI na) (hnl : na ≤ 10) (hnr : fi 2 = nI nr) (hnrl : nr ≤ 16) (hto : ∀ a, a < na → ∃ t, t < 6 ∧ (ai 6) a = nI t) (hsi : ∀ a, a < na → ∃ t, t < 6 ∧ (ai 7) a = nI t) : Met l yX2_greatestGain wsX2_greatestGain (am_rm 5 116) (va_Pc [.ref (ad 2)] (am_M nwL vwCl D A (ac_w ad cI cL fi fl ai al) [(cI, .int), (cL, .long)])) (am_Ml vwCl D (ac_rg fi ai al na nr) (ac_w ad cI cL fi fl ai (va_up (va_up al 17 (ac_rs ai al na)) 18 (ac_rd fi ai al na nr))) A) 0 0 A := by
  refine am_startM (cc := cX2_greatestGain) (maxL := 2) (ret := (some .long)) (by decide) rfl (Nat.le_of_ble_eq_true rfl) [(0, .ref (ad 2))] rfl ?_
  intro p e s m below meth c ls hx hb hr hml hown hts hlocks hK hN hD H locs hP hS hl
  have hown : s.vm.findClass RX2 = some m.cls := hown
  have ht := am_ht hts
  have hin_X2 : ∀ w ∈ u_ws RX2 TX2 4, w ∈ wsX2_greatestGain := fun w h => List.mem_cons_of_mem _ (am_inX2 w h)
  have hf_21 := ht 106 (.fieldLink RX2 21 "ApartCost$Planner" "product" "LApartCost$Product;") rfl
  have hp2 := am_p2 hnl
  refine lv_aload_n hx hb dX2_greatestGain_0 rfl (lv_at hl 0 rfl) ?_
  refine am_callMv (va_runV (As := []) (rest := []) ⟨hx, hb, hml, hown, hts⟩ (c_X2_setSteps l D ad cI cL fi fl ai al A na hna hnl hto hsi) (cwV 0 hts (am_gV (am_in 293 rfl) (am_in 294 rfl) (am_in 2 rfl) (am_in 32 rfl) (am_in 295 rfl)) rfl rfl rfl (by decide +kernel) ⟨Nat.le_of_ble_eq_true rfl, Nat.le_of_ble_eq_true rfl⟩) (am_preVM 2 2 rfl rfl rfl hP hK hN hD) rfl rfl hl.1 rfl (lv_room (Nat.le_of_ble_eq_true rfl)) dX2_greatestGain_1 ⟨Nat.zero_le _, Nat.zero_le _⟩) hS (fun H locs hP hS => ?_)
  have hP : va_P D vwCl (ac_w ad cI cL fi fl ai (va_up al 17 (ac_sso (ac_cents (ai 6) (ai 7) (al 8) (al 10) (al 11)) na (al 17) na))) H := hP
  have hD : va_D A (ac_w ad cI cL fi fl ai (va_up al 17 (ac_sso (ac_cents (ai 6) (ai 7) (al 8) (al 10) (al 11)) na (al 17) na))) := am_D hD rfl
  refine lv_aload_n hx hb dX2_greatestGain_4 rfl (lv_at hl 0 rfl) ?_
  refine va_get (D := D) (ci := 2) (v := .ref (ad 1)) (C := RX2) (T := TX2) (N := 4) hx hb hts hin_X2 hown hK hP 2 rfl rfl 0 (by decide) hf_21 (fun _ h9 => h9) rfl dX2_greatestGain_5 ?_
  refine am_callRi (W.runV (As := []) (rest := []) ⟨hx, hb, hml, hown, hts⟩ (c_X1_allActs l D ad cI cL fi fl ai (va_up al 17 (ac_sso (ac_cents (ai 6) (ai 7) (al 8) (al 10) (al 11)) na (al 17) na))) (cwV 0 hts (am_gV (am_in 304 rfl) (am_in 261 rfl) (am_in 262 rfl) (am_in 30 rfl) (am_in 263 rfl)) rfl rfl rfl (by decide +kernel) ⟨Nat.le_of_ble_eq_true rfl, Nat.le_of_ble_eq_true rfl⟩) (am_preVR 1 1 rfl rfl rfl hP hK hN) rfl rfl hl.1 rfl (lv_room (Nat.le_of_ble_eq_true rfl)) dX2_greatestGain_8 ⟨Nat.zero_le _, Nat.zero_le _⟩) ?_
  refine am_topi (am_all hna hnl) ?_
  refine lv_istore_n (lv' := [(1, .int (nI (2 ^ na - 1))), (0, .ref (ad 2))]) hx hb dX2_greatestGain_11 rfl hl (by decide) rfl (fun ls hl => ?_)
  refine am_loop (σ := (Nat) × (Nat → Int64)) (fun q n9 H locs ls => n9 = q.1 ∧ q.1 ≤ 2 ^ na - 1 ∧ ac_down (ai 5) (ai 14) (ai 9) (al 15) (al 16) (ac_sso (ac_cents (ai 6) (ai 7) (al 8) (al 10) (al 11)) na (al 17) na) (fi 1) na nr q.1 q.2 = ac_down (ai 5) (ai 14) (ai 9) (al 15) (al 16) (ac_sso (ac_cents (ai 6) (ai 7) (al 8) (al 10) (al 11)) na (al 17) na) (fi 1) na nr (2 ^ na - 1) (al 18) ∧ va_P D vwCl (ac_w ad cI cL fi fl ai (va_up (va_up al 17 (ac_sso (ac_cents (ai 6) (ai 7) (al 8) (al 10) (al 11)) na (al 17) na)) 18 q.2)) H ∧ va_S A s.heap H locs ∧ lv_has ls 2 [(0, .ref (ad 2)), (1, .int (nI q.1))]) ?_ (2 ^ na - 1, (al 18)) ((2 ^ na - 1)) H locs ls ⟨rfl, (by omega), rfl, hP, hS, lv_sub hl [1, 0] rfl⟩
  rintro ⟨sn, ff⟩ n9 H locs ls ⟨hn_12, hsk, hf, hP, hS, hl⟩ ih_12
  dsimp only at hn_12 hsk hf hP hl
  have hD : va_D A (ac_w ad cI cL fi fl ai (va_up (va_up al 17 (ac_sso (ac_cents (ai 6) (ai 7) (al 8) (al 10) (al 11)) na (al 17) na)) 18 ff)) := am_D hD rfl
  refine lv_iload_n hx hb dX2_greatestGain_12 rfl (lv_at hl 1 rfl) ?_
  refine lv_if_le (tgt := 27) hx hb dX2_greatestGain_13 (by decide) (fun c_13 => ?_) (fun c_13 => ?_)
  · skip
    have hs0 : 0 = sn := by have h := c_13; rw [show (0 : Int32) = nI 0 from rfl, nI_leI (by omega) (by omega)] at h; omega
    subst hs0
    have hf2 : ff = ac_down (ai 5) (ai 14) (ai 9) (al 15) (al 16) (ac_sso (ac_cents (ai 6) (ai 7) (al 8) (al 10) (al 11)) na (al 17) na) (fi 1) na nr (2 ^ na - 1) (al 18) := hf
    subst hf2
    refine lv_aload_n hx hb dX2_greatestGain_27 rfl (lv_at hl 0 rfl) ?_
    refine lv_iconst (v := (-1)) hx hb dX2_greatestGain_28 (by decide) ?_
    refine lv_iconst (v := 0) hx hb dX2_greatestGain_29 (by decide) ?_
    refine lv_aload_n hx hb dX2_greatestGain_30 rfl (lv_at hl 0 rfl) ?_
    refine va_get (D := D) (ci := 2) (v := .ref (ad 1)) (C := RX2) (T := TX2) (N := 4) hx hb hts hin_X2 hown hK hP 2 rfl rfl 0 (by decide) hf_21 (fun _ h9 => h9) rfl dX2_greatestGain_31 ?_
    refine lv_iconst (v := 0) hx hb dX2_greatestGain_34 (by decide) ?_
    refine am_callRi (W.runV (As := [.int 0]) (rest := [.int 0, .int (-1), .ref (ad 2)]) ⟨hx, hb, hml, hown, hts⟩ (c_X1_nextsOf l D ad cI cL fi fl ai (va_up (va_up al 17 (ac_sso (ac_cents (ai 6) (ai 7) (al 8) (al 10) (al 11)) na (al 17) na)) 18 (ac_down (ai 5) (ai 14) (ai 9) (al 15) (al 16) (ac_sso (ac_cents (ai 6) (ai 7) (al 8) (al 10) (al 11)) na (al 17) na) (fi 1) na nr (2 ^ na - 1) (al 18))) 0 na hna hnl) (cwV 1 hts (am_gV (am_in 309 rfl) (am_in 310 rfl) (am_in 311 rfl) (am_in 30 rfl) (am_in 312 rfl)) rfl rfl rfl (by decide +kernel) ⟨Nat.le_of_ble_eq_true rfl, Nat.le_of_ble_eq_true rfl⟩) (am_preVR 1 1 rfl rfl rfl hP hK hN) rfl rfl hl.1 rfl (lv_room (Nat.le_of_ble_eq_true rfl)) dX2_greatestGain_35 ⟨Nat.zero_le _, Nat.zero_le _⟩) ?_
    refine lv_aload_n hx hb dX2_greatestGain_38 rfl (lv_at hl 0 rfl) ?_
    refine lv_iconst (v := 0) hx hb dX2_greatestGain_39 (by decide) ?_
    refine am_callRl (W.runV (As := [.int 0]) (rest := [.int (ac_nexts (ai 9) 0 na), .int 0, .int (-1), .ref (ad 2)]) ⟨hx, hb, hml, hown, hts⟩ (c_X2_endOf l D ad cI cL fi fl ai (va_up (va_up al 17 (ac_sso (ac_cents (ai 6) (ai 7) (al 8) (al 10) (al 11)) na (al 17) na)) 18 (ac_down (ai 5) (ai 14) (ai 9) (al 15) (al 16) (ac_sso (ac_cents (ai 6) (ai 7) (al 8) (al 10) (al 11)) na (al 17) na) (fi 1) na nr (2 ^ na - 1) (al 18))) 0 na nr hna hnl hnr hnrl) (cwV 1 hts (am_gV (am_in 313 rfl) (am_in 314 rfl) (am_in 4 rfl) (am_in 32 rfl) (am_in 315 rfl)) rfl rfl rfl (by decide +kernel) ⟨Nat.le_of_ble_eq_true rfl, Nat.le_of_ble_eq_true rfl⟩) (am_preVR 2 2 rfl rfl rfl hP hK hN) rfl rfl hl.1 rfl (lv_room (Nat.le_of_ble_eq_true rfl)) dX2_greatestGain_40 ⟨Nat.zero_le _, Nat.zero_le _⟩) ?_
    refine am_callRl (W.runV (As := [.int (-1), .int 0, .int (ac_nexts (ai 9) 0 na), .long (ac_end (ai 5) (ai 14) (al 15) (al 16) (fi 1) na nr 0)]) (rest := []) ⟨hx, hb, hml, hown, hts⟩ (c_X2_mostFrom l D ad cI cL fi fl ai (va_up (va_up al 17 (ac_sso (ac_cents (ai 6) (ai 7) (al 8) (al 10) (al 11)) na (al 17) na)) 18 (ac_down (ai 5) (ai 14) (ai 9) (al 15) (al 16) (ac_sso (ac_cents (ai 6) (ai 7) (al 8) (al 10) (al 11)) na (al 17) na) (fi 1) na nr (2 ^ na - 1) (al 18))) 0 0 (ac_nexts (ai 9) 0 na) (ac_end (ai 5) (ai 14) (al 15) (al 16) (fi 1) na nr 0) na hna hnl (by omega) (by omega)) (cwV 4 hts (am_gV (am_in 329 rfl) (am_in 330 rfl) (am_in 5 rfl) (am_in 32 rfl) (am_in 331 rfl)) rfl rfl rfl (by decide +kernel) ⟨Nat.le_of_ble_eq_true rfl, Nat.le_of_ble_eq_true rfl⟩) (am_preVR 2 2 rfl rfl rfl hP hK hN) rfl rfl hl.1 rfl (lv_room (Nat.le_of_ble_eq_true rfl)) dX2_greatestGain_43 ⟨Nat.zero_le _, Nat.zero_le _⟩) ?_
    exact am_lretM hx hb hr hlocks hP hS rfl dX2_greatestGain_46
  · skip
    obtain ⟨sm, rfl⟩ : ∃ z, sn = z + 1 := by cases sn with | zero => exact absurd (show nI 0 ≤ 0 from by decide +kernel) c_13 | succ z => exact ⟨z, rfl⟩
    refine lv_aload_n hx hb dX2_greatestGain_16 rfl (lv_at hl 0 rfl) ?_
    refine lv_iload_n hx hb dX2_greatestGain_17 rfl (lv_at hl 1 rfl) ?_
    refine am_callMv (va_runV (As := [.int (nI (sm + 1))]) (rest := []) ⟨hx, hb, hml, hown, hts⟩ (c_X2_setMost l D ad cI cL fi fl ai (va_up (va_up al 17 (ac_sso (ac_cents (ai 6) (ai 7) (al 8) (al 10) (al 11)) na (al 17) na)) 18 ff) A (sm + 1) na nr hna hnl hnr hnrl (by omega)) (cwV 1 hts (am_gV (am_in 305 rfl) (am_in 306 rfl) (am_in 3 rfl) (am_in 32 rfl) (am_in 307 rfl)) rfl rfl rfl (by decide +kernel) ⟨Nat.le_of_ble_eq_true rfl, Nat.le_of_ble_eq_true rfl⟩) (am_preVM 2 2 rfl rfl rfl hP hK hN hD) rfl rfl hl.1 rfl (lv_room (Nat.le_of_ble_eq_true rfl)) dX2_greatestGain_18 ⟨Nat.zero_le _, Nat.zero_le _⟩) hS (fun H locs hP hS => ?_)
    have hP : va_P D vwCl (ac_w ad cI cL fi fl ai (va_up (va_up al 17 (ac_sso (ac_cents (ai 6) (ai 7) (al 8) (al 10) (al 11)) na (al 17) na)) 18 (ac_setMost (ai 5) (ai 14) (ai 9) (al 15) (al 16) (ac_sso (ac_cents (ai 6) (ai 7) (al 8) (al 10) (al 11)) na (al 17) na) (fi 1) na nr (sm + 1) ff))) H := hP
    have hD : va_D A (ac_w ad cI cL fi fl ai (va_up (va_up al 17 (ac_sso (ac_cents (ai 6) (ai 7) (al 8) (al 10) (al 11)) na (al 17) na)) 18 (ac_setMost (ai 5) (ai 14) (ai 9) (al 15) (al 16) (ac_sso (ac_cents (ai 6) (ai 7) (al 8) (al 10) (al 11)) na (al 17) na) (fi 1) na nr (sm + 1) ff))) := am_D hD rfl
    refine lv_iinc (v := nI sm) (lv' := [(1, .int (nI sm)), (0, .ref (ad 2))]) hx hb dX2_greatestGain_21 hl (k := 1) rfl (pk_m1 sm) (by decide) rfl (fun ls hl => ?_)
    refine lv_goto (tgt := 12) hx hb dX2_greatestGain_24 (by decide) ?_
    refine ih_12 (sm, (ac_setMost (ai 5) (ai 14) (ai 9) (al 15) (al 16) (ac_sso (ac_cents (ai 6) (ai 7) (al 8) (al 10) (al 11)) na (al 17) na) (fi 1) na nr (sm + 1) ff)) (sm) H locs ls (by omega) ⟨rfl, (by omega), hf, ?_, hS, ?_⟩
    · exact hP
    · exact lv_sub hl [1, 0] rfl
set_option maxHeartbeats 4000000 in
set_option maxRecDepth 100000 in
theorem c_X3_keepParts (l : Launch) (D : va_G) (ad : Nat → Nat) (cI cL : ClassId) (fi : Nat → Int32) (fl : Nat → Int64) (ai : Nat → Nat → Int32) (al : Nat → Nat → Int64) (A : Nat → Prop) (na : Nat) (hna : fi 0 = nI na) (hnl : na ≤ 10) : Met l yX3_keepParts wsX3_keepParts (am_rm 3 65) (va_Pc [.ref (ad 3), .ref (ad 2)] (am_M nwL vwCl D A (ac_w ad cI cL fi fl ai al) [(cI, .int), (cL, .long)])) (am_Mv vwCl D (ac_w ad cI cL (upd fi 7 (ac_freed (ai 5) (fi 6) na)) fl ai (va_up al 20 (ac_brg (al 16) (ac_whole (ai 5) (fi 1) na (fi 6)) (al 20) 12))) A) 0 0 A := by
  refine am_startM (cc := cX3_keepParts) (maxL := 4) (ret := none) (by decide) rfl (Nat.le_of_ble_eq_true rfl) [(0, .ref (ad 3)), (1, .ref (ad 2))] rfl ?_
  intro p e s m below meth c ls hx hb hr hml hown hts hlocks hK hN hD H locs hP hS hl
  have hown : s.vm.findClass RX3 = some m.cls := hown
  have ht := am_ht hts
  have hin_X3 : ∀ w ∈ u_ws RX3 TX3 8, w ∈ wsX3_keepParts := fun w h => List.mem_cons_of_mem _ (am_inX3 w h)
  have hin_X2 : ∀ w ∈ u_ws RX2 TX2 4, w ∈ wsX3_keepParts := fun w h => List.mem_cons_of_mem _ (am_inX2 w h)
  have hf_15 := ht 134 (.fieldLink RX3 15 "ApartCost$Found" "brought" "[J") rfl
  have hf_23 := ht 127 (.fieldLink RX3 23 "ApartCost$Found" "set" "I") rfl
  have hf_43 := ht 107 (.fieldLink RX3 43 "ApartCost$Planner" "product" "LApartCost$Product;") rfl
  have hf_53 := ht 129 (.fieldLink RX3 53 "ApartCost$Found" "free" "I") rfl
  have hf_63 := ht 109 (.fieldLink RX3 63 "ApartCost$Planner" "values" "[J") rfl
  refine lv_aload_n hx hb dX3_keepParts_0 rfl (lv_at hl 0 rfl) ?_
  refine lv_aload_n hx hb dX3_keepParts_1 rfl (lv_at hl 1 rfl) ?_
  refine va_get (D := D) (ci := 2) (v := .ref (ad 1)) (C := RX2) (T := TX2) (N := 4) hx hb hts hin_X2 hown hK hP 2 rfl rfl 0 (by decide) hf_43 (fun _ h9 => h9) rfl dX3_keepParts_2 ?_
  refine lv_aload_n hx hb dX3_keepParts_5 rfl (lv_at hl 0 rfl) ?_
  refine va_get (D := D) (ci := 3) (v := .int (fi 6)) (C := RX3) (T := TX3) (N := 8) hx hb hts hin_X3 hown hK hP 3 rfl rfl 3 (by decide) hf_23 (fun _ h9 => h9) rfl dX3_keepParts_6 ?_
  refine am_callRi (W.runV (As := [.int (fi 6)]) (rest := [.ref (ad 3)]) ⟨hx, hb, hml, hown, hts⟩ (c_X1_freedBy l D ad cI cL fi fl ai al (fi 6) na hna hnl) (cwV 1 hts (am_gV (am_in 349 rfl) (am_in 321 rfl) (am_in 322 rfl) (am_in 30 rfl) (am_in 323 rfl)) rfl rfl rfl (by decide +kernel) ⟨Nat.le_of_ble_eq_true rfl, Nat.le_of_ble_eq_true rfl⟩) (am_preVR 1 1 rfl rfl rfl hP hK hN) rfl rfl hl.1 rfl (lv_room (Nat.le_of_ble_eq_true rfl)) dX3_keepParts_9 ⟨Nat.zero_le _, Nat.zero_le _⟩) ?_
  refine va_put (D := D) (ci := 3) (v := .int (ac_freed (ai 5) (fi 6) na)) (ty := .int) (C := RX3) (T := TX3) (N := 8) hx hb hts hin_X3 tyX3 tyX3_ok nmX3 hown hK hP hD hS 3 rfl rfl 4 (by decide) hf_53 (fun _ h9 => h9) rfl (by decide +kernel) rfl rfl (Nat.le_of_ble_eq_true rfl) dX3_keepParts_12 (fun H locs hP hD hS => ?_)
  have hP : va_P D vwCl (ac_w ad cI cL (upd fi 7 (ac_freed (ai 5) (fi 6) na)) fl ai al) H := hP
  have hD : va_D A (ac_w ad cI cL (upd fi 7 (ac_freed (ai 5) (fi 6) na)) fl ai al) := am_D hD rfl
  refine lv_aload_n hx hb dX3_keepParts_15 rfl (lv_at hl 1 rfl) ?_
  refine va_get (D := D) (ci := 2) (v := .ref (ad 1)) (C := RX2) (T := TX2) (N := 4) hx hb hts hin_X2 hown hK hP 2 rfl rfl 0 (by decide) hf_43 (fun _ h9 => h9) rfl dX3_keepParts_16 ?_
  refine lv_aload_n hx hb dX3_keepParts_19 rfl (lv_at hl 0 rfl) ?_
  refine va_get (D := D) (ci := 3) (v := .int (fi 6)) (C := RX3) (T := TX3) (N := 8) hx hb hts hin_X3 hown hK hP 3 rfl rfl 3 (by decide) hf_23 (fun _ h9 => h9) rfl dX3_keepParts_20 ?_
  refine am_callRi (W.runV (As := [.int (fi 6)]) (rest := []) ⟨hx, hb, hml, hown, hts⟩ (c_X1_wholeBy l D ad cI cL (upd fi 7 (ac_freed (ai 5) (fi 6) na)) fl ai al (fi 6) na hna hnl) (cwV 1 hts (am_gV (am_in 350 rfl) (am_in 317 rfl) (am_in 318 rfl) (am_in 30 rfl) (am_in 319 rfl)) rfl rfl rfl (by decide +kernel) ⟨Nat.le_of_ble_eq_true rfl, Nat.le_of_ble_eq_true rfl⟩) (am_preVR 1 1 rfl rfl rfl hP hK hN) rfl rfl hl.1 rfl (lv_room (Nat.le_of_ble_eq_true rfl)) dX3_keepParts_23 ⟨Nat.zero_le _, Nat.zero_le _⟩) ?_
  refine lv_istore_n (lv' := [(2, .int (ac_whole (ai 5) (fi 1) na (fi 6))), (0, .ref (ad 3)), (1, .ref (ad 2))]) hx hb dX3_keepParts_26 rfl hl (by decide) rfl (fun ls hl => ?_)
  refine lv_iconst (v := 0) hx hb dX3_keepParts_27 (by decide) ?_
  refine lv_istore_n (lv' := [(3, .int 0), (2, .int (ac_whole (ai 5) (fi 1) na (fi 6))), (0, .ref (ad 3)), (1, .ref (ad 2))]) hx hb dX3_keepParts_28 rfl hl (by decide) rfl (fun ls hl => ?_)
  refine am_loop (σ := Nat) (fun q n9 H locs ls => n9 = 12 - q ∧ q ≤ 12 ∧ va_P D vwCl (ac_w ad cI cL (upd fi 7 (ac_freed (ai 5) (fi 6) na)) fl ai (va_up al 20 (ac_brg (al 16) (ac_whole (ai 5) (fi 1) na (fi 6)) (al 20) q))) H ∧ va_S A s.heap H locs ∧ lv_has ls 4 [(0, .ref (ad 3)), (1, .ref (ad 2)), (2, .int (ac_whole (ai 5) (fi 1) na (fi 6))), (3, .int (nI q))]) ?_ 0 (12 - 0) H locs ls ⟨rfl, (by omega), hP, hS, lv_sub hl [2, 3, 1, 0] rfl⟩
  rintro k n9 H locs ls ⟨hn_29, hk, hP, hS, hl⟩ ih_29
  have hD : va_D A (ac_w ad cI cL (upd fi 7 (ac_freed (ai 5) (fi 6) na)) fl ai (va_up al 20 (ac_brg (al 16) (ac_whole (ai 5) (fi 1) na (fi 6)) (al 20) k))) := am_D hD rfl
  refine lv_iload_n hx hb dX3_keepParts_29 rfl (lv_at hl 3 rfl) ?_
  refine lv_bipush (v := 12) hx hb dX3_keepParts_30 (by decide) ?_
  refine lv_icmp_ge (tgt := 65) hx hb dX3_keepParts_32 (by decide) (fun c_32 => ?_) (fun c_32 => ?_)
  · skip
    have hke_32 : 12 ≤ k := (am_ge (rfl : (12 : Int32) = nI 12) (by decide) (by omega)).mp c_32
    have hkq_32 : k = 12 := by omega
    subst hkq_32
    exact am_vretM hx hb hr hlocks hP hS dX3_keepParts_65
  · skip
    have hkl_32 : k < 12 := Nat.lt_of_not_le (fun z => c_32 ((am_ge (rfl : (12 : Int32) = nI 12) (by decide) (by omega)).mpr z))
    refine lv_aload_n hx hb dX3_keepParts_35 rfl (lv_at hl 0 rfl) ?_
    refine va_get (D := D) (ci := 3) (v := .ref (ad 20)) (C := RX3) (T := TX3) (N := 8) hx hb hts hin_X3 hown hK hP 3 rfl rfl 7 (by decide) hf_15 (fun _ h9 => h9) rfl dX3_keepParts_36 ?_
    refine lv_iload_n hx hb dX3_keepParts_39 rfl (lv_at hl 3 rfl) ?_
    refine lv_iload_n hx hb dX3_keepParts_40 rfl (lv_at hl 2 rfl) ?_
    refine lv_iload_n hx hb dX3_keepParts_41 rfl (lv_at hl 3 rfl) ?_
    refine am_callRi (va_Run.run (va_runSN (As := [.int (ac_whole (ai 5) (fi 1) na (fi 6)), .int (nI k)]) (rest := [.int (nI k), .ref (ad 20)]) ⟨hx, hb, hml, hown, hts⟩ (c_X0_has l D _ _ (ac_whole (ai 5) (fi 1) na (fi 6)) (nI k)) ⟨va_cnB 2 hts (am_gN (am_in 206 rfl)) rfl rfl rfl (am_nw_at hN 3 rfl) (ht 29 _ rfl) (by decide +kernel) ⟨Nat.le_of_ble_eq_true rfl, Nat.le_of_ble_eq_true rfl⟩, (ht 205 _ rfl), trivial⟩ (am_preSR hP hK hN) rfl rfl hl.1 rfl (lv_room (Nat.le_of_ble_eq_true rfl)) dX3_keepParts_42 ⟨Nat.zero_le _, Nat.zero_le _⟩)) ?_
    refine lv_if_eq (tgt := 57) hx hb dX3_keepParts_45 (by decide) (fun c_45 => ?_) (fun c_45 => ?_)
    · skip
      refine lv_lconst (v := 0) hx hb dX3_keepParts_57 (by decide) ?_
      refine am_last hx hb hK hP hD hS 20 1 rfl rfl k rfl (by omega) (by decide) (ac_w ad cI cL (upd fi 7 (ac_freed (ai 5) (fi 6) na)) fl ai (va_up al 20 (vp_updL (ac_brg (al 16) (ac_whole (ai 5) (fi 1) na (fi 6)) (al 20) k) k 0))) rfl dX3_keepParts_58 (fun H locs hP hD hS => ?_)
      refine lv_iinc (v := nI (k + 1)) (lv' := [(3, .int (nI (k + 1))), (0, .ref (ad 3)), (1, .ref (ad 2)), (2, .int (ac_whole (ai 5) (fi 1) na (fi 6)))]) hx hb dX3_keepParts_59 hl (k := 3) rfl (nI_1 k) (by decide) rfl (fun ls hl => ?_)
      refine lv_goto (tgt := 29) hx hb dX3_keepParts_62 (by decide) ?_
      have e_29_0 : (ac_brg (al 16) (ac_whole (ai 5) (fi 1) na (fi 6)) (al 20) (k + 1)) = (vp_updL (ac_brg (al 16) (ac_whole (ai 5) (fi 1) na (fi 6)) (al 20) k) k 0) := by first | rfl | (simp only [ac_brg, c_32, c_45, if_true, if_false, eq_self, not_true_eq_false, not_false_eq_true, ite_true, ite_false, ↓reduceIte]; done) | (simp [ac_brg, c_32, c_45]; done)
      refine ih_29 (k + 1) (12 - (k + 1)) H locs ls (by omega) ⟨rfl, (by omega), ?_, hS, ?_⟩
      · (try dsimp only); (try rw [e_29_0]); exact hP
      · (try dsimp only); (try rw [e_29_0]); exact lv_sub hl [1, 2, 3, 0] rfl
    · skip
      refine lv_aload_n hx hb dX3_keepParts_48 rfl (lv_at hl 1 rfl) ?_
      refine va_get (D := D) (ci := 2) (v := .ref (ad 16)) (C := RX2) (T := TX2) (N := 4) hx hb hts hin_X2 hown hK hP 2 rfl rfl 1 (by decide) hf_63 (fun _ h9 => h9) rfl dX3_keepParts_49 ?_
      refine lv_iload_n hx hb dX3_keepParts_52 rfl (lv_at hl 3 rfl) ?_
      refine am_lald hx hb hK hP 16 1 rfl rfl k rfl (by omega) (by decide) dX3_keepParts_53 ?_
      refine lv_goto (tgt := 58) hx hb dX3_keepParts_54 (by decide) ?_
      refine am_last hx hb hK hP hD hS 20 1 rfl rfl k rfl (by omega) (by decide) (ac_w ad cI cL (upd fi 7 (ac_freed (ai 5) (fi 6) na)) fl ai (va_up al 20 (vp_updL (ac_brg (al 16) (ac_whole (ai 5) (fi 1) na (fi 6)) (al 20) k) k ((al 16) k)))) rfl dX3_keepParts_58 (fun H locs hP hD hS => ?_)
      refine lv_iinc (v := nI (k + 1)) (lv' := [(3, .int (nI (k + 1))), (0, .ref (ad 3)), (1, .ref (ad 2)), (2, .int (ac_whole (ai 5) (fi 1) na (fi 6)))]) hx hb dX3_keepParts_59 hl (k := 3) rfl (nI_1 k) (by decide) rfl (fun ls hl => ?_)
      refine lv_goto (tgt := 29) hx hb dX3_keepParts_62 (by decide) ?_
      have e_29_0 : (ac_brg (al 16) (ac_whole (ai 5) (fi 1) na (fi 6)) (al 20) (k + 1)) = (vp_updL (ac_brg (al 16) (ac_whole (ai 5) (fi 1) na (fi 6)) (al 20) k) k ((al 16) k)) := by first | rfl | (simp only [ac_brg, c_32, c_45, if_true, if_false, eq_self, not_true_eq_false, not_false_eq_true, ite_true, ite_false, ↓reduceIte]; done) | (simp [ac_brg, c_32, c_45]; done)
      refine ih_29 (k + 1) (12 - (k + 1)) H locs ls (by omega) ⟨rfl, (by omega), ?_, hS, ?_⟩
      · (try dsimp only); (try rw [e_29_0]); exact hP
      · (try dsimp only); (try rw [e_29_0]); exact lv_sub hl [1, 2, 3, 0] rfl

set_option maxHeartbeats 4000000 in
set_option maxRecDepth 100000 in
theorem c_X3_keepRow (l : Launch) (D : va_G) (ad : Nat → Nat) (cI cL : ClassId) (fi : Nat → Int32) (fl : Nat → Int64) (ai : Nat → Nat → Int32) (al : Nat → Nat → Int64) (A : Nat → Prop) (na : Nat) (nr : Nat) (hna : fi 0 = nI na) (hnl : na ≤ 10) (hnr : fi 2 = nI nr) (hnrl : nr ≤ 16) : Met l yX3_keepRow wsX3_keepRow (am_rm 5 118) (va_Pc [.ref (ad 3), .ref (ad 2)] (am_M nwL vwCl D A (ac_w ad cI cL fi fl ai al) [(cI, .int), (cL, .long)])) (am_Mv vwCl D (ac_w ad cI cL (upd (upd (upd (upd (upd fi 3 1) 4 1) 5 (nI (ac_rk fi ai al na nr).2.1)) 6 (nI (ac_rk fi ai al na nr).2.2)) 7 (ac_freed (ai 5) (nI (ac_rk fi ai al na nr).2.2) na)) fl (va_up ai 19 ((ac_rk fi ai al na nr).1)) (va_up al 20 (ac_rb fi ai al na (nI (ac_rk fi ai al na nr).2.2)))) A) 0 0 A := by
  refine am_startM (cc := cX3_keepRow) (maxL := 3) (ret := none) (by decide) rfl (Nat.le_of_ble_eq_true rfl) [(0, .ref (ad 3)), (1, .ref (ad 2))] rfl ?_
  intro p e s m below meth c ls hx hb hr hml hown hts hlocks hK hN hD H locs hP hS hl
  have hown : s.vm.findClass RX3 = some m.cls := hown
  have ht := am_ht hts
  have hin_X3 : ∀ w ∈ u_ws RX3 TX3 8, w ∈ wsX3_keepRow := fun w h => List.mem_cons_of_mem _ (am_inX3 w h)
  have hf_19 := ht 125 (.fieldLink RX3 19 "ApartCost$Found" "length" "I") rfl
  have hf_23 := ht 127 (.fieldLink RX3 23 "ApartCost$Found" "set" "I") rfl
  have hf_36 := ht 121 (.fieldLink RX3 36 "ApartCost$Found" "any" "Z") rfl
  have hf_40 := ht 124 (.fieldLink RX3 40 "ApartCost$Found" "upToDate" "Z") rfl
  have hf_9 := ht 132 (.fieldLink RX3 9 "ApartCost$Found" "row" "[I") rfl
  refine lv_aload_n hx hb dX3_keepRow_0 rfl (lv_at hl 0 rfl) ?_
  refine lv_iconst (v := 0) hx hb dX3_keepRow_1 (by decide) ?_
  refine va_put (D := D) (ci := 3) (v := .int 0) (ty := .int) (C := RX3) (T := TX3) (N := 8) hx hb hts hin_X3 tyX3 tyX3_ok nmX3 hown hK hP hD hS 3 rfl rfl 2 (by decide) hf_19 (fun _ h9 => h9) rfl (by decide +kernel) rfl rfl (Nat.le_of_ble_eq_true rfl) dX3_keepRow_2 (fun H locs hP hD hS => ?_)
  have hP : va_P D vwCl (ac_w ad cI cL (upd fi 5 0) fl ai al) H := hP
  have hD : va_D A (ac_w ad cI cL (upd fi 5 0) fl ai al) := am_D hD rfl
  refine lv_aload_n hx hb dX3_keepRow_5 rfl (lv_at hl 0 rfl) ?_
  refine lv_iconst (v := 0) hx hb dX3_keepRow_6 (by decide) ?_
  refine va_put (D := D) (ci := 3) (v := .int 0) (ty := .int) (C := RX3) (T := TX3) (N := 8) hx hb hts hin_X3 tyX3 tyX3_ok nmX3 hown hK hP hD hS 3 rfl rfl 3 (by decide) hf_23 (fun _ h9 => h9) rfl (by decide +kernel) rfl rfl (Nat.le_of_ble_eq_true rfl) dX3_keepRow_7 (fun H locs hP hD hS => ?_)
  have hP : va_P D vwCl (ac_w ad cI cL (upd (upd fi 5 0) 6 0) fl ai al) H := hP
  have hD : va_D A (ac_w ad cI cL (upd (upd fi 5 0) 6 0) fl ai al) := am_D hD rfl
  refine lv_aload_n hx hb dX3_keepRow_10 rfl (lv_at hl 1 rfl) ?_
  refine lv_iconst (v := 0) hx hb dX3_keepRow_11 (by decide) ?_
  refine lv_iconst (v := (-1)) hx hb dX3_keepRow_12 (by decide) ?_
  refine am_callRi (W.runV (As := [.int 0, .int (-1)]) (rest := []) ⟨hx, hb, hml, hown, hts⟩ (c_X2_bestNext l D ad cI cL (upd (upd fi 5 0) 6 0) fl ai al 0 0 na nr hna hnl hnr hnrl (by omega) (by omega)) (cwV 2 hts (am_gV (am_in 342 rfl) (am_in 343 rfl) (am_in 344 rfl) (am_in 32 rfl) (am_in 345 rfl)) rfl rfl rfl (by decide +kernel) ⟨Nat.le_of_ble_eq_true rfl, Nat.le_of_ble_eq_true rfl⟩) (am_preVR 2 2 rfl rfl rfl hP hK hN) rfl rfl hl.1 rfl (lv_room (Nat.le_of_ble_eq_true rfl)) dX3_keepRow_13 ⟨Nat.zero_le _, Nat.zero_le _⟩) ?_
  refine lv_istore_n (lv' := [(2, .int (ac_la (ac_bn (ai 5) (ai 14) (ai 9) (al 15) (al 16) (al 17) (al 18) (fi 1) na nr 0 0))), (0, .ref (ad 3)), (1, .ref (ad 2))]) hx hb dX3_keepRow_16 rfl hl (by decide) rfl (fun ls hl => ?_)
  refine am_loop (σ := (Nat → Int32) × (Nat) × (Nat) × (Nat)) (fun q n9 H locs ls => n9 = 10 - q.2.1 ∧ q.2.1 ≤ 10 ∧ q.2.2.1 < 1024 ∧ q.2.2.2 ≤ na ∧ ac_kr (ac_bn (ai 5) (ai 14) (ai 9) (al 15) (al 16) (al 17) (al 18) (fi 1) na nr) (10 - q.2.1) q.1 q.2.1 q.2.2.1 q.2.2.2 = (ac_kr (ac_bn (ai 5) (ai 14) (ai 9) (al 15) (al 16) (al 17) (al 18) (fi 1) na nr) 10 (ai 19) 0 0 ((ac_bn (ai 5) (ai 14) (ai 9) (al 15) (al 16) (al 17) (al 18) (fi 1) na nr) 0 0)) ∧ va_P D vwCl (ac_w ad cI cL (upd (upd fi 5 (nI q.2.1)) 6 (nI q.2.2.1)) fl (va_up ai 19 q.1) al) H ∧ va_S A s.heap H locs ∧ lv_has ls 3 [(0, .ref (ad 3)), (1, .ref (ad 2)), (2, .int (ac_la q.2.2.2))]) ?_ ((ai 19), 0, 0, (ac_bn (ai 5) (ai 14) (ai 9) (al 15) (al 16) (al 17) (al 18) (fi 1) na nr) 0 0) (10 - 0) H locs ls ⟨rfl, (by first | omega | (dsimp only; omega)), (by first | omega | (dsimp only; omega)), (ac_bn_le _ _ _ _ _ _ _ _ _ _ _ _), rfl, hP, hS, lv_sub hl [1, 2, 0] rfl⟩
  rintro ⟨rw9, ln, sn, j⟩ n9 H locs ls ⟨hn_17, hln, hsn, hj, hm, hP, hS, hl⟩ ih_17
  dsimp only at hn_17 hln hsn hj hm hP hl
  have hD : va_D A (ac_w ad cI cL (upd (upd fi 5 (nI ln)) 6 (nI sn)) fl (va_up ai 19 rw9) al) := am_D hD rfl
  refine lv_iload_n hx hb dX3_keepRow_17 rfl (lv_at hl 2 rfl) ?_
  refine lv_iconst (v := (-1)) hx hb dX3_keepRow_18 (by decide) ?_
  refine lv_icmp_eq (tgt := 76) hx hb dX3_keepRow_19 (by decide) (fun c_19 => ?_) (fun c_19 => ?_)
  · skip
    obtain rfl : j = 0 := by cases j with | zero => rfl | succ z => exact absurd c_19 (ac_la_ne z (by omega))
    have hm : (rw9, ln, sn) = (ac_kr (ac_bn (ai 5) (ai 14) (ai 9) (al 15) (al 16) (al 17) (al 18) (fi 1) na nr) 10 (ai 19) 0 0 ((ac_bn (ai 5) (ai 14) (ai 9) (al 15) (al 16) (al 17) (al 18) (fi 1) na nr) 0 0)) := by rw [← hm, ac_kr_0]
    have hrow : rw9 = (ac_kr (ac_bn (ai 5) (ai 14) (ai 9) (al 15) (al 16) (al 17) (al 18) (fi 1) na nr) 10 (ai 19) 0 0 ((ac_bn (ai 5) (ai 14) (ai 9) (al 15) (al 16) (al 17) (al 18) (fi 1) na nr) 0 0)).1 := by rw [← hm]
    have hlen9 : ln = (ac_kr (ac_bn (ai 5) (ai 14) (ai 9) (al 15) (al 16) (al 17) (al 18) (fi 1) na nr) 10 (ai 19) 0 0 ((ac_bn (ai 5) (ai 14) (ai 9) (al 15) (al 16) (al 17) (al 18) (fi 1) na nr) 0 0)).2.1 := by rw [← hm]
    have hset9 : sn = (ac_kr (ac_bn (ai 5) (ai 14) (ai 9) (al 15) (al 16) (al 17) (al 18) (fi 1) na nr) 10 (ai 19) 0 0 ((ac_bn (ai 5) (ai 14) (ai 9) (al 15) (al 16) (al 17) (al 18) (fi 1) na nr) 0 0)).2.2 := by rw [← hm]
    subst hrow hlen9 hset9
    refine lv_aload_n hx hb dX3_keepRow_76 rfl (lv_at hl 0 rfl) ?_
    refine lv_aload_n hx hb dX3_keepRow_77 rfl (lv_at hl 1 rfl) ?_
    refine am_callMv (va_runV (As := [.ref (ad 2)]) (rest := []) ⟨hx, hb, hml, hown, hts⟩ (c_X3_keepParts l D ad cI cL (upd (upd fi 5 (nI (ac_kr (ac_bn (ai 5) (ai 14) (ai 9) (al 15) (al 16) (al 17) (al 18) (fi 1) na nr) 10 (ai 19) 0 0 ((ac_bn (ai 5) (ai 14) (ai 9) (al 15) (al 16) (al 17) (al 18) (fi 1) na nr) 0 0)).2.1)) 6 (nI (ac_kr (ac_bn (ai 5) (ai 14) (ai 9) (al 15) (al 16) (al 17) (al 18) (fi 1) na nr) 10 (ai 19) 0 0 ((ac_bn (ai 5) (ai 14) (ai 9) (al 15) (al 16) (al 17) (al 18) (fi 1) na nr) 0 0)).2.2)) fl (va_up ai 19 (ac_kr (ac_bn (ai 5) (ai 14) (ai 9) (al 15) (al 16) (al 17) (al 18) (fi 1) na nr) 10 (ai 19) 0 0 ((ac_bn (ai 5) (ai 14) (ai 9) (al 15) (al 16) (al 17) (al 18) (fi 1) na nr) 0 0)).1) al A na hna hnl) (cwV 1 hts (am_gV (am_in 346 rfl) (am_in 347 rfl) (am_in 7 rfl) (am_in 33 rfl) (am_in 348 rfl)) rfl rfl rfl (by decide +kernel) ⟨Nat.le_of_ble_eq_true rfl, Nat.le_of_ble_eq_true rfl⟩) (am_preVM 3 3 rfl rfl rfl hP hK hN hD) rfl rfl hl.1 rfl (lv_room (Nat.le_of_ble_eq_true rfl)) dX3_keepRow_78 ⟨Nat.zero_le _, Nat.zero_le _⟩) hS (fun H locs hP hS => ?_)
    have hP : va_P D vwCl (ac_w ad cI cL (upd (upd (upd fi 5 (nI (ac_kr (ac_bn (ai 5) (ai 14) (ai 9) (al 15) (al 16) (al 17) (al 18) (fi 1) na nr) 10 (ai 19) 0 0 ((ac_bn (ai 5) (ai 14) (ai 9) (al 15) (al 16) (al 17) (al 18) (fi 1) na nr) 0 0)).2.1)) 6 (nI (ac_kr (ac_bn (ai 5) (ai 14) (ai 9) (al 15) (al 16) (al 17) (al 18) (fi 1) na nr) 10 (ai 19) 0 0 ((ac_bn (ai 5) (ai 14) (ai 9) (al 15) (al 16) (al 17) (al 18) (fi 1) na nr) 0 0)).2.2)) 7 (ac_freed (ai 5) (nI (ac_kr (ac_bn (ai 5) (ai 14) (ai 9) (al 15) (al 16) (al 17) (al 18) (fi 1) na nr) 10 (ai 19) 0 0 ((ac_bn (ai 5) (ai 14) (ai 9) (al 15) (al 16) (al 17) (al 18) (fi 1) na nr) 0 0)).2.2) na)) fl (va_up ai 19 (ac_kr (ac_bn (ai 5) (ai 14) (ai 9) (al 15) (al 16) (al 17) (al 18) (fi 1) na nr) 10 (ai 19) 0 0 ((ac_bn (ai 5) (ai 14) (ai 9) (al 15) (al 16) (al 17) (al 18) (fi 1) na nr) 0 0)).1) (va_up al 20 (ac_brg (al 16) (ac_whole (ai 5) (fi 1) na (nI (ac_kr (ac_bn (ai 5) (ai 14) (ai 9) (al 15) (al 16) (al 17) (al 18) (fi 1) na nr) 10 (ai 19) 0 0 ((ac_bn (ai 5) (ai 14) (ai 9) (al 15) (al 16) (al 17) (al 18) (fi 1) na nr) 0 0)).2.2)) (al 20) 12))) H := hP
    have hD : va_D A (ac_w ad cI cL (upd (upd (upd fi 5 (nI (ac_kr (ac_bn (ai 5) (ai 14) (ai 9) (al 15) (al 16) (al 17) (al 18) (fi 1) na nr) 10 (ai 19) 0 0 ((ac_bn (ai 5) (ai 14) (ai 9) (al 15) (al 16) (al 17) (al 18) (fi 1) na nr) 0 0)).2.1)) 6 (nI (ac_kr (ac_bn (ai 5) (ai 14) (ai 9) (al 15) (al 16) (al 17) (al 18) (fi 1) na nr) 10 (ai 19) 0 0 ((ac_bn (ai 5) (ai 14) (ai 9) (al 15) (al 16) (al 17) (al 18) (fi 1) na nr) 0 0)).2.2)) 7 (ac_freed (ai 5) (nI (ac_kr (ac_bn (ai 5) (ai 14) (ai 9) (al 15) (al 16) (al 17) (al 18) (fi 1) na nr) 10 (ai 19) 0 0 ((ac_bn (ai 5) (ai 14) (ai 9) (al 15) (al 16) (al 17) (al 18) (fi 1) na nr) 0 0)).2.2) na)) fl (va_up ai 19 (ac_kr (ac_bn (ai 5) (ai 14) (ai 9) (al 15) (al 16) (al 17) (al 18) (fi 1) na nr) 10 (ai 19) 0 0 ((ac_bn (ai 5) (ai 14) (ai 9) (al 15) (al 16) (al 17) (al 18) (fi 1) na nr) 0 0)).1) (va_up al 20 (ac_brg (al 16) (ac_whole (ai 5) (fi 1) na (nI (ac_kr (ac_bn (ai 5) (ai 14) (ai 9) (al 15) (al 16) (al 17) (al 18) (fi 1) na nr) 10 (ai 19) 0 0 ((ac_bn (ai 5) (ai 14) (ai 9) (al 15) (al 16) (al 17) (al 18) (fi 1) na nr) 0 0)).2.2)) (al 20) 12))) := am_D hD rfl
    refine lv_aload_n hx hb dX3_keepRow_81 rfl (lv_at hl 0 rfl) ?_
    refine lv_iconst (v := 1) hx hb dX3_keepRow_82 (by decide) ?_
    refine va_put (D := D) (ci := 3) (v := .int 1) (ty := .boolean) (C := RX3) (T := TX3) (N := 8) hx hb hts hin_X3 tyX3 tyX3_ok nmX3 hown hK hP hD hS 3 rfl rfl 0 (by decide) hf_36 (fun _ h9 => h9) rfl (by decide +kernel) rfl rfl (Nat.le_of_ble_eq_true rfl) dX3_keepRow_83 (fun H locs hP hD hS => ?_)
    have hP : va_P D vwCl (ac_w ad cI cL (upd (upd (upd (upd fi 3 1) 5 (nI (ac_kr (ac_bn (ai 5) (ai 14) (ai 9) (al 15) (al 16) (al 17) (al 18) (fi 1) na nr) 10 (ai 19) 0 0 ((ac_bn (ai 5) (ai 14) (ai 9) (al 15) (al 16) (al 17) (al 18) (fi 1) na nr) 0 0)).2.1)) 6 (nI (ac_kr (ac_bn (ai 5) (ai 14) (ai 9) (al 15) (al 16) (al 17) (al 18) (fi 1) na nr) 10 (ai 19) 0 0 ((ac_bn (ai 5) (ai 14) (ai 9) (al 15) (al 16) (al 17) (al 18) (fi 1) na nr) 0 0)).2.2)) 7 (ac_freed (ai 5) (nI (ac_kr (ac_bn (ai 5) (ai 14) (ai 9) (al 15) (al 16) (al 17) (al 18) (fi 1) na nr) 10 (ai 19) 0 0 ((ac_bn (ai 5) (ai 14) (ai 9) (al 15) (al 16) (al 17) (al 18) (fi 1) na nr) 0 0)).2.2) na)) fl (va_up ai 19 (ac_kr (ac_bn (ai 5) (ai 14) (ai 9) (al 15) (al 16) (al 17) (al 18) (fi 1) na nr) 10 (ai 19) 0 0 ((ac_bn (ai 5) (ai 14) (ai 9) (al 15) (al 16) (al 17) (al 18) (fi 1) na nr) 0 0)).1) (va_up al 20 (ac_brg (al 16) (ac_whole (ai 5) (fi 1) na (nI (ac_kr (ac_bn (ai 5) (ai 14) (ai 9) (al 15) (al 16) (al 17) (al 18) (fi 1) na nr) 10 (ai 19) 0 0 ((ac_bn (ai 5) (ai 14) (ai 9) (al 15) (al 16) (al 17) (al 18) (fi 1) na nr) 0 0)).2.2)) (al 20) 12))) H := hP
    have hD : va_D A (ac_w ad cI cL (upd (upd (upd (upd fi 3 1) 5 (nI (ac_kr (ac_bn (ai 5) (ai 14) (ai 9) (al 15) (al 16) (al 17) (al 18) (fi 1) na nr) 10 (ai 19) 0 0 ((ac_bn (ai 5) (ai 14) (ai 9) (al 15) (al 16) (al 17) (al 18) (fi 1) na nr) 0 0)).2.1)) 6 (nI (ac_kr (ac_bn (ai 5) (ai 14) (ai 9) (al 15) (al 16) (al 17) (al 18) (fi 1) na nr) 10 (ai 19) 0 0 ((ac_bn (ai 5) (ai 14) (ai 9) (al 15) (al 16) (al 17) (al 18) (fi 1) na nr) 0 0)).2.2)) 7 (ac_freed (ai 5) (nI (ac_kr (ac_bn (ai 5) (ai 14) (ai 9) (al 15) (al 16) (al 17) (al 18) (fi 1) na nr) 10 (ai 19) 0 0 ((ac_bn (ai 5) (ai 14) (ai 9) (al 15) (al 16) (al 17) (al 18) (fi 1) na nr) 0 0)).2.2) na)) fl (va_up ai 19 (ac_kr (ac_bn (ai 5) (ai 14) (ai 9) (al 15) (al 16) (al 17) (al 18) (fi 1) na nr) 10 (ai 19) 0 0 ((ac_bn (ai 5) (ai 14) (ai 9) (al 15) (al 16) (al 17) (al 18) (fi 1) na nr) 0 0)).1) (va_up al 20 (ac_brg (al 16) (ac_whole (ai 5) (fi 1) na (nI (ac_kr (ac_bn (ai 5) (ai 14) (ai 9) (al 15) (al 16) (al 17) (al 18) (fi 1) na nr) 10 (ai 19) 0 0 ((ac_bn (ai 5) (ai 14) (ai 9) (al 15) (al 16) (al 17) (al 18) (fi 1) na nr) 0 0)).2.2)) (al 20) 12))) := am_D hD rfl
    refine lv_aload_n hx hb dX3_keepRow_86 rfl (lv_at hl 0 rfl) ?_
    refine lv_iconst (v := 1) hx hb dX3_keepRow_87 (by decide) ?_
    refine va_put (D := D) (ci := 3) (v := .int 1) (ty := .boolean) (C := RX3) (T := TX3) (N := 8) hx hb hts hin_X3 tyX3 tyX3_ok nmX3 hown hK hP hD hS 3 rfl rfl 1 (by decide) hf_40 (fun _ h9 => h9) rfl (by decide +kernel) rfl rfl (Nat.le_of_ble_eq_true rfl) dX3_keepRow_88 (fun H locs hP hD hS => ?_)
    have hP : va_P D vwCl (ac_w ad cI cL (upd (upd (upd (upd (upd fi 3 1) 4 1) 5 (nI (ac_kr (ac_bn (ai 5) (ai 14) (ai 9) (al 15) (al 16) (al 17) (al 18) (fi 1) na nr) 10 (ai 19) 0 0 ((ac_bn (ai 5) (ai 14) (ai 9) (al 15) (al 16) (al 17) (al 18) (fi 1) na nr) 0 0)).2.1)) 6 (nI (ac_kr (ac_bn (ai 5) (ai 14) (ai 9) (al 15) (al 16) (al 17) (al 18) (fi 1) na nr) 10 (ai 19) 0 0 ((ac_bn (ai 5) (ai 14) (ai 9) (al 15) (al 16) (al 17) (al 18) (fi 1) na nr) 0 0)).2.2)) 7 (ac_freed (ai 5) (nI (ac_kr (ac_bn (ai 5) (ai 14) (ai 9) (al 15) (al 16) (al 17) (al 18) (fi 1) na nr) 10 (ai 19) 0 0 ((ac_bn (ai 5) (ai 14) (ai 9) (al 15) (al 16) (al 17) (al 18) (fi 1) na nr) 0 0)).2.2) na)) fl (va_up ai 19 (ac_kr (ac_bn (ai 5) (ai 14) (ai 9) (al 15) (al 16) (al 17) (al 18) (fi 1) na nr) 10 (ai 19) 0 0 ((ac_bn (ai 5) (ai 14) (ai 9) (al 15) (al 16) (al 17) (al 18) (fi 1) na nr) 0 0)).1) (va_up al 20 (ac_brg (al 16) (ac_whole (ai 5) (fi 1) na (nI (ac_kr (ac_bn (ai 5) (ai 14) (ai 9) (al 15) (al 16) (al 17) (al 18) (fi 1) na nr) 10 (ai 19) 0 0 ((ac_bn (ai 5) (ai 14) (ai 9) (al 15) (al 16) (al 17) (al 18) (fi 1) na nr) 0 0)).2.2)) (al 20) 12))) H := hP
    have hD : va_D A (ac_w ad cI cL (upd (upd (upd (upd (upd fi 3 1) 4 1) 5 (nI (ac_kr (ac_bn (ai 5) (ai 14) (ai 9) (al 15) (al 16) (al 17) (al 18) (fi 1) na nr) 10 (ai 19) 0 0 ((ac_bn (ai 5) (ai 14) (ai 9) (al 15) (al 16) (al 17) (al 18) (fi 1) na nr) 0 0)).2.1)) 6 (nI (ac_kr (ac_bn (ai 5) (ai 14) (ai 9) (al 15) (al 16) (al 17) (al 18) (fi 1) na nr) 10 (ai 19) 0 0 ((ac_bn (ai 5) (ai 14) (ai 9) (al 15) (al 16) (al 17) (al 18) (fi 1) na nr) 0 0)).2.2)) 7 (ac_freed (ai 5) (nI (ac_kr (ac_bn (ai 5) (ai 14) (ai 9) (al 15) (al 16) (al 17) (al 18) (fi 1) na nr) 10 (ai 19) 0 0 ((ac_bn (ai 5) (ai 14) (ai 9) (al 15) (al 16) (al 17) (al 18) (fi 1) na nr) 0 0)).2.2) na)) fl (va_up ai 19 (ac_kr (ac_bn (ai 5) (ai 14) (ai 9) (al 15) (al 16) (al 17) (al 18) (fi 1) na nr) 10 (ai 19) 0 0 ((ac_bn (ai 5) (ai 14) (ai 9) (al 15) (al 16) (al 17) (al 18) (fi 1) na nr) 0 0)).1) (va_up al 20 (ac_brg (al 16) (ac_whole (ai 5) (fi 1) na (nI (ac_kr (ac_bn (ai 5) (ai 14) (ai 9) (al 15) (al 16) (al 17) (al 18) (fi 1) na nr) 10 (ai 19) 0 0 ((ac_bn (ai 5) (ai 14) (ai 9) (al 15) (al 16) (al 17) (al 18) (fi 1) na nr) 0 0)).2.2)) (al 20) 12))) := am_D hD rfl
    exact am_vretM hx hb hr hlocks hP hS dX3_keepRow_91
  · skip
    obtain ⟨a, rfl⟩ : ∃ z, j = z + 1 := by cases j with | zero => exact absurd rfl c_19 | succ z => exact ⟨z, rfl⟩
    have hl : lv_has ls 3 [(0, .ref (ad 3)), (1, .ref (ad 2)), (2, .int (nI a))] := hl
    refine lv_aload_n hx hb dX3_keepRow_22 rfl (lv_at hl 0 rfl) ?_
    refine va_get (D := D) (ci := 3) (v := .int (nI ln)) (C := RX3) (T := TX3) (N := 8) hx hb hts hin_X3 hown hK hP 3 rfl rfl 2 (by decide) hf_19 (fun _ h9 => h9) rfl dX3_keepRow_23 ?_
    refine lv_bipush (v := 10) hx hb dX3_keepRow_26 (by decide) ?_
    refine lv_icmp_ge (tgt := 76) hx hb dX3_keepRow_28 (by decide) (fun c_28 => ?_) (fun c_28 => ?_)
    · skip
      have hl9 : ln = 10 := by have h := c_28; rw [show (10 : Int32) = nI 10 from rfl, nI_leI (by omega) (by omega)] at h; omega
      have hm : (rw9, ln, sn) = (ac_kr (ac_bn (ai 5) (ai 14) (ai 9) (al 15) (al 16) (al 17) (al 18) (fi 1) na nr) 10 (ai 19) 0 0 ((ac_bn (ai 5) (ai 14) (ai 9) (al 15) (al 16) (al 17) (al 18) (fi 1) na nr) 0 0)) := by rw [← hm, hl9]; rfl
      have hrow : rw9 = (ac_kr (ac_bn (ai 5) (ai 14) (ai 9) (al 15) (al 16) (al 17) (al 18) (fi 1) na nr) 10 (ai 19) 0 0 ((ac_bn (ai 5) (ai 14) (ai 9) (al 15) (al 16) (al 17) (al 18) (fi 1) na nr) 0 0)).1 := by rw [← hm]
      have hlen9 : ln = (ac_kr (ac_bn (ai 5) (ai 14) (ai 9) (al 15) (al 16) (al 17) (al 18) (fi 1) na nr) 10 (ai 19) 0 0 ((ac_bn (ai 5) (ai 14) (ai 9) (al 15) (al 16) (al 17) (al 18) (fi 1) na nr) 0 0)).2.1 := by rw [← hm]
      have hset9 : sn = (ac_kr (ac_bn (ai 5) (ai 14) (ai 9) (al 15) (al 16) (al 17) (al 18) (fi 1) na nr) 10 (ai 19) 0 0 ((ac_bn (ai 5) (ai 14) (ai 9) (al 15) (al 16) (al 17) (al 18) (fi 1) na nr) 0 0)).2.2 := by rw [← hm]
      subst hrow hlen9 hset9
      refine lv_aload_n hx hb dX3_keepRow_76 rfl (lv_at hl 0 rfl) ?_
      refine lv_aload_n hx hb dX3_keepRow_77 rfl (lv_at hl 1 rfl) ?_
      refine am_callMv (va_runV (As := [.ref (ad 2)]) (rest := []) ⟨hx, hb, hml, hown, hts⟩ (c_X3_keepParts l D ad cI cL (upd (upd fi 5 (nI (ac_kr (ac_bn (ai 5) (ai 14) (ai 9) (al 15) (al 16) (al 17) (al 18) (fi 1) na nr) 10 (ai 19) 0 0 ((ac_bn (ai 5) (ai 14) (ai 9) (al 15) (al 16) (al 17) (al 18) (fi 1) na nr) 0 0)).2.1)) 6 (nI (ac_kr (ac_bn (ai 5) (ai 14) (ai 9) (al 15) (al 16) (al 17) (al 18) (fi 1) na nr) 10 (ai 19) 0 0 ((ac_bn (ai 5) (ai 14) (ai 9) (al 15) (al 16) (al 17) (al 18) (fi 1) na nr) 0 0)).2.2)) fl (va_up ai 19 (ac_kr (ac_bn (ai 5) (ai 14) (ai 9) (al 15) (al 16) (al 17) (al 18) (fi 1) na nr) 10 (ai 19) 0 0 ((ac_bn (ai 5) (ai 14) (ai 9) (al 15) (al 16) (al 17) (al 18) (fi 1) na nr) 0 0)).1) al A na hna hnl) (cwV 1 hts (am_gV (am_in 346 rfl) (am_in 347 rfl) (am_in 7 rfl) (am_in 33 rfl) (am_in 348 rfl)) rfl rfl rfl (by decide +kernel) ⟨Nat.le_of_ble_eq_true rfl, Nat.le_of_ble_eq_true rfl⟩) (am_preVM 3 3 rfl rfl rfl hP hK hN hD) rfl rfl hl.1 rfl (lv_room (Nat.le_of_ble_eq_true rfl)) dX3_keepRow_78 ⟨Nat.zero_le _, Nat.zero_le _⟩) hS (fun H locs hP hS => ?_)
      have hP : va_P D vwCl (ac_w ad cI cL (upd (upd (upd fi 5 (nI (ac_kr (ac_bn (ai 5) (ai 14) (ai 9) (al 15) (al 16) (al 17) (al 18) (fi 1) na nr) 10 (ai 19) 0 0 ((ac_bn (ai 5) (ai 14) (ai 9) (al 15) (al 16) (al 17) (al 18) (fi 1) na nr) 0 0)).2.1)) 6 (nI (ac_kr (ac_bn (ai 5) (ai 14) (ai 9) (al 15) (al 16) (al 17) (al 18) (fi 1) na nr) 10 (ai 19) 0 0 ((ac_bn (ai 5) (ai 14) (ai 9) (al 15) (al 16) (al 17) (al 18) (fi 1) na nr) 0 0)).2.2)) 7 (ac_freed (ai 5) (nI (ac_kr (ac_bn (ai 5) (ai 14) (ai 9) (al 15) (al 16) (al 17) (al 18) (fi 1) na nr) 10 (ai 19) 0 0 ((ac_bn (ai 5) (ai 14) (ai 9) (al 15) (al 16) (al 17) (al 18) (fi 1) na nr) 0 0)).2.2) na)) fl (va_up ai 19 (ac_kr (ac_bn (ai 5) (ai 14) (ai 9) (al 15) (al 16) (al 17) (al 18) (fi 1) na nr) 10 (ai 19) 0 0 ((ac_bn (ai 5) (ai 14) (ai 9) (al 15) (al 16) (al 17) (al 18) (fi 1) na nr) 0 0)).1) (va_up al 20 (ac_brg (al 16) (ac_whole (ai 5) (fi 1) na (nI (ac_kr (ac_bn (ai 5) (ai 14) (ai 9) (al 15) (al 16) (al 17) (al 18) (fi 1) na nr) 10 (ai 19) 0 0 ((ac_bn (ai 5) (ai 14) (ai 9) (al 15) (al 16) (al 17) (al 18) (fi 1) na nr) 0 0)).2.2)) (al 20) 12))) H := hP
      have hD : va_D A (ac_w ad cI cL (upd (upd (upd fi 5 (nI (ac_kr (ac_bn (ai 5) (ai 14) (ai 9) (al 15) (al 16) (al 17) (al 18) (fi 1) na nr) 10 (ai 19) 0 0 ((ac_bn (ai 5) (ai 14) (ai 9) (al 15) (al 16) (al 17) (al 18) (fi 1) na nr) 0 0)).2.1)) 6 (nI (ac_kr (ac_bn (ai 5) (ai 14) (ai 9) (al 15) (al 16) (al 17) (al 18) (fi 1) na nr) 10 (ai 19) 0 0 ((ac_bn (ai 5) (ai 14) (ai 9) (al 15) (al 16) (al 17) (al 18) (fi 1) na nr) 0 0)).2.2)) 7 (ac_freed (ai 5) (nI (ac_kr (ac_bn (ai 5) (ai 14) (ai 9) (al 15) (al 16) (al 17) (al 18) (fi 1) na nr) 10 (ai 19) 0 0 ((ac_bn (ai 5) (ai 14) (ai 9) (al 15) (al 16) (al 17) (al 18) (fi 1) na nr) 0 0)).2.2) na)) fl (va_up ai 19 (ac_kr (ac_bn (ai 5) (ai 14) (ai 9) (al 15) (al 16) (al 17) (al 18) (fi 1) na nr) 10 (ai 19) 0 0 ((ac_bn (ai 5) (ai 14) (ai 9) (al 15) (al 16) (al 17) (al 18) (fi 1) na nr) 0 0)).1) (va_up al 20 (ac_brg (al 16) (ac_whole (ai 5) (fi 1) na (nI (ac_kr (ac_bn (ai 5) (ai 14) (ai 9) (al 15) (al 16) (al 17) (al 18) (fi 1) na nr) 10 (ai 19) 0 0 ((ac_bn (ai 5) (ai 14) (ai 9) (al 15) (al 16) (al 17) (al 18) (fi 1) na nr) 0 0)).2.2)) (al 20) 12))) := am_D hD rfl
      refine lv_aload_n hx hb dX3_keepRow_81 rfl (lv_at hl 0 rfl) ?_
      refine lv_iconst (v := 1) hx hb dX3_keepRow_82 (by decide) ?_
      refine va_put (D := D) (ci := 3) (v := .int 1) (ty := .boolean) (C := RX3) (T := TX3) (N := 8) hx hb hts hin_X3 tyX3 tyX3_ok nmX3 hown hK hP hD hS 3 rfl rfl 0 (by decide) hf_36 (fun _ h9 => h9) rfl (by decide +kernel) rfl rfl (Nat.le_of_ble_eq_true rfl) dX3_keepRow_83 (fun H locs hP hD hS => ?_)
      have hP : va_P D vwCl (ac_w ad cI cL (upd (upd (upd (upd fi 3 1) 5 (nI (ac_kr (ac_bn (ai 5) (ai 14) (ai 9) (al 15) (al 16) (al 17) (al 18) (fi 1) na nr) 10 (ai 19) 0 0 ((ac_bn (ai 5) (ai 14) (ai 9) (al 15) (al 16) (al 17) (al 18) (fi 1) na nr) 0 0)).2.1)) 6 (nI (ac_kr (ac_bn (ai 5) (ai 14) (ai 9) (al 15) (al 16) (al 17) (al 18) (fi 1) na nr) 10 (ai 19) 0 0 ((ac_bn (ai 5) (ai 14) (ai 9) (al 15) (al 16) (al 17) (al 18) (fi 1) na nr) 0 0)).2.2)) 7 (ac_freed (ai 5) (nI (ac_kr (ac_bn (ai 5) (ai 14) (ai 9) (al 15) (al 16) (al 17) (al 18) (fi 1) na nr) 10 (ai 19) 0 0 ((ac_bn (ai 5) (ai 14) (ai 9) (al 15) (al 16) (al 17) (al 18) (fi 1) na nr) 0 0)).2.2) na)) fl (va_up ai 19 (ac_kr (ac_bn (ai 5) (ai 14) (ai 9) (al 15) (al 16) (al 17) (al 18) (fi 1) na nr) 10 (ai 19) 0 0 ((ac_bn (ai 5) (ai 14) (ai 9) (al 15) (al 16) (al 17) (al 18) (fi 1) na nr) 0 0)).1) (va_up al 20 (ac_brg (al 16) (ac_whole (ai 5) (fi 1) na (nI (ac_kr (ac_bn (ai 5) (ai 14) (ai 9) (al 15) (al 16) (al 17) (al 18) (fi 1) na nr) 10 (ai 19) 0 0 ((ac_bn (ai 5) (ai 14) (ai 9) (al 15) (al 16) (al 17) (al 18) (fi 1) na nr) 0 0)).2.2)) (al 20) 12))) H := hP
      have hD : va_D A (ac_w ad cI cL (upd (upd (upd (upd fi 3 1) 5 (nI (ac_kr (ac_bn (ai 5) (ai 14) (ai 9) (al 15) (al 16) (al 17) (al 18) (fi 1) na nr) 10 (ai 19) 0 0 ((ac_bn (ai 5) (ai 14) (ai 9) (al 15) (al 16) (al 17) (al 18) (fi 1) na nr) 0 0)).2.1)) 6 (nI (ac_kr (ac_bn (ai 5) (ai 14) (ai 9) (al 15) (al 16) (al 17) (al 18) (fi 1) na nr) 10 (ai 19) 0 0 ((ac_bn (ai 5) (ai 14) (ai 9) (al 15) (al 16) (al 17) (al 18) (fi 1) na nr) 0 0)).2.2)) 7 (ac_freed (ai 5) (nI (ac_kr (ac_bn (ai 5) (ai 14) (ai 9) (al 15) (al 16) (al 17) (al 18) (fi 1) na nr) 10 (ai 19) 0 0 ((ac_bn (ai 5) (ai 14) (ai 9) (al 15) (al 16) (al 17) (al 18) (fi 1) na nr) 0 0)).2.2) na)) fl (va_up ai 19 (ac_kr (ac_bn (ai 5) (ai 14) (ai 9) (al 15) (al 16) (al 17) (al 18) (fi 1) na nr) 10 (ai 19) 0 0 ((ac_bn (ai 5) (ai 14) (ai 9) (al 15) (al 16) (al 17) (al 18) (fi 1) na nr) 0 0)).1) (va_up al 20 (ac_brg (al 16) (ac_whole (ai 5) (fi 1) na (nI (ac_kr (ac_bn (ai 5) (ai 14) (ai 9) (al 15) (al 16) (al 17) (al 18) (fi 1) na nr) 10 (ai 19) 0 0 ((ac_bn (ai 5) (ai 14) (ai 9) (al 15) (al 16) (al 17) (al 18) (fi 1) na nr) 0 0)).2.2)) (al 20) 12))) := am_D hD rfl
      refine lv_aload_n hx hb dX3_keepRow_86 rfl (lv_at hl 0 rfl) ?_
      refine lv_iconst (v := 1) hx hb dX3_keepRow_87 (by decide) ?_
      refine va_put (D := D) (ci := 3) (v := .int 1) (ty := .boolean) (C := RX3) (T := TX3) (N := 8) hx hb hts hin_X3 tyX3 tyX3_ok nmX3 hown hK hP hD hS 3 rfl rfl 1 (by decide) hf_40 (fun _ h9 => h9) rfl (by decide +kernel) rfl rfl (Nat.le_of_ble_eq_true rfl) dX3_keepRow_88 (fun H locs hP hD hS => ?_)
      have hP : va_P D vwCl (ac_w ad cI cL (upd (upd (upd (upd (upd fi 3 1) 4 1) 5 (nI (ac_kr (ac_bn (ai 5) (ai 14) (ai 9) (al 15) (al 16) (al 17) (al 18) (fi 1) na nr) 10 (ai 19) 0 0 ((ac_bn (ai 5) (ai 14) (ai 9) (al 15) (al 16) (al 17) (al 18) (fi 1) na nr) 0 0)).2.1)) 6 (nI (ac_kr (ac_bn (ai 5) (ai 14) (ai 9) (al 15) (al 16) (al 17) (al 18) (fi 1) na nr) 10 (ai 19) 0 0 ((ac_bn (ai 5) (ai 14) (ai 9) (al 15) (al 16) (al 17) (al 18) (fi 1) na nr) 0 0)).2.2)) 7 (ac_freed (ai 5) (nI (ac_kr (ac_bn (ai 5) (ai 14) (ai 9) (al 15) (al 16) (al 17) (al 18) (fi 1) na nr) 10 (ai 19) 0 0 ((ac_bn (ai 5) (ai 14) (ai 9) (al 15) (al 16) (al 17) (al 18) (fi 1) na nr) 0 0)).2.2) na)) fl (va_up ai 19 (ac_kr (ac_bn (ai 5) (ai 14) (ai 9) (al 15) (al 16) (al 17) (al 18) (fi 1) na nr) 10 (ai 19) 0 0 ((ac_bn (ai 5) (ai 14) (ai 9) (al 15) (al 16) (al 17) (al 18) (fi 1) na nr) 0 0)).1) (va_up al 20 (ac_brg (al 16) (ac_whole (ai 5) (fi 1) na (nI (ac_kr (ac_bn (ai 5) (ai 14) (ai 9) (al 15) (al 16) (al 17) (al 18) (fi 1) na nr) 10 (ai 19) 0 0 ((ac_bn (ai 5) (ai 14) (ai 9) (al 15) (al 16) (al 17) (al 18) (fi 1) na nr) 0 0)).2.2)) (al 20) 12))) H := hP
      have hD : va_D A (ac_w ad cI cL (upd (upd (upd (upd (upd fi 3 1) 4 1) 5 (nI (ac_kr (ac_bn (ai 5) (ai 14) (ai 9) (al 15) (al 16) (al 17) (al 18) (fi 1) na nr) 10 (ai 19) 0 0 ((ac_bn (ai 5) (ai 14) (ai 9) (al 15) (al 16) (al 17) (al 18) (fi 1) na nr) 0 0)).2.1)) 6 (nI (ac_kr (ac_bn (ai 5) (ai 14) (ai 9) (al 15) (al 16) (al 17) (al 18) (fi 1) na nr) 10 (ai 19) 0 0 ((ac_bn (ai 5) (ai 14) (ai 9) (al 15) (al 16) (al 17) (al 18) (fi 1) na nr) 0 0)).2.2)) 7 (ac_freed (ai 5) (nI (ac_kr (ac_bn (ai 5) (ai 14) (ai 9) (al 15) (al 16) (al 17) (al 18) (fi 1) na nr) 10 (ai 19) 0 0 ((ac_bn (ai 5) (ai 14) (ai 9) (al 15) (al 16) (al 17) (al 18) (fi 1) na nr) 0 0)).2.2) na)) fl (va_up ai 19 (ac_kr (ac_bn (ai 5) (ai 14) (ai 9) (al 15) (al 16) (al 17) (al 18) (fi 1) na nr) 10 (ai 19) 0 0 ((ac_bn (ai 5) (ai 14) (ai 9) (al 15) (al 16) (al 17) (al 18) (fi 1) na nr) 0 0)).1) (va_up al 20 (ac_brg (al 16) (ac_whole (ai 5) (fi 1) na (nI (ac_kr (ac_bn (ai 5) (ai 14) (ai 9) (al 15) (al 16) (al 17) (al 18) (fi 1) na nr) 10 (ai 19) 0 0 ((ac_bn (ai 5) (ai 14) (ai 9) (al 15) (al 16) (al 17) (al 18) (fi 1) na nr) 0 0)).2.2)) (al 20) 12))) := am_D hD rfl
      exact am_vretM hx hb hr hlocks hP hS dX3_keepRow_91
    · skip
      have hl9 : ln < 10 := Nat.lt_of_not_le (fun z => c_28 (by rw [show (10 : Int32) = nI 10 from rfl, nI_leI (by omega) (by omega)]; exact z))
      refine lv_aload_n hx hb dX3_keepRow_31 rfl (lv_at hl 0 rfl) ?_
      refine va_get (D := D) (ci := 3) (v := .ref (ad 19)) (C := RX3) (T := TX3) (N := 8) hx hb hts hin_X3 hown hK hP 3 rfl rfl 6 (by decide) hf_9 (fun _ h9 => h9) rfl dX3_keepRow_32 ?_
      refine lv_aload_n hx hb dX3_keepRow_35 rfl (lv_at hl 0 rfl) ?_
      refine va_get (D := D) (ci := 3) (v := .int (nI ln)) (C := RX3) (T := TX3) (N := 8) hx hb hts hin_X3 hown hK hP 3 rfl rfl 2 (by decide) hf_19 (fun _ h9 => h9) rfl dX3_keepRow_36 ?_
      refine lv_iload_n hx hb dX3_keepRow_39 rfl (lv_at hl 2 rfl) ?_
      refine am_iast hx hb hK hP hD hS 19 0 rfl rfl ln rfl (by omega) (by decide) (ac_w ad cI cL (upd (upd fi 5 (nI ln)) 6 (nI sn)) fl (va_up ai 19 (upd rw9 ln (nI a))) al) rfl dX3_keepRow_40 (fun H locs hP hD hS => ?_)
      refine lv_aload_n hx hb dX3_keepRow_41 rfl (lv_at hl 0 rfl) ?_
      refine lv_dup hx hb dX3_keepRow_42 rfl ?_
      refine va_get (D := D) (ci := 3) (v := .int (nI ln)) (C := RX3) (T := TX3) (N := 8) hx hb hts hin_X3 hown hK hP 3 rfl rfl 2 (by decide) hf_19 (fun _ h9 => h9) rfl dX3_keepRow_43 ?_
      refine lv_iconst (v := 1) hx hb dX3_keepRow_46 (by decide) ?_
      refine lv_iadd hx hb dX3_keepRow_47 ?_
      refine am_topi (nI_1 ln) ?_
      refine va_put (D := D) (ci := 3) (v := .int (nI (ln + 1))) (ty := .int) (C := RX3) (T := TX3) (N := 8) hx hb hts hin_X3 tyX3 tyX3_ok nmX3 hown hK hP hD hS 3 rfl rfl 2 (by decide) hf_19 (fun _ h9 => h9) rfl (by decide +kernel) rfl rfl (Nat.le_of_ble_eq_true rfl) dX3_keepRow_48 (fun H locs hP hD hS => ?_)
      have hP : va_P D vwCl (ac_w ad cI cL (upd (upd fi 5 (nI (ln + 1))) 6 (nI sn)) fl (va_up ai 19 (upd rw9 ln (nI a))) al) H := hP
      have hD : va_D A (ac_w ad cI cL (upd (upd fi 5 (nI (ln + 1))) 6 (nI sn)) fl (va_up ai 19 (upd rw9 ln (nI a))) al) := am_D hD rfl
      refine lv_aload_n hx hb dX3_keepRow_51 rfl (lv_at hl 0 rfl) ?_
      refine lv_dup hx hb dX3_keepRow_52 rfl ?_
      refine va_get (D := D) (ci := 3) (v := .int (nI sn)) (C := RX3) (T := TX3) (N := 8) hx hb hts hin_X3 hown hK hP 3 rfl rfl 3 (by decide) hf_23 (fun _ h9 => h9) rfl dX3_keepRow_53 ?_
      refine lv_iconst (v := 1) hx hb dX3_keepRow_56 (by decide) ?_
      refine lv_iload_n hx hb dX3_keepRow_57 rfl (lv_at hl 2 rfl) ?_
      refine lv_ishl hx hb dX3_keepRow_58 ?_
      refine lv_ior hx hb dX3_keepRow_59 ?_
      refine am_topi (by rw [am_shl1 a (by omega), am_or] : nI sn ||| ((1 : Int32) <<< (nI a &&& 31)) = nI (sn ||| 2 ^ a)) ?_
      refine va_put (D := D) (ci := 3) (v := .int (nI (sn ||| 2 ^ a))) (ty := .int) (C := RX3) (T := TX3) (N := 8) hx hb hts hin_X3 tyX3 tyX3_ok nmX3 hown hK hP hD hS 3 rfl rfl 3 (by decide) hf_23 (fun _ h9 => h9) rfl (by decide +kernel) rfl rfl (Nat.le_of_ble_eq_true rfl) dX3_keepRow_60 (fun H locs hP hD hS => ?_)
      have hP : va_P D vwCl (ac_w ad cI cL (upd (upd fi 5 (nI (ln + 1))) 6 (nI (sn ||| 2 ^ a))) fl (va_up ai 19 (upd rw9 ln (nI a))) al) H := hP
      have hD : va_D A (ac_w ad cI cL (upd (upd fi 5 (nI (ln + 1))) 6 (nI (sn ||| 2 ^ a))) fl (va_up ai 19 (upd rw9 ln (nI a))) al) := am_D hD rfl
      refine lv_aload_n hx hb dX3_keepRow_63 rfl (lv_at hl 1 rfl) ?_
      refine lv_aload_n hx hb dX3_keepRow_64 rfl (lv_at hl 0 rfl) ?_
      refine va_get (D := D) (ci := 3) (v := .int (nI (sn ||| 2 ^ a))) (C := RX3) (T := TX3) (N := 8) hx hb hts hin_X3 hown hK hP 3 rfl rfl 3 (by decide) hf_23 (fun _ h9 => h9) rfl dX3_keepRow_65 ?_
      refine lv_iload_n hx hb dX3_keepRow_68 rfl (lv_at hl 2 rfl) ?_
      refine am_callRi (W.runV (As := [.int (nI (sn ||| 2 ^ a)), .int (nI a)]) (rest := []) ⟨hx, hb, hml, hown, hts⟩ (c_X2_bestNext l D ad cI cL (upd (upd fi 5 (nI (ln + 1))) 6 (nI (sn ||| 2 ^ a))) fl (va_up ai 19 (upd rw9 ln (nI a))) al (sn ||| 2 ^ a) (a + 1) na nr hna hnl hnr hnrl (by omega) (am_or_lt hsn (by omega))) (cwV 2 hts (am_gV (am_in 342 rfl) (am_in 343 rfl) (am_in 344 rfl) (am_in 32 rfl) (am_in 345 rfl)) rfl rfl rfl (by decide +kernel) ⟨Nat.le_of_ble_eq_true rfl, Nat.le_of_ble_eq_true rfl⟩) (am_preVR 2 2 rfl rfl rfl hP hK hN) rfl rfl hl.1 rfl (lv_room (Nat.le_of_ble_eq_true rfl)) dX3_keepRow_69 ⟨Nat.zero_le _, Nat.zero_le _⟩) ?_
      refine lv_istore_n (lv' := [(2, .int (ac_la (ac_bn (ai 5) (ai 14) (ai 9) (al 15) (al 16) (al 17) (al 18) (fi 1) na nr (sn ||| 2 ^ a) (a + 1)))), (0, .ref (ad 3)), (1, .ref (ad 2))]) hx hb dX3_keepRow_72 rfl hl (by decide) rfl (fun ls hl => ?_)
      refine lv_goto (tgt := 17) hx hb dX3_keepRow_73 (by decide) ?_
      have e_17_0 : ac_la ((ac_bn (ai 5) (ai 14) (ai 9) (al 15) (al 16) (al 17) (al 18) (fi 1) na nr) (sn ||| 2 ^ a) (a + 1)) = ac_la (ac_bn (ai 5) (ai 14) (ai 9) (al 15) (al 16) (al 17) (al 18) (fi 1) na nr (sn ||| 2 ^ a) (a + 1)) := by first | rfl | (simp only [c_19, c_28, if_true, if_false, eq_self, not_true_eq_false, not_false_eq_true, ite_true, ite_false, ↓reduceIte]; done) | (simp [c_19, c_28]; done)
      refine ih_17 (upd rw9 ln (nI a), ln + 1, sn ||| 2 ^ a, (ac_bn (ai 5) (ai 14) (ai 9) (al 15) (al 16) (al 17) (al 18) (fi 1) na nr) (sn ||| 2 ^ a) (a + 1)) (10 - (ln + 1)) H locs ls (by first | omega | (dsimp only; omega)) ⟨rfl, (by first | omega | (dsimp only; omega)), (am_or_lt hsn (by omega)), (ac_bn_le _ _ _ _ _ _ _ _ _ _ _ _), (by dsimp only; rw [← hm, show 10 - ln = (10 - (ln + 1)) + 1 by omega]; rfl), ?_, hS, ?_⟩
      · (try dsimp only); (try rw [e_17_0]); exact hP
      · (try dsimp only); (try rw [e_17_0]); exact lv_sub hl [1, 2, 0] rfl
set_option maxHeartbeats 4000000 in
set_option maxRecDepth 100000 in
theorem c_X4_setLimits (l : Launch) (D : va_G) (ad : Nat → Nat) (cI cL : ClassId) (fi : Nat → Int32) (fl : Nat → Int64) (ai : Nat → Nat → Int32) (al : Nat → Nat → Int64) (A : Nat → Prop) (na : Nat) (hna : fi 0 = nI na) (hnl : na ≤ 10) : Met l yX4_setLimits wsX4_setLimits (am_rm 1 21) (va_Pc [.ref (ad 4)] (am_M nwL vwCl D A (ac_w ad cI cL fi fl ai al) [(cI, .int), (cL, .long)])) (am_Mv vwCl D (ac_w ad cI cL fi (vp_updL (vp_updL fl 1 (ac_tot (al 8) (fi 8) na + 1)) 2 (ac_least (al 8) (fi 8) (fi 9) na)) ai al) A) 0 0 A := by
  refine am_startM (cc := cX4_setLimits) (maxL := 6) (ret := none) (by decide) rfl (Nat.le_of_ble_eq_true rfl) [(0, .ref (ad 4))] rfl ?_
  intro p e s m below meth c ls hx hb hr hml hown hts hlocks hK hN hD H locs hP hS hl
  have hown : s.vm.findClass RX4 = some m.cls := hown
  have ht := am_ht hts
  have hin_X4 : ∀ w ∈ u_ws RX4 TX4 8, w ∈ wsX4_setLimits := fun w h => List.mem_cons_of_mem _ (am_inX4 w h)
  have hin_X1 : ∀ w ∈ u_ws RX1 TX1 14, w ∈ wsX4_setLimits := fun w h => List.mem_cons_of_mem _ (am_inX1 w h)
  have hf_22 := ht 155 (.fieldLink RX4 22 "ApartCost$Line" "product" "LApartCost$Product;") rfl
  have hf_32 := ht 158 (.fieldLink RX4 32 "ApartCost$Line" "set" "I") rfl
  have hf_36 := ht 159 (.fieldLink RX4 36 "ApartCost$Line" "stations" "I") rfl
  have hf_49 := ht 160 (.fieldLink RX4 49 "ApartCost$Line" "longest" "J") rfl
  have hf_53 := ht 58 (.fieldLink RX4 53 "ApartCost$Product" "acts" "I") rfl
  have hf_62 := ht 64 (.fieldLink RX4 62 "ApartCost$Product" "cents" "[J") rfl
  have hf_71 := ht 161 (.fieldLink RX4 71 "ApartCost$Line" "least" "J") rfl
  refine lv_lconst (v := 0) hx hb dX4_setLimits_0 (by decide) ?_
  refine lv_lstore_n (lv' := [(1, .long 0), (0, .ref (ad 4))]) hx hb dX4_setLimits_1 rfl hl (by decide) rfl (fun ls hl => ?_)
  refine lv_lconst (v := 0) hx hb dX4_setLimits_2 (by decide) ?_
  refine lv_lstore_n (lv' := [(3, .long 0), (1, .long 0), (0, .ref (ad 4))]) hx hb dX4_setLimits_3 rfl hl (by decide) rfl (fun ls hl => ?_)
  refine lv_iconst (v := 0) hx hb dX4_setLimits_4 (by decide) ?_
  refine lv_istore (lv' := [(5, .int 0), (3, .long 0), (1, .long 0), (0, .ref (ad 4))]) hx hb dX4_setLimits_5 hl (by decide) rfl (fun ls hl => ?_)
  refine am_loop (σ := Nat) (fun q n9 H locs ls => n9 = na - q ∧ q ≤ na ∧ va_P D vwCl (ac_w ad cI cL fi fl ai al) H ∧ va_S A s.heap H locs ∧ lv_has ls 6 [(0, .ref (ad 4)), (1, .long (ac_tot (al 8) (fi 8) q)), (3, .long (ac_dear (al 8) (fi 8) q)), (5, .int (nI q))]) ?_ 0 (na - 0) H locs ls ⟨rfl, (by omega), hP, hS, lv_sub hl [3, 2, 1, 0] rfl⟩
  rintro k n9 H locs ls ⟨hn_7, hk, hP, hS, hl⟩ ih_7
  have hD : va_D A (ac_w ad cI cL fi fl ai al) := am_D hD rfl
  refine lv_iload hx hb dX4_setLimits_7 (lv_at hl 3 rfl) ?_
  refine lv_aload_n hx hb dX4_setLimits_9 rfl (lv_at hl 0 rfl) ?_
  refine va_get (D := D) (ci := 4) (v := .ref (ad 1)) (C := RX4) (T := TX4) (N := 8) hx hb hts hin_X4 hown hK hP 4 rfl rfl 1 (by decide) hf_22 (fun _ h9 => h9) rfl dX4_setLimits_10 ?_
  refine va_get (D := D) (ci := 1) (v := .int (fi 0)) (C := RX1) (T := TX1) (N := 14) hx hb hts hin_X1 hown hK hP 1 rfl rfl 0 (by decide) hf_53 (fun _ h9 => h9) rfl dX4_setLimits_13 ?_
  refine lv_icmp_ge (tgt := 65) hx hb dX4_setLimits_16 (by decide) (fun c_16 => ?_) (fun c_16 => ?_)
  · skip
    have hke_16 : na ≤ k := (am_ge hna (by omega) (by omega)).mp c_16
    have hkq_16 : na = k := by omega
    subst hkq_16
    refine lv_aload_n hx hb dX4_setLimits_65 rfl (lv_at hl 0 rfl) ?_
    refine lv_lload_n hx hb dX4_setLimits_66 rfl (lv_at hl 1 rfl) ?_
    refine lv_lconst (v := 1) hx hb dX4_setLimits_67 (by decide) ?_
    refine lv_ladd hx hb dX4_setLimits_68 ?_
    refine va_put (D := D) (ci := 4) (v := .long ((ac_tot (al 8) (fi 8) na) + 1)) (ty := .long) (C := RX4) (T := TX4) (N := 8) hx hb hts hin_X4 tyX4 tyX4_ok nmX4 hown hK hP hD hS 4 rfl rfl 6 (by decide) hf_49 (fun _ h9 => h9) rfl (by decide +kernel) rfl rfl (Nat.le_of_ble_eq_true rfl) dX4_setLimits_69 (fun H locs hP hD hS => ?_)
    have hP : va_P D vwCl (ac_w ad cI cL fi (vp_updL fl 1 ((ac_tot (al 8) (fi 8) na) + 1)) ai al) H := hP
    have hD : va_D A (ac_w ad cI cL fi (vp_updL fl 1 ((ac_tot (al 8) (fi 8) na) + 1)) ai al) := am_D hD rfl
    refine lv_aload_n hx hb dX4_setLimits_72 rfl (lv_at hl 0 rfl) ?_
    refine lv_aload_n hx hb dX4_setLimits_73 rfl (lv_at hl 0 rfl) ?_
    refine va_get (D := D) (ci := 4) (v := .int (fi 9)) (C := RX4) (T := TX4) (N := 8) hx hb hts hin_X4 hown hK hP 4 rfl rfl 5 (by decide) hf_36 (fun _ h9 => h9) rfl dX4_setLimits_74 ?_
    refine lv_if_le (tgt := 102) hx hb dX4_setLimits_77 (by decide) (fun c_77 => ?_) (fun c_77 => ?_)
    · skip
      refine lv_lload_n hx hb dX4_setLimits_102 rfl (lv_at hl 1 rfl) ?_
      refine va_put (D := D) (ci := 4) (v := .long (ac_tot (al 8) (fi 8) na)) (ty := .long) (C := RX4) (T := TX4) (N := 8) hx hb hts hin_X4 tyX4 tyX4_ok nmX4 hown hK hP hD hS 4 rfl rfl 7 (by decide) hf_71 (fun _ h9 => h9) rfl (by decide +kernel) rfl rfl (Nat.le_of_ble_eq_true rfl) dX4_setLimits_103 (fun H locs hP hD hS => ?_)
      have hP : va_P D vwCl (ac_w ad cI cL fi (vp_updL (vp_updL fl 1 ((ac_tot (al 8) (fi 8) na) + 1)) 2 (ac_tot (al 8) (fi 8) na)) ai al) H := hP
      have hD : va_D A (ac_w ad cI cL fi (vp_updL (vp_updL fl 1 ((ac_tot (al 8) (fi 8) na) + 1)) 2 (ac_tot (al 8) (fi 8) na)) ai al) := am_D hD rfl
      exact am_vretM hx hb hr hlocks (by simp only [ac_least, if_pos c_77]; exact hP) hS dX4_setLimits_106
    · skip
      refine lv_lload_n hx hb dX4_setLimits_80 rfl (lv_at hl 2 rfl) ?_
      refine lv_lload_n hx hb dX4_setLimits_81 rfl (lv_at hl 1 rfl) ?_
      refine lv_aload_n hx hb dX4_setLimits_82 rfl (lv_at hl 0 rfl) ?_
      refine va_get (D := D) (ci := 4) (v := .int (fi 9)) (C := RX4) (T := TX4) (N := 8) hx hb hts hin_X4 hown hK hP 4 rfl rfl 5 (by decide) hf_36 (fun _ h9 => h9) rfl dX4_setLimits_83 ?_
      refine lv_i2l (v := (fi 9).toInt64) hx hb dX4_setLimits_86 rfl ?_
      refine lv_ladd hx hb dX4_setLimits_87 ?_
      refine lv_lconst (v := 1) hx hb dX4_setLimits_88 (by decide) ?_
      refine lv_lsub hx hb dX4_setLimits_89 ?_
      refine lv_aload_n hx hb dX4_setLimits_90 rfl (lv_at hl 0 rfl) ?_
      refine va_get (D := D) (ci := 4) (v := .int (fi 9)) (C := RX4) (T := TX4) (N := 8) hx hb hts hin_X4 hown hK hP 4 rfl rfl 5 (by decide) hf_36 (fun _ h9 => h9) rfl dX4_setLimits_91 ?_
      refine lv_i2l (v := (fi 9).toInt64) hx hb dX4_setLimits_94 rfl ?_
      refine lv_ldiv hx hb dX4_setLimits_95 (am_ne0 c_77) ?_
      refine va_mmax_long hx hb (hml.trans hl.1.symm) hown (ht 400 _ rfl) (ht 336 _ rfl) (ht 37 _ rfl) (ht 337 _ rfl) (Nat.le_of_ble_eq_true rfl) (Nat.le_of_ble_eq_true rfl) (Nat.zero_le _) (Nat.zero_le _) dX4_setLimits_96 ?_
      refine am_topl (y := ac_max (ac_dear (al 8) (fi 8) na) ((((ac_tot (al 8) (fi 8) na) + ((fi 9).toInt64)) - 1) / ((fi 9).toInt64))) rfl ?_
      refine lv_goto (tgt := 103) hx hb dX4_setLimits_99 (by decide) ?_
      refine va_put (D := D) (ci := 4) (v := .long (ac_max (ac_dear (al 8) (fi 8) na) ((((ac_tot (al 8) (fi 8) na) + ((fi 9).toInt64)) - 1) / ((fi 9).toInt64)))) (ty := .long) (C := RX4) (T := TX4) (N := 8) hx hb hts hin_X4 tyX4 tyX4_ok nmX4 hown hK hP hD hS 4 rfl rfl 7 (by decide) hf_71 (fun _ h9 => h9) rfl (by decide +kernel) rfl rfl (Nat.le_of_ble_eq_true rfl) dX4_setLimits_103 (fun H locs hP hD hS => ?_)
      have hP : va_P D vwCl (ac_w ad cI cL fi (vp_updL (vp_updL fl 1 ((ac_tot (al 8) (fi 8) na) + 1)) 2 (ac_max (ac_dear (al 8) (fi 8) na) ((((ac_tot (al 8) (fi 8) na) + ((fi 9).toInt64)) - 1) / ((fi 9).toInt64)))) ai al) H := hP
      have hD : va_D A (ac_w ad cI cL fi (vp_updL (vp_updL fl 1 ((ac_tot (al 8) (fi 8) na) + 1)) 2 (ac_max (ac_dear (al 8) (fi 8) na) ((((ac_tot (al 8) (fi 8) na) + ((fi 9).toInt64)) - 1) / ((fi 9).toInt64)))) ai al) := am_D hD rfl
      exact am_vretM hx hb hr hlocks (by simp only [ac_least, if_neg c_77]; exact hP) hS dX4_setLimits_106
  · skip
    have hkl_16 : k < na := Nat.lt_of_not_le (fun z => c_16 ((am_ge hna (by omega) (by omega)).mpr z))
    refine lv_aload_n hx hb dX4_setLimits_19 rfl (lv_at hl 0 rfl) ?_
    refine va_get (D := D) (ci := 4) (v := .int (fi 8)) (C := RX4) (T := TX4) (N := 8) hx hb hts hin_X4 hown hK hP 4 rfl rfl 4 (by decide) hf_32 (fun _ h9 => h9) rfl dX4_setLimits_20 ?_
    refine lv_iload hx hb dX4_setLimits_23 (lv_at hl 3 rfl) ?_
    refine am_callRi (va_Run.run (va_runSN (As := [.int (fi 8), .int (nI k)]) (rest := []) ⟨hx, hb, hml, hown, hts⟩ (c_X0_has l D _ _ (fi 8) (nI k)) ⟨va_cnB 2 hts (am_gN (am_in 206 rfl)) rfl rfl rfl (am_nw_at hN 4 rfl) (ht 29 _ rfl) (by decide +kernel) ⟨Nat.le_of_ble_eq_true rfl, Nat.le_of_ble_eq_true rfl⟩, (ht 205 _ rfl), trivial⟩ (am_preSR hP hK hN) rfl rfl hl.1 rfl (lv_room (Nat.le_of_ble_eq_true rfl)) dX4_setLimits_25 ⟨Nat.zero_le _, Nat.zero_le _⟩)) ?_
    refine lv_if_eq (tgt := 59) hx hb dX4_setLimits_28 (by decide) (fun c_28 => ?_) (fun c_28 => ?_)
    · skip
      refine lv_iinc (v := nI (k + 1)) (lv' := [(5, .int (nI (k + 1))), (0, .ref (ad 4)), (1, .long (ac_tot (al 8) (fi 8) k)), (3, .long (ac_dear (al 8) (fi 8) k))]) hx hb dX4_setLimits_59 hl (k := 3) rfl (nI_1 k) (by decide) rfl (fun ls hl => ?_)
      refine lv_goto (tgt := 7) hx hb dX4_setLimits_62 (by decide) ?_
      have e_7_0 : ac_tot (al 8) (fi 8) (k + 1) = ac_tot (al 8) (fi 8) k := by first | rfl | (simp only [ac_tot, ac_dear, c_16, c_28, if_true, if_false, eq_self, not_true_eq_false, not_false_eq_true, ite_true, ite_false, ↓reduceIte]; done) | (simp [ac_tot, ac_dear, c_16, c_28]; done)
      have e_7_1 : ac_dear (al 8) (fi 8) (k + 1) = ac_dear (al 8) (fi 8) k := by first | rfl | (simp only [ac_tot, ac_dear, c_16, c_28, if_true, if_false, eq_self, not_true_eq_false, not_false_eq_true, ite_true, ite_false, ↓reduceIte]; done) | (simp [ac_tot, ac_dear, c_16, c_28]; done)
      refine ih_7 (k + 1) (na - (k + 1)) H locs ls (by omega) ⟨rfl, (by omega), ?_, hS, ?_⟩
      · (try dsimp only); (try rw [e_7_0] ; try rw [e_7_1]); exact hP
      · (try dsimp only); (try rw [e_7_0] ; try rw [e_7_1]); exact lv_sub hl [1, 2, 3, 0] rfl
    · skip
      refine lv_lload_n hx hb dX4_setLimits_31 rfl (lv_at hl 1 rfl) ?_
      refine lv_aload_n hx hb dX4_setLimits_32 rfl (lv_at hl 0 rfl) ?_
      refine va_get (D := D) (ci := 4) (v := .ref (ad 1)) (C := RX4) (T := TX4) (N := 8) hx hb hts hin_X4 hown hK hP 4 rfl rfl 1 (by decide) hf_22 (fun _ h9 => h9) rfl dX4_setLimits_33 ?_
      refine va_get (D := D) (ci := 1) (v := .ref (ad 8)) (C := RX1) (T := TX1) (N := 14) hx hb hts hin_X1 hown hK hP 1 rfl rfl 4 (by decide) hf_62 (fun _ h9 => h9) rfl dX4_setLimits_36 ?_
      refine lv_iload hx hb dX4_setLimits_39 (lv_at hl 3 rfl) ?_
      refine am_lald hx hb hK hP 8 1 rfl rfl k rfl (by omega) (by decide) dX4_setLimits_41 ?_
      refine lv_ladd hx hb dX4_setLimits_42 ?_
      refine lv_lstore_n (lv' := [(1, .long ((ac_tot (al 8) (fi 8) k) + ((al 8) k))), (0, .ref (ad 4)), (3, .long (ac_dear (al 8) (fi 8) k)), (5, .int (nI k))]) hx hb dX4_setLimits_43 rfl hl (by decide) rfl (fun ls hl => ?_)
      refine lv_lload_n hx hb dX4_setLimits_44 rfl (lv_at hl 2 rfl) ?_
      refine lv_aload_n hx hb dX4_setLimits_45 rfl (lv_at hl 1 rfl) ?_
      refine va_get (D := D) (ci := 4) (v := .ref (ad 1)) (C := RX4) (T := TX4) (N := 8) hx hb hts hin_X4 hown hK hP 4 rfl rfl 1 (by decide) hf_22 (fun _ h9 => h9) rfl dX4_setLimits_46 ?_
      refine va_get (D := D) (ci := 1) (v := .ref (ad 8)) (C := RX1) (T := TX1) (N := 14) hx hb hts hin_X1 hown hK hP 1 rfl rfl 4 (by decide) hf_62 (fun _ h9 => h9) rfl dX4_setLimits_49 ?_
      refine lv_iload hx hb dX4_setLimits_52 (lv_at hl 3 rfl) ?_
      refine am_lald hx hb hK hP 8 1 rfl rfl k rfl (by omega) (by decide) dX4_setLimits_54 ?_
      refine va_mmax_long hx hb (hml.trans hl.1.symm) hown (ht 400 _ rfl) (ht 336 _ rfl) (ht 37 _ rfl) (ht 337 _ rfl) (Nat.le_of_ble_eq_true rfl) (Nat.le_of_ble_eq_true rfl) (Nat.zero_le _) (Nat.zero_le _) dX4_setLimits_55 ?_
      refine am_topl (y := ac_max (ac_dear (al 8) (fi 8) k) ((al 8) k)) rfl ?_
      refine lv_lstore_n (lv' := [(3, .long (ac_max (ac_dear (al 8) (fi 8) k) ((al 8) k))), (1, .long ((ac_tot (al 8) (fi 8) k) + ((al 8) k))), (0, .ref (ad 4)), (5, .int (nI k))]) hx hb dX4_setLimits_58 rfl hl (by decide) rfl (fun ls hl => ?_)
      refine lv_iinc (v := nI (k + 1)) (lv' := [(5, .int (nI (k + 1))), (3, .long (ac_max (ac_dear (al 8) (fi 8) k) ((al 8) k))), (1, .long ((ac_tot (al 8) (fi 8) k) + ((al 8) k))), (0, .ref (ad 4))]) hx hb dX4_setLimits_59 hl (k := 3) rfl (nI_1 k) (by decide) rfl (fun ls hl => ?_)
      refine lv_goto (tgt := 7) hx hb dX4_setLimits_62 (by decide) ?_
      have e_7_0 : ac_tot (al 8) (fi 8) (k + 1) = (ac_tot (al 8) (fi 8) k) + ((al 8) k) := by first | rfl | (simp only [ac_tot, ac_dear, c_16, c_28, if_true, if_false, eq_self, not_true_eq_false, not_false_eq_true, ite_true, ite_false, ↓reduceIte]; done) | (simp [ac_tot, ac_dear, c_16, c_28]; done)
      have e_7_1 : ac_dear (al 8) (fi 8) (k + 1) = ac_max (ac_dear (al 8) (fi 8) k) ((al 8) k) := by first | rfl | (simp only [ac_tot, ac_dear, c_16, c_28, if_true, if_false, eq_self, not_true_eq_false, not_false_eq_true, ite_true, ite_false, ↓reduceIte]; done) | (simp [ac_tot, ac_dear, c_16, c_28]; done)
      refine ih_7 (k + 1) (na - (k + 1)) H locs ls (by omega) ⟨rfl, (by omega), ?_, hS, ?_⟩
      · (try dsimp only); (try rw [e_7_0] ; try rw [e_7_1]); exact hP
      · (try dsimp only); (try rw [e_7_0] ; try rw [e_7_1]); exact lv_sub hl [3, 2, 1, 0] rfl

set_option maxHeartbeats 4000000 in
set_option maxRecDepth 100000 in
theorem c_X4_keepTrial (l : Launch) (D : va_G) (ad : Nat → Nat) (cI cL : ClassId) (fi : Nat → Int32) (fl : Nat → Int64) (ai : Nat → Nat → Int32) (al : Nat → Nat → Int64) (A : Nat → Prop) (z : Int64) (na : Nat) (hna : fi 0 = nI na) (hnl : na ≤ 10) : Met l yX4_keepTrial wsX4_keepTrial (am_rm 1 21) (va_Pc [.ref (ad 4), .long z] (am_M nwL vwCl D A (ac_w ad cI cL fi fl ai al) [(cI, .int), (cL, .long)])) (am_Mv vwCl D (ac_w ad cI cL fi (vp_updL fl 1 z) (va_up ai 21 (ac_keep (fi 8) (ai 22) (ai 21) na)) al) A) 0 0 A := by
  refine am_startM (cc := cX4_keepTrial) (maxL := 4) (ret := none) (by decide) rfl (Nat.le_of_ble_eq_true rfl) [(0, .ref (ad 4)), (1, .long z)] rfl ?_
  intro p e s m below meth c ls hx hb hr hml hown hts hlocks hK hN hD H locs hP hS hl
  have hown : s.vm.findClass RX4 = some m.cls := hown
  have ht := am_ht hts
  have hin_X4 : ∀ w ∈ u_ws RX4 TX4 8, w ∈ wsX4_keepTrial := fun w h => List.mem_cons_of_mem _ (am_inX4 w h)
  have hin_X1 : ∀ w ∈ u_ws RX1 TX1 14, w ∈ wsX4_keepTrial := fun w h => List.mem_cons_of_mem _ (am_inX1 w h)
  have hf_15 := ht 156 (.fieldLink RX4 15 "ApartCost$Line" "trial" "[I") rfl
  have hf_22 := ht 155 (.fieldLink RX4 22 "ApartCost$Line" "product" "LApartCost$Product;") rfl
  have hf_32 := ht 158 (.fieldLink RX4 32 "ApartCost$Line" "set" "I") rfl
  have hf_49 := ht 160 (.fieldLink RX4 49 "ApartCost$Line" "longest" "J") rfl
  have hf_53 := ht 58 (.fieldLink RX4 53 "ApartCost$Product" "acts" "I") rfl
  have hf_9 := ht 153 (.fieldLink RX4 9 "ApartCost$Line" "told" "[I") rfl
  refine lv_aload_n hx hb dX4_keepTrial_0 rfl (lv_at hl 0 rfl) ?_
  refine lv_lload_n hx hb dX4_keepTrial_1 rfl (lv_at hl 1 rfl) ?_
  refine va_put (D := D) (ci := 4) (v := .long z) (ty := .long) (C := RX4) (T := TX4) (N := 8) hx hb hts hin_X4 tyX4 tyX4_ok nmX4 hown hK hP hD hS 4 rfl rfl 6 (by decide) hf_49 (fun _ h9 => h9) rfl (by decide +kernel) rfl rfl (Nat.le_of_ble_eq_true rfl) dX4_keepTrial_2 (fun H locs hP hD hS => ?_)
  have hP : va_P D vwCl (ac_w ad cI cL fi (vp_updL fl 1 z) ai al) H := hP
  have hD : va_D A (ac_w ad cI cL fi (vp_updL fl 1 z) ai al) := am_D hD rfl
  refine lv_iconst (v := 0) hx hb dX4_keepTrial_5 (by decide) ?_
  refine lv_istore_n (lv' := [(3, .int 0), (0, .ref (ad 4)), (1, .long z)]) hx hb dX4_keepTrial_6 rfl hl (by decide) rfl (fun ls hl => ?_)
  refine am_loop (σ := Nat) (fun q n9 H locs ls => n9 = na - q ∧ q ≤ na ∧ va_P D vwCl (ac_w ad cI cL fi (vp_updL fl 1 z) (va_up ai 21 (ac_keep (fi 8) (ai 22) (ai 21) q)) al) H ∧ va_S A s.heap H locs ∧ lv_has ls 4 [(0, .ref (ad 4)), (1, .long z), (3, .int (nI q))]) ?_ 0 (na - 0) H locs ls ⟨rfl, (by omega), hP, hS, lv_sub hl [1, 2, 0] rfl⟩
  rintro k n9 H locs ls ⟨hn_7, hk, hP, hS, hl⟩ ih_7
  have hD : va_D A (ac_w ad cI cL fi (vp_updL fl 1 z) (va_up ai 21 (ac_keep (fi 8) (ai 22) (ai 21) k)) al) := am_D hD rfl
  refine lv_iload_n hx hb dX4_keepTrial_7 rfl (lv_at hl 2 rfl) ?_
  refine lv_aload_n hx hb dX4_keepTrial_8 rfl (lv_at hl 0 rfl) ?_
  refine va_get (D := D) (ci := 4) (v := .ref (ad 1)) (C := RX4) (T := TX4) (N := 8) hx hb hts hin_X4 hown hK hP 4 rfl rfl 1 (by decide) hf_22 (fun _ h9 => h9) rfl dX4_keepTrial_9 ?_
  refine va_get (D := D) (ci := 1) (v := .int (fi 0)) (C := RX1) (T := TX1) (N := 14) hx hb hts hin_X1 hown hK hP 1 rfl rfl 0 (by decide) hf_53 (fun _ h9 => h9) rfl dX4_keepTrial_12 ?_
  refine lv_icmp_ge (tgt := 51) hx hb dX4_keepTrial_15 (by decide) (fun c_15 => ?_) (fun c_15 => ?_)
  · skip
    have hke_15 : na ≤ k := (am_ge hna (by omega) (by omega)).mp c_15
    have hkq_15 : na = k := by omega
    subst hkq_15
    exact am_vretM hx hb hr hlocks hP hS dX4_keepTrial_51
  · skip
    have hkl_15 : k < na := Nat.lt_of_not_le (fun z => c_15 ((am_ge hna (by omega) (by omega)).mpr z))
    refine lv_aload_n hx hb dX4_keepTrial_18 rfl (lv_at hl 0 rfl) ?_
    refine va_get (D := D) (ci := 4) (v := .ref (ad 21)) (C := RX4) (T := TX4) (N := 8) hx hb hts hin_X4 hown hK hP 4 rfl rfl 0 (by decide) hf_9 (fun _ h9 => h9) rfl dX4_keepTrial_19 ?_
    refine lv_iload_n hx hb dX4_keepTrial_22 rfl (lv_at hl 2 rfl) ?_
    refine lv_aload_n hx hb dX4_keepTrial_23 rfl (lv_at hl 0 rfl) ?_
    refine va_get (D := D) (ci := 4) (v := .int (fi 8)) (C := RX4) (T := TX4) (N := 8) hx hb hts hin_X4 hown hK hP 4 rfl rfl 4 (by decide) hf_32 (fun _ h9 => h9) rfl dX4_keepTrial_24 ?_
    refine lv_iload_n hx hb dX4_keepTrial_27 rfl (lv_at hl 2 rfl) ?_
    refine am_callRi (va_Run.run (va_runSN (As := [.int (fi 8), .int (nI k)]) (rest := [.int (nI k), .ref (ad 21)]) ⟨hx, hb, hml, hown, hts⟩ (c_X0_has l D _ _ (fi 8) (nI k)) ⟨va_cnB 2 hts (am_gN (am_in 206 rfl)) rfl rfl rfl (am_nw_at hN 4 rfl) (ht 29 _ rfl) (by decide +kernel) ⟨Nat.le_of_ble_eq_true rfl, Nat.le_of_ble_eq_true rfl⟩, (ht 205 _ rfl), trivial⟩ (am_preSR hP hK hN) rfl rfl hl.1 rfl (lv_room (Nat.le_of_ble_eq_true rfl)) dX4_keepTrial_28 ⟨Nat.zero_le _, Nat.zero_le _⟩)) ?_
    refine lv_if_eq (tgt := 43) hx hb dX4_keepTrial_31 (by decide) (fun c_31 => ?_) (fun c_31 => ?_)
    · skip
      refine lv_iconst (v := (-1)) hx hb dX4_keepTrial_43 (by decide) ?_
      refine am_iast hx hb hK hP hD hS 21 0 rfl rfl k rfl (by omega) (by decide) (ac_w ad cI cL fi (vp_updL fl 1 z) (va_up ai 21 (upd (ac_keep (fi 8) (ai 22) (ai 21) k) k (-1))) al) rfl dX4_keepTrial_44 (fun H locs hP hD hS => ?_)
      refine lv_iinc (v := nI (k + 1)) (lv' := [(3, .int (nI (k + 1))), (0, .ref (ad 4)), (1, .long z)]) hx hb dX4_keepTrial_45 hl (k := 2) rfl (nI_1 k) (by decide) rfl (fun ls hl => ?_)
      refine lv_goto (tgt := 7) hx hb dX4_keepTrial_48 (by decide) ?_
      have e_7_0 : (ac_keep (fi 8) (ai 22) (ai 21) (k + 1)) = (upd (ac_keep (fi 8) (ai 22) (ai 21) k) k (-1)) := by first | rfl | (simp only [ac_keep, c_15, c_31, if_true, if_false, eq_self, not_true_eq_false, not_false_eq_true, ite_true, ite_false, ↓reduceIte]; done) | (simp [ac_keep, c_15, c_31]; done)
      refine ih_7 (k + 1) (na - (k + 1)) H locs ls (by omega) ⟨rfl, (by omega), ?_, hS, ?_⟩
      · (try dsimp only); (try rw [e_7_0]); exact hP
      · (try dsimp only); (try rw [e_7_0]); exact lv_sub hl [1, 2, 0] rfl
    · skip
      refine lv_aload_n hx hb dX4_keepTrial_34 rfl (lv_at hl 0 rfl) ?_
      refine va_get (D := D) (ci := 4) (v := .ref (ad 22)) (C := RX4) (T := TX4) (N := 8) hx hb hts hin_X4 hown hK hP 4 rfl rfl 2 (by decide) hf_15 (fun _ h9 => h9) rfl dX4_keepTrial_35 ?_
      refine lv_iload_n hx hb dX4_keepTrial_38 rfl (lv_at hl 2 rfl) ?_
      refine am_iald hx hb hK hP 22 0 rfl rfl k rfl (by omega) (by decide) dX4_keepTrial_39 ?_
      refine lv_goto (tgt := 44) hx hb dX4_keepTrial_40 (by decide) ?_
      refine am_iast hx hb hK hP hD hS 21 0 rfl rfl k rfl (by omega) (by decide) (ac_w ad cI cL fi (vp_updL fl 1 z) (va_up ai 21 (upd (ac_keep (fi 8) (ai 22) (ai 21) k) k ((ai 22) k))) al) rfl dX4_keepTrial_44 (fun H locs hP hD hS => ?_)
      refine lv_iinc (v := nI (k + 1)) (lv' := [(3, .int (nI (k + 1))), (0, .ref (ad 4)), (1, .long z)]) hx hb dX4_keepTrial_45 hl (k := 2) rfl (nI_1 k) (by decide) rfl (fun ls hl => ?_)
      refine lv_goto (tgt := 7) hx hb dX4_keepTrial_48 (by decide) ?_
      have e_7_0 : (ac_keep (fi 8) (ai 22) (ai 21) (k + 1)) = (upd (ac_keep (fi 8) (ai 22) (ai 21) k) k ((ai 22) k)) := by first | rfl | (simp only [ac_keep, c_15, c_31, if_true, if_false, eq_self, not_true_eq_false, not_false_eq_true, ite_true, ite_false, ↓reduceIte]; done) | (simp [ac_keep, c_15, c_31]; done)
      refine ih_7 (k + 1) (na - (k + 1)) H locs ls (by omega) ⟨rfl, (by omega), ?_, hS, ?_⟩
      · (try dsimp only); (try rw [e_7_0]); exact hP
      · (try dsimp only); (try rw [e_7_0]); exact lv_sub hl [1, 2, 0] rfl

set_option maxHeartbeats 4000000 in
set_option maxRecDepth 100000 in
theorem c_X4_earliestFor (l : Launch) (D : va_G) (ad : Nat → Nat) (cI cL : ClassId) (fi : Nat → Int32) (fl : Nat → Int64) (ai : Nat → Nat → Int32) (al : Nat → Nat → Int64) (a : Nat) (ha : a < 10) : Met l yX4_earliestFor wsX4_earliestFor (am_rm 1 21) (va_Pc [.ref (ad 4), .int (nI a)] (am_R nwL vwCl D (ac_w ad cI cL fi fl ai al) [(cI, .int), (cL, .long)])) (vp_Si (fun r => r = ac_early (fi 8) ((ai 9) a) (ai 22) a)) 0 0 am_No := by
  refine am_startR (cc := cX4_earliestFor) (maxL := 4) (ret := (some .int)) (by decide) rfl (Nat.le_of_ble_eq_true rfl) [(0, .ref (ad 4)), (1, .int (nI a))] rfl ?_
  intro p e s m below meth c ls hx hb hr hml hown hts hlocks hP hK hN hl
  have hown : s.vm.findClass RX4 = some m.cls := hown
  have ht := am_ht hts
  have hin_X4 : ∀ w ∈ u_ws RX4 TX4 8, w ∈ wsX4_earliestFor := fun w h => List.mem_cons_of_mem _ (am_inX4 w h)
  have hin_X1 : ∀ w ∈ u_ws RX1 TX1 14, w ∈ wsX4_earliestFor := fun w h => List.mem_cons_of_mem _ (am_inX1 w h)
  have hf_15 := ht 156 (.fieldLink RX4 15 "ApartCost$Line" "trial" "[I") rfl
  have hf_22 := ht 155 (.fieldLink RX4 22 "ApartCost$Line" "product" "LApartCost$Product;") rfl
  have hf_32 := ht 158 (.fieldLink RX4 32 "ApartCost$Line" "set" "I") rfl
  have hf_85 := ht 67 (.fieldLink RX4 85 "ApartCost$Product" "needs" "[I") rfl
  refine lv_iconst (v := 0) hx hb dX4_earliestFor_0 (by decide) ?_
  refine lv_istore_n (lv' := [(2, .int 0), (0, .ref (ad 4)), (1, .int (nI a))]) hx hb dX4_earliestFor_1 rfl hl (by decide) rfl (fun ls hl => ?_)
  refine lv_iconst (v := 0) hx hb dX4_earliestFor_2 (by decide) ?_
  refine lv_istore_n (lv' := [(3, .int 0), (2, .int 0), (0, .ref (ad 4)), (1, .int (nI a))]) hx hb dX4_earliestFor_3 rfl hl (by decide) rfl (fun ls hl => ?_)
  refine am_loopR (σ := Nat) (fun q n9 ls => n9 = a - q ∧ q ≤ a ∧ lv_has ls 4 [(0, .ref (ad 4)), (1, .int (nI a)), (2, .int (ac_early (fi 8) ((ai 9) a) (ai 22) q)), (3, .int (nI q))]) ?_ 0 (a - 0) ls ⟨rfl, (by omega), lv_sub hl [2, 3, 1, 0] rfl⟩
  rintro k n9 ls ⟨hn_4, hk, hl⟩ ih_4
  refine lv_iload_n hx hb dX4_earliestFor_4 rfl (lv_at hl 3 rfl) ?_
  refine lv_iload_n hx hb dX4_earliestFor_5 rfl (lv_at hl 1 rfl) ?_
  refine lv_icmp_ge (tgt := 47) hx hb dX4_earliestFor_6 (by decide) (fun c_6 => ?_) (fun c_6 => ?_)
  · skip
    have hke_6 : a ≤ k := (am_ge (rfl : nI a = nI a) (by omega) (by omega)).mp c_6
    have hkq_6 : a = k := by omega
    subst hkq_6
    refine lv_iload_n hx hb dX4_earliestFor_47 rfl (lv_at hl 2 rfl) ?_
    exact am_iretR hx hb hr hlocks (by first | rfl | (simp only [c_6, if_true, if_false, eq_self, not_true_eq_false, not_false_eq_true, ite_true, ite_false, ↓reduceIte]; done) | (simp [c_6]; done)) dX4_earliestFor_48
  · skip
    have hkl_6 : k < a := Nat.lt_of_not_le (fun z => c_6 ((am_ge (rfl : nI a = nI a) (by omega) (by omega)).mpr z))
    refine lv_aload_n hx hb dX4_earliestFor_9 rfl (lv_at hl 0 rfl) ?_
    refine va_get (D := D) (ci := 4) (v := .int (fi 8)) (C := RX4) (T := TX4) (N := 8) hx hb hts hin_X4 hown hK hP 4 rfl rfl 4 (by decide) hf_32 (fun _ h9 => h9) rfl dX4_earliestFor_10 ?_
    refine lv_aload_n hx hb dX4_earliestFor_13 rfl (lv_at hl 0 rfl) ?_
    refine va_get (D := D) (ci := 4) (v := .ref (ad 1)) (C := RX4) (T := TX4) (N := 8) hx hb hts hin_X4 hown hK hP 4 rfl rfl 1 (by decide) hf_22 (fun _ h9 => h9) rfl dX4_earliestFor_14 ?_
    refine va_get (D := D) (ci := 1) (v := .ref (ad 9)) (C := RX1) (T := TX1) (N := 14) hx hb hts hin_X1 hown hK hP 1 rfl rfl 5 (by decide) hf_85 (fun _ h9 => h9) rfl dX4_earliestFor_17 ?_
    refine lv_iload_n hx hb dX4_earliestFor_20 rfl (lv_at hl 1 rfl) ?_
    refine am_iald hx hb hK hP 9 0 rfl rfl a rfl (by omega) (by decide) dX4_earliestFor_21 ?_
    refine lv_iand hx hb dX4_earliestFor_22 ?_
    refine lv_iload_n hx hb dX4_earliestFor_23 rfl (lv_at hl 3 rfl) ?_
    refine am_callRi (va_Run.run (va_runSN (As := [.int ((fi 8) &&& ((ai 9) a)), .int (nI k)]) (rest := []) ⟨hx, hb, hml, hown, hts⟩ (c_X0_has l D _ _ ((fi 8) &&& ((ai 9) a)) (nI k)) ⟨va_cnB 2 hts (am_gN (am_in 206 rfl)) rfl rfl rfl (am_nw_at hN 4 rfl) (ht 29 _ rfl) (by decide +kernel) ⟨Nat.le_of_ble_eq_true rfl, Nat.le_of_ble_eq_true rfl⟩, (ht 205 _ rfl), trivial⟩ (am_preSR hP hK hN) rfl rfl hl.1 rfl (lv_room (Nat.le_of_ble_eq_true rfl)) dX4_earliestFor_24 ⟨Nat.zero_le _, Nat.zero_le _⟩)) ?_
    refine lv_if_eq (tgt := 41) hx hb dX4_earliestFor_27 (by decide) (fun c_27 => ?_) (fun c_27 => ?_)
    · skip
      refine lv_iinc (v := nI (k + 1)) (lv' := [(3, .int (nI (k + 1))), (0, .ref (ad 4)), (1, .int (nI a)), (2, .int (ac_early (fi 8) ((ai 9) a) (ai 22) k))]) hx hb dX4_earliestFor_41 hl (k := 3) rfl (nI_1 k) (by decide) rfl (fun ls hl => ?_)
      refine lv_goto (tgt := 4) hx hb dX4_earliestFor_44 (by decide) ?_
      have e_4_0 : ac_early (fi 8) ((ai 9) a) (ai 22) (k + 1) = ac_early (fi 8) ((ai 9) a) (ai 22) k := by first | rfl | (simp only [ac_early, c_6, c_27, if_true, if_false, eq_self, not_true_eq_false, not_false_eq_true, ite_true, ite_false, ↓reduceIte]; done) | (simp [ac_early, c_6, c_27]; done)
      refine ih_4 (k + 1) (a - (k + 1)) ls (by omega) ⟨rfl, (by omega), ?_⟩
      try dsimp only
      rw [e_4_0]
      exact lv_sub hl [1, 2, 3, 0] rfl
    · skip
      refine lv_iload_n hx hb dX4_earliestFor_30 rfl (lv_at hl 2 rfl) ?_
      refine lv_aload_n hx hb dX4_earliestFor_31 rfl (lv_at hl 0 rfl) ?_
      refine va_get (D := D) (ci := 4) (v := .ref (ad 22)) (C := RX4) (T := TX4) (N := 8) hx hb hts hin_X4 hown hK hP 4 rfl rfl 2 (by decide) hf_15 (fun _ h9 => h9) rfl dX4_earliestFor_32 ?_
      refine lv_iload_n hx hb dX4_earliestFor_35 rfl (lv_at hl 3 rfl) ?_
      refine am_iald hx hb hK hP 22 0 rfl rfl k rfl (by omega) (by decide) dX4_earliestFor_36 ?_
      refine va_mmax hx hb (hml.trans hl.1.symm) hown (ht 417 _ rfl) (ht 418 _ rfl) (ht 37 _ rfl) (ht 419 _ rfl) (Nat.le_of_ble_eq_true rfl) (Nat.le_of_ble_eq_true rfl) (Nat.zero_le _) (Nat.zero_le _) dX4_earliestFor_37 ?_
      refine am_topi (y := ac_imax (ac_early (fi 8) ((ai 9) a) (ai 22) k) ((ai 22) k)) rfl ?_
      refine lv_istore_n (lv' := [(2, .int (ac_imax (ac_early (fi 8) ((ai 9) a) (ai 22) k) ((ai 22) k))), (0, .ref (ad 4)), (1, .int (nI a)), (3, .int (nI k))]) hx hb dX4_earliestFor_40 rfl hl (by decide) rfl (fun ls hl => ?_)
      refine lv_iinc (v := nI (k + 1)) (lv' := [(3, .int (nI (k + 1))), (2, .int (ac_imax (ac_early (fi 8) ((ai 9) a) (ai 22) k) ((ai 22) k))), (0, .ref (ad 4)), (1, .int (nI a))]) hx hb dX4_earliestFor_41 hl (k := 3) rfl (nI_1 k) (by decide) rfl (fun ls hl => ?_)
      refine lv_goto (tgt := 4) hx hb dX4_earliestFor_44 (by decide) ?_
      have e_4_0 : ac_early (fi 8) ((ai 9) a) (ai 22) (k + 1) = ac_imax (ac_early (fi 8) ((ai 9) a) (ai 22) k) ((ai 22) k) := by first | rfl | (simp only [ac_early, c_6, c_27, if_true, if_false, eq_self, not_true_eq_false, not_false_eq_true, ite_true, ite_false, ↓reduceIte]; done) | (simp [ac_early, c_6, c_27]; done)
      refine ih_4 (k + 1) (a - (k + 1)) ls (by omega) ⟨rfl, (by omega), ?_⟩
      try dsimp only
      rw [e_4_0]
      exact lv_sub hl [2, 3, 1, 0] rfl

set_option maxHeartbeats 4000000 in
set_option maxRecDepth 100000 in
theorem c_X4_latestFor (l : Launch) (D : va_G) (ad : Nat → Nat) (cI cL : ClassId) (fi : Nat → Int32) (fl : Nat → Int64) (ai : Nat → Nat → Int32) (al : Nat → Nat → Int64) (a : Nat) (ha : a < 10) : Met l yX4_latestFor wsX4_latestFor (am_rm 1 21) (va_Pc [.ref (ad 4), .int (nI a)] (am_R nwL vwCl D (ac_w ad cI cL fi fl ai al) [(cI, .int), (cL, .long)])) (vp_Si (fun r => r = ac_late (fi 8) (fi 9) (nI a) (ai 9) (ai 22) a)) 0 0 am_No := by
  refine am_startR (cc := cX4_latestFor) (maxL := 4) (ret := (some .int)) (by decide) rfl (Nat.le_of_ble_eq_true rfl) [(0, .ref (ad 4)), (1, .int (nI a))] rfl ?_
  intro p e s m below meth c ls hx hb hr hml hown hts hlocks hP hK hN hl
  have hown : s.vm.findClass RX4 = some m.cls := hown
  have ht := am_ht hts
  have hin_X4 : ∀ w ∈ u_ws RX4 TX4 8, w ∈ wsX4_latestFor := fun w h => List.mem_cons_of_mem _ (am_inX4 w h)
  have hin_X1 : ∀ w ∈ u_ws RX1 TX1 14, w ∈ wsX4_latestFor := fun w h => List.mem_cons_of_mem _ (am_inX1 w h)
  have hf_15 := ht 156 (.fieldLink RX4 15 "ApartCost$Line" "trial" "[I") rfl
  have hf_22 := ht 155 (.fieldLink RX4 22 "ApartCost$Line" "product" "LApartCost$Product;") rfl
  have hf_32 := ht 158 (.fieldLink RX4 32 "ApartCost$Line" "set" "I") rfl
  have hf_36 := ht 159 (.fieldLink RX4 36 "ApartCost$Line" "stations" "I") rfl
  have hf_85 := ht 67 (.fieldLink RX4 85 "ApartCost$Product" "needs" "[I") rfl
  refine lv_aload_n hx hb dX4_latestFor_0 rfl (lv_at hl 0 rfl) ?_
  refine va_get (D := D) (ci := 4) (v := .int (fi 9)) (C := RX4) (T := TX4) (N := 8) hx hb hts hin_X4 hown hK hP 4 rfl rfl 5 (by decide) hf_36 (fun _ h9 => h9) rfl dX4_latestFor_1 ?_
  refine lv_iconst (v := 1) hx hb dX4_latestFor_4 (by decide) ?_
  refine lv_isub hx hb dX4_latestFor_5 ?_
  refine lv_istore_n (lv' := [(2, .int ((fi 9) - 1)), (0, .ref (ad 4)), (1, .int (nI a))]) hx hb dX4_latestFor_6 rfl hl (by decide) rfl (fun ls hl => ?_)
  refine lv_iconst (v := 0) hx hb dX4_latestFor_7 (by decide) ?_
  refine lv_istore_n (lv' := [(3, .int 0), (2, .int ((fi 9) - 1)), (0, .ref (ad 4)), (1, .int (nI a))]) hx hb dX4_latestFor_8 rfl hl (by decide) rfl (fun ls hl => ?_)
  refine am_loopR (σ := Nat) (fun q n9 ls => n9 = a - q ∧ q ≤ a ∧ lv_has ls 4 [(0, .ref (ad 4)), (1, .int (nI a)), (2, .int (ac_late (fi 8) (fi 9) (nI a) (ai 9) (ai 22) q)), (3, .int (nI q))]) ?_ 0 (a - 0) ls ⟨rfl, (by omega), lv_sub hl [2, 3, 1, 0] rfl⟩
  rintro k n9 ls ⟨hn_9, hk, hl⟩ ih_9
  refine lv_iload_n hx hb dX4_latestFor_9 rfl (lv_at hl 3 rfl) ?_
  refine lv_iload_n hx hb dX4_latestFor_10 rfl (lv_at hl 1 rfl) ?_
  refine lv_icmp_ge (tgt := 58) hx hb dX4_latestFor_11 (by decide) (fun c_11 => ?_) (fun c_11 => ?_)
  · skip
    have hke_11 : a ≤ k := (am_ge (rfl : nI a = nI a) (by omega) (by omega)).mp c_11
    have hkq_11 : a = k := by omega
    subst hkq_11
    refine lv_iload_n hx hb dX4_latestFor_58 rfl (lv_at hl 2 rfl) ?_
    exact am_iretR hx hb hr hlocks (by first | rfl | (simp only [c_11, if_true, if_false, eq_self, not_true_eq_false, not_false_eq_true, ite_true, ite_false, ↓reduceIte]; done) | (simp [c_11]; done)) dX4_latestFor_59
  · skip
    have hkl_11 : k < a := Nat.lt_of_not_le (fun z => c_11 ((am_ge (rfl : nI a = nI a) (by omega) (by omega)).mpr z))
    refine lv_aload_n hx hb dX4_latestFor_14 rfl (lv_at hl 0 rfl) ?_
    refine va_get (D := D) (ci := 4) (v := .int (fi 8)) (C := RX4) (T := TX4) (N := 8) hx hb hts hin_X4 hown hK hP 4 rfl rfl 4 (by decide) hf_32 (fun _ h9 => h9) rfl dX4_latestFor_15 ?_
    refine lv_iload_n hx hb dX4_latestFor_18 rfl (lv_at hl 3 rfl) ?_
    refine am_callRi (va_Run.run (va_runSN (As := [.int (fi 8), .int (nI k)]) (rest := []) ⟨hx, hb, hml, hown, hts⟩ (c_X0_has l D _ _ (fi 8) (nI k)) ⟨va_cnB 2 hts (am_gN (am_in 206 rfl)) rfl rfl rfl (am_nw_at hN 4 rfl) (ht 29 _ rfl) (by decide +kernel) ⟨Nat.le_of_ble_eq_true rfl, Nat.le_of_ble_eq_true rfl⟩, (ht 205 _ rfl), trivial⟩ (am_preSR hP hK hN) rfl rfl hl.1 rfl (lv_room (Nat.le_of_ble_eq_true rfl)) dX4_latestFor_19 ⟨Nat.zero_le _, Nat.zero_le _⟩)) ?_
    refine lv_if_eq (tgt := 52) hx hb dX4_latestFor_22 (by decide) (fun c_22 => ?_) (fun c_22 => ?_)
    · skip
      refine lv_iinc (v := nI (k + 1)) (lv' := [(3, .int (nI (k + 1))), (0, .ref (ad 4)), (1, .int (nI a)), (2, .int (ac_late (fi 8) (fi 9) (nI a) (ai 9) (ai 22) k))]) hx hb dX4_latestFor_52 hl (k := 3) rfl (nI_1 k) (by decide) rfl (fun ls hl => ?_)
      refine lv_goto (tgt := 9) hx hb dX4_latestFor_55 (by decide) ?_
      have e_9_0 : ac_late (fi 8) (fi 9) (nI a) (ai 9) (ai 22) (k + 1) = ac_late (fi 8) (fi 9) (nI a) (ai 9) (ai 22) k := by first | rfl | (simp only [ac_late, c_11, c_22, if_true, if_false, eq_self, not_true_eq_false, not_false_eq_true, ite_true, ite_false, ↓reduceIte]; done) | (simp [ac_late, c_11, c_22]; done)
      refine ih_9 (k + 1) (a - (k + 1)) ls (by omega) ⟨rfl, (by omega), ?_⟩
      try dsimp only
      rw [e_9_0]
      exact lv_sub hl [1, 2, 3, 0] rfl
    · skip
      refine lv_aload_n hx hb dX4_latestFor_25 rfl (lv_at hl 0 rfl) ?_
      refine va_get (D := D) (ci := 4) (v := .ref (ad 1)) (C := RX4) (T := TX4) (N := 8) hx hb hts hin_X4 hown hK hP 4 rfl rfl 1 (by decide) hf_22 (fun _ h9 => h9) rfl dX4_latestFor_26 ?_
      refine va_get (D := D) (ci := 1) (v := .ref (ad 9)) (C := RX1) (T := TX1) (N := 14) hx hb hts hin_X1 hown hK hP 1 rfl rfl 5 (by decide) hf_85 (fun _ h9 => h9) rfl dX4_latestFor_29 ?_
      refine lv_iload_n hx hb dX4_latestFor_32 rfl (lv_at hl 3 rfl) ?_
      refine am_iald hx hb hK hP 9 0 rfl rfl k rfl (by omega) (by decide) dX4_latestFor_33 ?_
      refine lv_iload_n hx hb dX4_latestFor_34 rfl (lv_at hl 1 rfl) ?_
      refine am_callRi (va_Run.run (va_runSN (As := [.int ((ai 9) k), .int (nI a)]) (rest := []) ⟨hx, hb, hml, hown, hts⟩ (c_X0_has l D _ _ ((ai 9) k) (nI a)) ⟨va_cnB 2 hts (am_gN (am_in 206 rfl)) rfl rfl rfl (am_nw_at hN 4 rfl) (ht 29 _ rfl) (by decide +kernel) ⟨Nat.le_of_ble_eq_true rfl, Nat.le_of_ble_eq_true rfl⟩, (ht 205 _ rfl), trivial⟩ (am_preSR hP hK hN) rfl rfl hl.1 rfl (lv_room (Nat.le_of_ble_eq_true rfl)) dX4_latestFor_35 ⟨Nat.zero_le _, Nat.zero_le _⟩)) ?_
      refine lv_if_eq (tgt := 52) hx hb dX4_latestFor_38 (by decide) (fun c_38 => ?_) (fun c_38 => ?_)
      · skip
        refine lv_iinc (v := nI (k + 1)) (lv' := [(3, .int (nI (k + 1))), (0, .ref (ad 4)), (1, .int (nI a)), (2, .int (ac_late (fi 8) (fi 9) (nI a) (ai 9) (ai 22) k))]) hx hb dX4_latestFor_52 hl (k := 3) rfl (nI_1 k) (by decide) rfl (fun ls hl => ?_)
        refine lv_goto (tgt := 9) hx hb dX4_latestFor_55 (by decide) ?_
        have e_9_0 : ac_late (fi 8) (fi 9) (nI a) (ai 9) (ai 22) (k + 1) = ac_late (fi 8) (fi 9) (nI a) (ai 9) (ai 22) k := by first | rfl | (simp only [ac_late, c_11, c_22, c_38, if_true, if_false, eq_self, not_true_eq_false, not_false_eq_true, ite_true, ite_false, ↓reduceIte]; done) | (simp [ac_late, c_11, c_22, c_38]; done)
        refine ih_9 (k + 1) (a - (k + 1)) ls (by omega) ⟨rfl, (by omega), ?_⟩
        try dsimp only
        rw [e_9_0]
        exact lv_sub hl [1, 2, 3, 0] rfl
      · skip
        refine lv_iload_n hx hb dX4_latestFor_41 rfl (lv_at hl 2 rfl) ?_
        refine lv_aload_n hx hb dX4_latestFor_42 rfl (lv_at hl 0 rfl) ?_
        refine va_get (D := D) (ci := 4) (v := .ref (ad 22)) (C := RX4) (T := TX4) (N := 8) hx hb hts hin_X4 hown hK hP 4 rfl rfl 2 (by decide) hf_15 (fun _ h9 => h9) rfl dX4_latestFor_43 ?_
        refine lv_iload_n hx hb dX4_latestFor_46 rfl (lv_at hl 3 rfl) ?_
        refine am_iald hx hb hK hP 22 0 rfl rfl k rfl (by omega) (by decide) dX4_latestFor_47 ?_
        refine va_mmin hx hb (hml.trans hl.1.symm) hown (ht 411 _ rfl) (ht 412 _ rfl) (ht 37 _ rfl) (ht 413 _ rfl) (Nat.le_of_ble_eq_true rfl) (Nat.le_of_ble_eq_true rfl) (Nat.zero_le _) (Nat.zero_le _) dX4_latestFor_48 ?_
        refine am_topi (y := ac_imin (ac_late (fi 8) (fi 9) (nI a) (ai 9) (ai 22) k) ((ai 22) k)) rfl ?_
        refine lv_istore_n (lv' := [(2, .int (ac_imin (ac_late (fi 8) (fi 9) (nI a) (ai 9) (ai 22) k) ((ai 22) k))), (0, .ref (ad 4)), (1, .int (nI a)), (3, .int (nI k))]) hx hb dX4_latestFor_51 rfl hl (by decide) rfl (fun ls hl => ?_)
        refine lv_iinc (v := nI (k + 1)) (lv' := [(3, .int (nI (k + 1))), (2, .int (ac_imin (ac_late (fi 8) (fi 9) (nI a) (ai 9) (ai 22) k) ((ai 22) k))), (0, .ref (ad 4)), (1, .int (nI a))]) hx hb dX4_latestFor_52 hl (k := 3) rfl (nI_1 k) (by decide) rfl (fun ls hl => ?_)
        refine lv_goto (tgt := 9) hx hb dX4_latestFor_55 (by decide) ?_
        have e_9_0 : ac_late (fi 8) (fi 9) (nI a) (ai 9) (ai 22) (k + 1) = ac_imin (ac_late (fi 8) (fi 9) (nI a) (ai 9) (ai 22) k) ((ai 22) k) := by first | rfl | (simp only [ac_late, c_11, c_22, c_38, if_true, if_false, eq_self, not_true_eq_false, not_false_eq_true, ite_true, ite_false, ↓reduceIte]; done) | (simp [ac_late, c_11, c_22, c_38]; done)
        refine ih_9 (k + 1) (a - (k + 1)) ls (by omega) ⟨rfl, (by omega), ?_⟩
        try dsimp only
        rw [e_9_0]
        exact lv_sub hl [2, 3, 1, 0] rfl

set_option maxHeartbeats 4000000 in
set_option maxRecDepth 100000 in
theorem c_X4_tryFrom_0 (l : Launch) (D : va_G) (ad : Nat → Nat) (cI cL : ClassId) (fi : Nat → Int32) (fl : Nat → Int64) (ai : Nat → Nat → Int32) (al : Nat → Nat → Int64) (A : Nat → Prop) (a : Nat) (na : Nat) (z : Int64) (hna : fi 0 = nI na) (hnl : na ≤ 10) (han : a = na) : Met l yX4_tryFrom wsX4_tryFrom (am_rm 2 200) (va_Pc [.ref (ad 4), .int (nI a), .long z] (am_M nwL vwCl D A (ac_w ad cI cL fi fl ai al) [(cI, .int), (cL, .long)])) (am_Mv vwCl D (ac_w ad cI cL fi (vp_updL fl 1 ((ac_try (al 8) (ai 9) (fi 8) (fi 9) (fl 2) na 0 a z ((ai 21), (ai 22), (al 23), (fl 1))).2.2.2)) (va_up (va_up ai 21 ((ac_try (al 8) (ai 9) (fi 8) (fi 9) (fl 2) na 0 a z ((ai 21), (ai 22), (al 23), (fl 1))).1)) 22 ((ac_try (al 8) (ai 9) (fi 8) (fi 9) (fl 2) na 0 a z ((ai 21), (ai 22), (al 23), (fl 1))).2.1)) (va_up al 23 ((ac_try (al 8) (ai 9) (fi 8) (fi 9) (fl 2) na 0 a z ((ai 21), (ai 22), (al 23), (fl 1))).2.2.1))) A) 0 0 A := by
  refine am_startM (cc := cX4_tryFrom) (maxL := 10) (ret := none) (by decide) rfl (Nat.le_of_ble_eq_true rfl) [(0, .ref (ad 4)), (1, .int (nI a)), (2, .long z)] rfl ?_
  intro p e s m below meth c ls hx hb hr hml hown hts hlocks hK hN hD H locs hP hS hl
  have hown : s.vm.findClass RX4 = some m.cls := hown
  have ht := am_ht hts
  have hin_X4 : ∀ w ∈ u_ws RX4 TX4 8, w ∈ wsX4_tryFrom := fun w h => List.mem_cons_of_mem _ (am_inX4 w h)
  have hin_X1 : ∀ w ∈ u_ws RX1 TX1 14, w ∈ wsX4_tryFrom := fun w h => List.mem_cons_of_mem _ (am_inX1 w h)
  have hf_22 := ht 155 (.fieldLink RX4 22 "ApartCost$Line" "product" "LApartCost$Product;") rfl
  have hf_53 := ht 58 (.fieldLink RX4 53 "ApartCost$Product" "acts" "I") rfl
  refine lv_iload_n hx hb dX4_tryFrom_0 rfl (lv_at hl 1 rfl) ?_
  refine lv_aload_n hx hb dX4_tryFrom_1 rfl (lv_at hl 0 rfl) ?_
  refine va_get (D := D) (ci := 4) (v := .ref (ad 1)) (C := RX4) (T := TX4) (N := 8) hx hb hts hin_X4 hown hK hP 4 rfl rfl 1 (by decide) hf_22 (fun _ h9 => h9) rfl dX4_tryFrom_2 ?_
  refine va_get (D := D) (ci := 1) (v := .int (fi 0)) (C := RX1) (T := TX1) (N := 14) hx hb hts hin_X1 hown hK hP 1 rfl rfl 0 (by decide) hf_53 (fun _ h9 => h9) rfl dX4_tryFrom_5 ?_
  refine lv_icmp_lt (tgt := 17) hx hb dX4_tryFrom_8 (by decide) (fun c_8 => ?_) (fun c_8 => ?_)
  · skip
    exact absurd c_8 (by rw [hna, han]; exact nI_nlt (Nat.le_refl _) (by omega))
  · skip
    refine lv_aload_n hx hb dX4_tryFrom_11 rfl (lv_at hl 0 rfl) ?_
    refine lv_lload_n hx hb dX4_tryFrom_12 rfl (lv_at hl 2 rfl) ?_
    refine am_callMv (va_runV (As := [.long z]) (rest := []) ⟨hx, hb, hml, hown, hts⟩ (c_X4_keepTrial l D ad cI cL fi fl ai al A z na hna hnl) (cwV 1 hts (am_gV (am_in 405 rfl) (am_in 406 rfl) (am_in 9 rfl) (am_in 34 rfl) (am_in 407 rfl)) rfl rfl rfl (by decide +kernel) ⟨Nat.le_of_ble_eq_true rfl, Nat.le_of_ble_eq_true rfl⟩) (am_preVM 4 4 rfl rfl rfl hP hK hN hD) rfl rfl hl.1 rfl (lv_room (Nat.le_of_ble_eq_true rfl)) dX4_tryFrom_13 ⟨Nat.zero_le _, Nat.zero_le _⟩) hS (fun H locs hP hS => ?_)
    have hP : va_P D vwCl (ac_w ad cI cL fi (vp_updL fl 1 z) (va_up ai 21 (ac_keep (fi 8) (ai 22) (ai 21) na)) al) H := hP
    have hD : va_D A (ac_w ad cI cL fi (vp_updL fl 1 z) (va_up ai 21 (ac_keep (fi 8) (ai 22) (ai 21) na)) al) := am_D hD rfl
    exact am_vretM hx hb hr hlocks hP hS dX4_tryFrom_16

set_option maxHeartbeats 4000000 in
set_option maxRecDepth 100000 in
theorem c_X4_tryFrom_S (l : Launch) (D : va_G) (ad : Nat → Nat) (cI cL : ClassId) (fi : Nat → Int32) (fl : Nat → Int64) (ai : Nat → Nat → Int32) (al : Nat → Nat → Int64) (A : Nat → Prop) (n : Nat) (na : Nat) (ih : ∀ (fi : Nat → Int32) (fl : Nat → Int64) (ai : Nat → Nat → Int32) (al : Nat → Nat → Int64) (A : Nat → Prop) (a : Nat) (z : Int64) (st : Nat), fi 0 = nI na → na ≤ 10 → fi 9 = nI st → st ≤ 4 → a + n = na → Met l yX4_tryFrom wsX4_tryFrom (am_rm (2 + n) (200 + n * 29)) (va_Pc [.ref (ad 4), .int (nI a), .long z] (am_M nwL vwCl D A (ac_w ad cI cL fi fl ai al) [(cI, .int), (cL, .long)])) (am_Mv vwCl D (ac_w ad cI cL fi (vp_updL fl 1 ((ac_try (al 8) (ai 9) (fi 8) (fi 9) (fl 2) na n a z ((ai 21), (ai 22), (al 23), (fl 1))).2.2.2)) (va_up (va_up ai 21 ((ac_try (al 8) (ai 9) (fi 8) (fi 9) (fl 2) na n a z ((ai 21), (ai 22), (al 23), (fl 1))).1)) 22 ((ac_try (al 8) (ai 9) (fi 8) (fi 9) (fl 2) na n a z ((ai 21), (ai 22), (al 23), (fl 1))).2.1)) (va_up al 23 ((ac_try (al 8) (ai 9) (fi 8) (fi 9) (fl 2) na n a z ((ai 21), (ai 22), (al 23), (fl 1))).2.2.1))) A) 0 0 A) (a : Nat) (z : Int64) (st : Nat) (hna : fi 0 = nI na) (hnl : na ≤ 10) (hst : fi 9 = nI st) (hst4 : st ≤ 4) (han : a + (n + 1) = na) : Met l yX4_tryFrom wsX4_tryFrom (am_rm (2 + (n + 1)) (200 + (n + 1) * 29)) (va_Pc [.ref (ad 4), .int (nI a), .long z] (am_M nwL vwCl D A (ac_w ad cI cL fi fl ai al) [(cI, .int), (cL, .long)])) (am_Mv vwCl D (ac_w ad cI cL fi (vp_updL fl 1 ((ac_try (al 8) (ai 9) (fi 8) (fi 9) (fl 2) na (n + 1) a z ((ai 21), (ai 22), (al 23), (fl 1))).2.2.2)) (va_up (va_up ai 21 ((ac_try (al 8) (ai 9) (fi 8) (fi 9) (fl 2) na (n + 1) a z ((ai 21), (ai 22), (al 23), (fl 1))).1)) 22 ((ac_try (al 8) (ai 9) (fi 8) (fi 9) (fl 2) na (n + 1) a z ((ai 21), (ai 22), (al 23), (fl 1))).2.1)) (va_up al 23 ((ac_try (al 8) (ai 9) (fi 8) (fi 9) (fl 2) na (n + 1) a z ((ai 21), (ai 22), (al 23), (fl 1))).2.2.1))) A) 0 0 A := by
  refine am_startM (cc := cX4_tryFrom) (maxL := 10) (ret := none) (by decide) rfl (Nat.le_of_ble_eq_true rfl) [(0, .ref (ad 4)), (1, .int (nI a)), (2, .long z)] rfl ?_
  intro p e s m below meth c ls hx hb hr hml hown hts hlocks hK hN hD H locs hP hS hl
  have hown : s.vm.findClass RX4 = some m.cls := hown
  have ht := am_ht hts
  have hin_X4 : ∀ w ∈ u_ws RX4 TX4 8, w ∈ wsX4_tryFrom := fun w h => List.mem_cons_of_mem _ (am_inX4 w h)
  have hin_X1 : ∀ w ∈ u_ws RX1 TX1 14, w ∈ wsX4_tryFrom := fun w h => List.mem_cons_of_mem _ (am_inX1 w h)
  have hf_15 := ht 156 (.fieldLink RX4 15 "ApartCost$Line" "trial" "[I") rfl
  have hf_18 := ht 157 (.fieldLink RX4 18 "ApartCost$Line" "loads" "[J") rfl
  have hf_22 := ht 155 (.fieldLink RX4 22 "ApartCost$Line" "product" "LApartCost$Product;") rfl
  have hf_32 := ht 158 (.fieldLink RX4 32 "ApartCost$Line" "set" "I") rfl
  have hf_49 := ht 160 (.fieldLink RX4 49 "ApartCost$Line" "longest" "J") rfl
  have hf_53 := ht 58 (.fieldLink RX4 53 "ApartCost$Product" "acts" "I") rfl
  have hf_62 := ht 64 (.fieldLink RX4 62 "ApartCost$Product" "cents" "[J") rfl
  have hf_71 := ht 161 (.fieldLink RX4 71 "ApartCost$Line" "least" "J") rfl
  refine lv_iload_n hx hb dX4_tryFrom_0 rfl (lv_at hl 1 rfl) ?_
  refine lv_aload_n hx hb dX4_tryFrom_1 rfl (lv_at hl 0 rfl) ?_
  refine va_get (D := D) (ci := 4) (v := .ref (ad 1)) (C := RX4) (T := TX4) (N := 8) hx hb hts hin_X4 hown hK hP 4 rfl rfl 1 (by decide) hf_22 (fun _ h9 => h9) rfl dX4_tryFrom_2 ?_
  refine va_get (D := D) (ci := 1) (v := .int (fi 0)) (C := RX1) (T := TX1) (N := 14) hx hb hts hin_X1 hown hK hP 1 rfl rfl 0 (by decide) hf_53 (fun _ h9 => h9) rfl dX4_tryFrom_5 ?_
  refine lv_icmp_lt (tgt := 17) hx hb dX4_tryFrom_8 (by decide) (fun c_8 => ?_) (fun c_8 => ?_)
  · skip
    refine lv_aload_n hx hb dX4_tryFrom_17 rfl (lv_at hl 0 rfl) ?_
    refine va_get (D := D) (ci := 4) (v := .int (fi 8)) (C := RX4) (T := TX4) (N := 8) hx hb hts hin_X4 hown hK hP 4 rfl rfl 4 (by decide) hf_32 (fun _ h9 => h9) rfl dX4_tryFrom_18 ?_
    refine lv_iload_n hx hb dX4_tryFrom_21 rfl (lv_at hl 1 rfl) ?_
    refine am_callRi (va_Run.run (va_runSN (As := [.int (fi 8), .int (nI a)]) (rest := []) ⟨hx, hb, hml, hown, hts⟩ (c_X0_has l D _ _ (fi 8) (nI a)) ⟨va_cnB 2 hts (am_gN (am_in 206 rfl)) rfl rfl rfl (am_nw_at hN 4 rfl) (ht 29 _ rfl) (by decide +kernel) ⟨by simp only [am_rm]; omega, by simp only [am_rm]; omega⟩, (ht 205 _ rfl), trivial⟩ (am_preSR hP hK hN) rfl rfl hl.1 rfl (lv_room (Nat.le_of_ble_eq_true rfl)) dX4_tryFrom_22 ⟨Nat.zero_le _, Nat.zero_le _⟩)) ?_
    refine lv_if_ne (tgt := 37) hx hb dX4_tryFrom_25 (by decide) (fun c_25 => ?_) (fun c_25 => ?_)
    · skip
      refine lv_aload_n hx hb dX4_tryFrom_37 rfl (lv_at hl 0 rfl) ?_
      refine va_get (D := D) (ci := 4) (v := .ref (ad 1)) (C := RX4) (T := TX4) (N := 8) hx hb hts hin_X4 hown hK hP 4 rfl rfl 1 (by decide) hf_22 (fun _ h9 => h9) rfl dX4_tryFrom_38 ?_
      refine va_get (D := D) (ci := 1) (v := .ref (ad 8)) (C := RX1) (T := TX1) (N := 14) hx hb hts hin_X1 hown hK hP 1 rfl rfl 4 (by decide) hf_62 (fun _ h9 => h9) rfl dX4_tryFrom_41 ?_
      refine lv_iload_n hx hb dX4_tryFrom_44 rfl (lv_at hl 1 rfl) ?_
      refine am_lald hx hb hK hP 8 1 rfl rfl a rfl (by omega) (by decide) dX4_tryFrom_45 ?_
      refine lv_lstore (lv' := [(4, .long ((al 8) a)), (0, .ref (ad 4)), (1, .int (nI a)), (2, .long z)]) hx hb dX4_tryFrom_46 hl (by decide) rfl (fun ls hl => ?_)
      refine lv_aload_n hx hb dX4_tryFrom_48 rfl (lv_at hl 1 rfl) ?_
      refine lv_iload_n hx hb dX4_tryFrom_49 rfl (lv_at hl 2 rfl) ?_
      refine am_callRi (W.runV (As := [.int (nI a)]) (rest := []) ⟨hx, hb, hml, hown, hts⟩ (c_X4_latestFor l D ad cI cL fi fl ai al a (by omega)) (cwV 1 hts (am_gV (am_in 408 rfl) (am_in 409 rfl) (am_in 10 rfl) (am_in 34 rfl) (am_in 410 rfl)) rfl rfl rfl (by decide +kernel) ⟨by simp only [am_rm]; omega, by simp only [am_rm]; omega⟩) (am_preVR 4 4 rfl rfl rfl hP hK hN) rfl rfl hl.1 rfl (lv_room (Nat.le_of_ble_eq_true rfl)) dX4_tryFrom_50 ⟨Nat.zero_le _, Nat.zero_le _⟩) ?_
      refine lv_istore (lv' := [(6, .int (ac_late (fi 8) (fi 9) (nI a) (ai 9) (ai 22) a)), (4, .long ((al 8) a)), (0, .ref (ad 4)), (1, .int (nI a)), (2, .long z)]) hx hb dX4_tryFrom_53 hl (by decide) rfl (fun ls hl => ?_)
      refine lv_aload_n hx hb dX4_tryFrom_55 rfl (lv_at hl 2 rfl) ?_
      refine lv_iload_n hx hb dX4_tryFrom_56 rfl (lv_at hl 3 rfl) ?_
      refine am_callRi (W.runV (As := [.int (nI a)]) (rest := []) ⟨hx, hb, hml, hown, hts⟩ (c_X4_earliestFor l D ad cI cL fi fl ai al a (by omega)) (cwV 1 hts (am_gV (am_in 414 rfl) (am_in 415 rfl) (am_in 11 rfl) (am_in 34 rfl) (am_in 416 rfl)) rfl rfl rfl (by decide +kernel) ⟨by simp only [am_rm]; omega, by simp only [am_rm]; omega⟩) (am_preVR 4 4 rfl rfl rfl hP hK hN) rfl rfl hl.1 rfl (lv_room (Nat.le_of_ble_eq_true rfl)) dX4_tryFrom_57 ⟨Nat.zero_le _, Nat.zero_le _⟩) ?_
      refine am_topi (am_clamp (ac_early_nn _ _ _ _)) ?_
      refine lv_istore (lv' := [(7, .int (nI (ac_early (fi 8) ((ai 9) a) (ai 22) a).toNatClampNeg)), (6, .int (ac_late (fi 8) (fi 9) (nI a) (ai 9) (ai 22) a)), (4, .long ((al 8) a)), (0, .ref (ad 4)), (1, .int (nI a)), (2, .long z)]) hx hb dX4_tryFrom_60 hl (by decide) rfl (fun ls hl => ?_)
      refine am_loop (σ := (Nat) × (ac_T)) (fun q n9 H locs ls => n9 = 4 - q.1 ∧ q.1 < 2 ^ 31 ∧ ac_tl (fun m u => ac_try (al 8) (ai 9) (fi 8) (fi 9) (fl 2) na n (a + 1) m u) ((al 8) a) (fl 2) (ac_late (fi 8) (fi 9) (nI a) (ai 9) (ai 22) a) a z (4 - q.1) q.1 q.2 = ac_tl (fun m u => ac_try (al 8) (ai 9) (fi 8) (fi 9) (fl 2) na n (a + 1) m u) ((al 8) a) (fl 2) (ac_late (fi 8) (fi 9) (nI a) (ai 9) (ai 22) a) a z (4 - (ac_early (fi 8) ((ai 9) a) (ai 22) a).toNatClampNeg) (ac_early (fi 8) ((ai 9) a) (ai 22) a).toNatClampNeg ((ai 21), (ai 22), (al 23), (fl 1)) ∧ va_P D vwCl (ac_w ad cI cL fi (vp_updL fl 1 q.2.2.2.2) (va_up (va_up ai 21 q.2.1) 22 q.2.2.1) (va_up al 23 q.2.2.2.1)) H ∧ va_S A s.heap H locs ∧ lv_has ls 10 [(0, .ref (ad 4)), (1, .int (nI a)), (2, .long z), (4, .long ((al 8) a)), (6, .int (ac_late (fi 8) (fi 9) (nI a) (ai 9) (ai 22) a)), (7, .int (nI q.1))]) ?_ ((ac_early (fi 8) ((ai 9) a) (ai 22) a).toNatClampNeg, ((ai 21), (ai 22), (al 23), (fl 1))) (4 - ((ac_early (fi 8) ((ai 9) a) (ai 22) a).toNatClampNeg)) H locs ls ⟨rfl, (am_clamp_lt _), rfl, hP, hS, lv_sub hl [3, 4, 5, 2, 1, 0] rfl⟩
      rintro ⟨p, t⟩ n9 H locs ls ⟨hn_62, hp, hm, hP, hS, hl⟩ ih_62
      dsimp only at hn_62 hp hm hP hl
      have hD : va_D A (ac_w ad cI cL fi (vp_updL fl 1 t.2.2.2) (va_up (va_up ai 21 t.1) 22 t.2.1) (va_up al 23 t.2.2.1)) := am_D hD rfl
      refine lv_iload hx hb dX4_tryFrom_62 (lv_at hl 5 rfl) ?_
      refine lv_iload hx hb dX4_tryFrom_64 (lv_at hl 4 rfl) ?_
      refine lv_icmp_gt (tgt := 154) hx hb dX4_tryFrom_66 (by decide) (fun c_66 => ?_) (fun c_66 => ?_)
      · skip
        have hT : ac_try (al 8) (ai 9) (fi 8) (fi 9) (fl 2) na (n + 1) a z ((ai 21), (ai 22), (al 23), (fl 1)) = t := by rw [ac_try, if_neg c_25]; exact hm.symm.trans (ac_tl_s1 c_66)
        exact am_vretM hx hb hr hlocks (by rw [hT]; exact hP) hS dX4_tryFrom_154
      · skip
        have hp4 : p < 4 := am_p4 hst hst4 (by omega) (ac_late_le _ _ _ _ _ _) c_66
        refine lv_aload_n hx hb dX4_tryFrom_69 rfl (lv_at hl 0 rfl) ?_
        refine va_get (D := D) (ci := 4) (v := .long t.2.2.2) (C := RX4) (T := TX4) (N := 8) hx hb hts hin_X4 hown hK hP 4 rfl rfl 6 (by decide) hf_49 (fun _ h9 => h9) rfl dX4_tryFrom_70 ?_
        refine lv_aload_n hx hb dX4_tryFrom_73 rfl (lv_at hl 0 rfl) ?_
        refine va_get (D := D) (ci := 4) (v := .long (fl 2)) (C := RX4) (T := TX4) (N := 8) hx hb hts hin_X4 hown hK hP 4 rfl rfl 7 (by decide) hf_71 (fun _ h9 => h9) rfl dX4_tryFrom_74 ?_
        refine W.lcmp hx hb dX4_tryFrom_77 ?_
        refine lv_if_le (tgt := 154) hx hb dX4_tryFrom_78 (by decide) (fun c_78 => ?_) (fun c_78 => ?_)
        · skip
          have c_78 : t.2.2.2 ≤ (fl 2) := (lg_cmp_le _ _).mp c_78
          have hT : ac_try (al 8) (ai 9) (fi 8) (fi 9) (fl 2) na (n + 1) a z ((ai 21), (ai 22), (al 23), (fl 1)) = t := by rw [ac_try, if_neg c_25]; exact hm.symm.trans (ac_tl_s2 c_78)
          exact am_vretM hx hb hr hlocks (by rw [hT]; exact hP) hS dX4_tryFrom_154
        · skip
          have c_78 : ¬ (t.2.2.2 ≤ (fl 2)) := (fun z => c_78 ((lg_cmp_le _ _).mpr z))
          refine lv_lload_n hx hb dX4_tryFrom_81 rfl (lv_at hl 2 rfl) ?_
          refine lv_aload_n hx hb dX4_tryFrom_82 rfl (lv_at hl 0 rfl) ?_
          refine va_get (D := D) (ci := 4) (v := .ref (ad 23)) (C := RX4) (T := TX4) (N := 8) hx hb hts hin_X4 hown hK hP 4 rfl rfl 3 (by decide) hf_18 (fun _ h9 => h9) rfl dX4_tryFrom_83 ?_
          refine lv_iload hx hb dX4_tryFrom_86 (lv_at hl 5 rfl) ?_
          refine am_lald hx hb hK hP 23 1 rfl rfl p rfl (by omega) (by decide) dX4_tryFrom_88 ?_
          refine lv_lload hx hb dX4_tryFrom_89 (lv_at hl 3 rfl) ?_
          refine lv_ladd hx hb dX4_tryFrom_91 ?_
          refine va_mmax_long hx hb (hml.trans hl.1.symm) hown (ht 400 _ rfl) (ht 336 _ rfl) (ht 37 _ rfl) (ht 337 _ rfl) (by simp only [am_rm]; omega) (by simp only [am_rm, List.map_nil, List.map_cons, List.sum_nil, List.sum_cons]; omega) (Nat.zero_le _) (Nat.zero_le _) dX4_tryFrom_92 ?_
          refine am_topl (y := ac_max z ((t.2.2.1 p) + ((al 8) a))) rfl ?_
          refine lv_lstore (lv' := [(8, .long (ac_max z ((t.2.2.1 p) + ((al 8) a)))), (0, .ref (ad 4)), (1, .int (nI a)), (2, .long z), (4, .long ((al 8) a)), (6, .int (ac_late (fi 8) (fi 9) (nI a) (ai 9) (ai 22) a)), (7, .int (nI p))]) hx hb dX4_tryFrom_95 hl (by decide) rfl (fun ls hl => ?_)
          refine lv_lload hx hb dX4_tryFrom_97 (lv_at hl 0 rfl) ?_
          refine lv_aload_n hx hb dX4_tryFrom_99 rfl (lv_at hl 1 rfl) ?_
          refine va_get (D := D) (ci := 4) (v := .long t.2.2.2) (C := RX4) (T := TX4) (N := 8) hx hb hts hin_X4 hown hK hP 4 rfl rfl 6 (by decide) hf_49 (fun _ h9 => h9) rfl dX4_tryFrom_100 ?_
          refine W.lcmp hx hb dX4_tryFrom_103 ?_
          refine lv_if_ge (tgt := 148) hx hb dX4_tryFrom_104 (by decide) (fun c_104 => ?_) (fun c_104 => ?_)
          · skip
            have c_104 : t.2.2.2 ≤ (ac_max z ((t.2.2.1 p) + ((al 8) a))) := (lg_cmp_ge _ _).mp c_104
            refine lv_iinc (v := nI (p + 1)) (lv' := [(7, .int (nI (p + 1))), (8, .long (ac_max z ((t.2.2.1 p) + ((al 8) a)))), (0, .ref (ad 4)), (1, .int (nI a)), (2, .long z), (4, .long ((al 8) a)), (6, .int (ac_late (fi 8) (fi 9) (nI a) (ai 9) (ai 22) a))]) hx hb dX4_tryFrom_148 hl (k := 6) rfl (nI_1 p) (by decide) rfl (fun ls hl => ?_)
            refine lv_goto (tgt := 62) hx hb dX4_tryFrom_151 (by decide) ?_
            refine ih_62 (p + 1, t) (4 - (p + 1)) H locs ls (by first | omega | (dsimp only; omega)) ⟨rfl, (by omega), (by dsimp only; rw [← hm, show 4 - p = (4 - (p + 1)) + 1 by omega, ac_tl, if_neg c_66, if_neg c_78, if_pos c_104]), ?_, hS, ?_⟩
            · exact hP
            · exact lv_sub hl [2, 3, 4, 5, 6, 0] rfl
          · skip
            have c_104 : ¬ (t.2.2.2 ≤ (ac_max z ((t.2.2.1 p) + ((al 8) a)))) := (fun z => c_104 ((lg_cmp_ge _ _).mpr z))
            refine lv_aload_n hx hb dX4_tryFrom_107 rfl (lv_at hl 1 rfl) ?_
            refine va_get (D := D) (ci := 4) (v := .ref (ad 22)) (C := RX4) (T := TX4) (N := 8) hx hb hts hin_X4 hown hK hP 4 rfl rfl 2 (by decide) hf_15 (fun _ h9 => h9) rfl dX4_tryFrom_108 ?_
            refine lv_iload_n hx hb dX4_tryFrom_111 rfl (lv_at hl 2 rfl) ?_
            refine lv_iload hx hb dX4_tryFrom_112 (lv_at hl 6 rfl) ?_
            refine am_iast hx hb hK hP hD hS 22 0 rfl rfl a rfl (by omega) (by decide) (ac_w ad cI cL fi (vp_updL fl 1 t.2.2.2) (va_up (va_up ai 21 t.1) 22 (upd t.2.1 a (nI p))) (va_up al 23 t.2.2.1)) rfl dX4_tryFrom_114 (fun H locs hP hD hS => ?_)
            refine lv_aload_n hx hb dX4_tryFrom_115 rfl (lv_at hl 1 rfl) ?_
            refine va_get (D := D) (ci := 4) (v := .ref (ad 23)) (C := RX4) (T := TX4) (N := 8) hx hb hts hin_X4 hown hK hP 4 rfl rfl 3 (by decide) hf_18 (fun _ h9 => h9) rfl dX4_tryFrom_116 ?_
            refine lv_iload hx hb dX4_tryFrom_119 (lv_at hl 6 rfl) ?_
            refine lv_dup2_11 hx hb dX4_tryFrom_121 rfl rfl ?_
            refine am_lald hx hb hK hP 23 1 rfl rfl p rfl (by omega) (by decide) dX4_tryFrom_122 ?_
            refine lv_lload hx hb dX4_tryFrom_123 (lv_at hl 4 rfl) ?_
            refine lv_ladd hx hb dX4_tryFrom_125 ?_
            refine am_last hx hb hK hP hD hS 23 1 rfl rfl p rfl (by omega) (by decide) (ac_w ad cI cL fi (vp_updL fl 1 t.2.2.2) (va_up (va_up ai 21 t.1) 22 (upd t.2.1 a (nI p))) (va_up al 23 (vp_updL t.2.2.1 p ((t.2.2.1 p) + ((al 8) a))))) rfl dX4_tryFrom_126 (fun H locs hP hD hS => ?_)
            refine lv_aload_n hx hb dX4_tryFrom_127 rfl (lv_at hl 1 rfl) ?_
            refine lv_iload_n hx hb dX4_tryFrom_128 rfl (lv_at hl 2 rfl) ?_
            refine lv_iconst (v := 1) hx hb dX4_tryFrom_129 (by decide) ?_
            refine lv_iadd hx hb dX4_tryFrom_130 ?_
            refine am_topi (nI_1 a) ?_
            refine lv_lload hx hb dX4_tryFrom_131 (lv_at hl 0 rfl) ?_
            refine am_callMv (va_runS (As := [.ref (ad 4), .int (nI (a + 1)), .long (ac_max z ((t.2.2.1 p) + ((al 8) a)))]) (rest := []) ⟨hx, hb, hml, hown, hts⟩ (ih fi (vp_updL fl 1 t.2.2.2) (va_up (va_up ai 21 t.1) 22 (upd t.2.1 a (nI p))) (va_up al 23 (vp_updL t.2.2.1 p ((t.2.2.1 p) + ((al 8) a)))) A (a + 1) (ac_max z ((t.2.2.1 p) + ((al 8) a))) st hna hnl hst hst4 (by omega)) (va_cwS 3 hts (am_gS (am_in 402 rfl) (am_in 403 rfl) (am_in 34 rfl) (am_in 404 rfl)) rfl rfl rfl (by decide +kernel) ⟨by simp only [am_rm]; omega, by simp only [am_rm]; omega⟩) (am_preSM hP hK hN hD) rfl rfl hl.1 rfl (lv_room (Nat.le_of_ble_eq_true rfl)) dX4_tryFrom_133 ⟨Nat.zero_le _, Nat.zero_le _⟩) hS (fun H locs hP hS => ?_)
            have hP : va_P D vwCl (ac_w ad cI cL fi (vp_updL fl 1 ((ac_try (al 8) (ai 9) (fi 8) (fi 9) (fl 2) na n (a + 1) (ac_max z ((t.2.2.1 p) + ((al 8) a))) (ac_tput t a p ((al 8) a))).2.2.2)) (va_up (va_up ai 21 ((ac_try (al 8) (ai 9) (fi 8) (fi 9) (fl 2) na n (a + 1) (ac_max z ((t.2.2.1 p) + ((al 8) a))) (ac_tput t a p ((al 8) a))).1)) 22 ((ac_try (al 8) (ai 9) (fi 8) (fi 9) (fl 2) na n (a + 1) (ac_max z ((t.2.2.1 p) + ((al 8) a))) (ac_tput t a p ((al 8) a))).2.1)) (va_up al 23 ((ac_try (al 8) (ai 9) (fi 8) (fi 9) (fl 2) na n (a + 1) (ac_max z ((t.2.2.1 p) + ((al 8) a))) (ac_tput t a p ((al 8) a))).2.2.1))) H := hP
            have hD : va_D A (ac_w ad cI cL fi (vp_updL fl 1 ((ac_try (al 8) (ai 9) (fi 8) (fi 9) (fl 2) na n (a + 1) (ac_max z ((t.2.2.1 p) + ((al 8) a))) (ac_tput t a p ((al 8) a))).2.2.2)) (va_up (va_up ai 21 ((ac_try (al 8) (ai 9) (fi 8) (fi 9) (fl 2) na n (a + 1) (ac_max z ((t.2.2.1 p) + ((al 8) a))) (ac_tput t a p ((al 8) a))).1)) 22 ((ac_try (al 8) (ai 9) (fi 8) (fi 9) (fl 2) na n (a + 1) (ac_max z ((t.2.2.1 p) + ((al 8) a))) (ac_tput t a p ((al 8) a))).2.1)) (va_up al 23 ((ac_try (al 8) (ai 9) (fi 8) (fi 9) (fl 2) na n (a + 1) (ac_max z ((t.2.2.1 p) + ((al 8) a))) (ac_tput t a p ((al 8) a))).2.2.1))) := am_D hD rfl
            refine lv_aload_n hx hb dX4_tryFrom_136 rfl (lv_at hl 1 rfl) ?_
            refine va_get (D := D) (ci := 4) (v := .ref (ad 23)) (C := RX4) (T := TX4) (N := 8) hx hb hts hin_X4 hown hK hP 4 rfl rfl 3 (by decide) hf_18 (fun _ h9 => h9) rfl dX4_tryFrom_137 ?_
            refine lv_iload hx hb dX4_tryFrom_140 (lv_at hl 6 rfl) ?_
            refine lv_dup2_11 hx hb dX4_tryFrom_142 rfl rfl ?_
            refine am_lald hx hb hK hP 23 1 rfl rfl p rfl (by omega) (by decide) dX4_tryFrom_143 ?_
            refine lv_lload hx hb dX4_tryFrom_144 (lv_at hl 4 rfl) ?_
            refine lv_lsub hx hb dX4_tryFrom_146 ?_
            refine am_last hx hb hK hP hD hS 23 1 rfl rfl p rfl (by omega) (by decide) (ac_w ad cI cL fi (vp_updL fl 1 ((ac_try (al 8) (ai 9) (fi 8) (fi 9) (fl 2) na n (a + 1) (ac_max z ((t.2.2.1 p) + ((al 8) a))) (ac_tput t a p ((al 8) a))).2.2.2)) (va_up (va_up ai 21 ((ac_try (al 8) (ai 9) (fi 8) (fi 9) (fl 2) na n (a + 1) (ac_max z ((t.2.2.1 p) + ((al 8) a))) (ac_tput t a p ((al 8) a))).1)) 22 ((ac_try (al 8) (ai 9) (fi 8) (fi 9) (fl 2) na n (a + 1) (ac_max z ((t.2.2.1 p) + ((al 8) a))) (ac_tput t a p ((al 8) a))).2.1)) (va_up al 23 (vp_updL ((ac_try (al 8) (ai 9) (fi 8) (fi 9) (fl 2) na n (a + 1) (ac_max z ((t.2.2.1 p) + ((al 8) a))) (ac_tput t a p ((al 8) a))).2.2.1) p ((((ac_try (al 8) (ai 9) (fi 8) (fi 9) (fl 2) na n (a + 1) (ac_max z ((t.2.2.1 p) + ((al 8) a))) (ac_tput t a p ((al 8) a))).2.2.1) p) - ((al 8) a))))) rfl dX4_tryFrom_147 (fun H locs hP hD hS => ?_)
            refine lv_iinc (v := nI (p + 1)) (lv' := [(7, .int (nI (p + 1))), (8, .long (ac_max z ((t.2.2.1 p) + ((al 8) a)))), (0, .ref (ad 4)), (1, .int (nI a)), (2, .long z), (4, .long ((al 8) a)), (6, .int (ac_late (fi 8) (fi 9) (nI a) (ai 9) (ai 22) a))]) hx hb dX4_tryFrom_148 hl (k := 6) rfl (nI_1 p) (by decide) rfl (fun ls hl => ?_)
            refine lv_goto (tgt := 62) hx hb dX4_tryFrom_151 (by decide) ?_
            refine ih_62 (p + 1, (ac_toff (ac_try (al 8) (ai 9) (fi 8) (fi 9) (fl 2) na n (a + 1) (ac_max z (t.2.2.1 p + ((al 8) a))) (ac_tput t a p ((al 8) a))) p ((al 8) a))) (4 - (p + 1)) H locs ls (by first | omega | (dsimp only; omega)) ⟨rfl, (by omega), (by dsimp only; rw [← hm, show 4 - p = (4 - (p + 1)) + 1 by omega, ac_tl, if_neg c_66, if_neg c_78, if_neg c_104]), ?_, hS, ?_⟩
            · exact hP
            · exact lv_sub hl [2, 3, 4, 5, 6, 0] rfl
    · skip
      refine lv_aload_n hx hb dX4_tryFrom_28 rfl (lv_at hl 0 rfl) ?_
      refine lv_iload_n hx hb dX4_tryFrom_29 rfl (lv_at hl 1 rfl) ?_
      refine lv_iconst (v := 1) hx hb dX4_tryFrom_30 (by decide) ?_
      refine lv_iadd hx hb dX4_tryFrom_31 ?_
      refine am_topi (nI_1 a) ?_
      refine lv_lload_n hx hb dX4_tryFrom_32 rfl (lv_at hl 2 rfl) ?_
      refine am_callMv (va_runS (As := [.ref (ad 4), .int (nI (a + 1)), .long z]) (rest := []) ⟨hx, hb, hml, hown, hts⟩ (ih fi fl ai al A (a + 1) z st hna hnl hst hst4 (by omega)) (va_cwS 3 hts (am_gS (am_in 402 rfl) (am_in 403 rfl) (am_in 34 rfl) (am_in 404 rfl)) rfl rfl rfl (by decide +kernel) ⟨by simp only [am_rm]; omega, by simp only [am_rm]; omega⟩) (am_preSM hP hK hN hD) rfl rfl hl.1 rfl (lv_room (Nat.le_of_ble_eq_true rfl)) dX4_tryFrom_33 ⟨Nat.zero_le _, Nat.zero_le _⟩) hS (fun H locs hP hS => ?_)
      have hP : va_P D vwCl (ac_w ad cI cL fi (vp_updL fl 1 ((ac_try (al 8) (ai 9) (fi 8) (fi 9) (fl 2) na n (a + 1) z ((ai 21), (ai 22), (al 23), (fl 1))).2.2.2)) (va_up (va_up ai 21 ((ac_try (al 8) (ai 9) (fi 8) (fi 9) (fl 2) na n (a + 1) z ((ai 21), (ai 22), (al 23), (fl 1))).1)) 22 ((ac_try (al 8) (ai 9) (fi 8) (fi 9) (fl 2) na n (a + 1) z ((ai 21), (ai 22), (al 23), (fl 1))).2.1)) (va_up al 23 ((ac_try (al 8) (ai 9) (fi 8) (fi 9) (fl 2) na n (a + 1) z ((ai 21), (ai 22), (al 23), (fl 1))).2.2.1))) H := hP
      have hD : va_D A (ac_w ad cI cL fi (vp_updL fl 1 ((ac_try (al 8) (ai 9) (fi 8) (fi 9) (fl 2) na n (a + 1) z ((ai 21), (ai 22), (al 23), (fl 1))).2.2.2)) (va_up (va_up ai 21 ((ac_try (al 8) (ai 9) (fi 8) (fi 9) (fl 2) na n (a + 1) z ((ai 21), (ai 22), (al 23), (fl 1))).1)) 22 ((ac_try (al 8) (ai 9) (fi 8) (fi 9) (fl 2) na n (a + 1) z ((ai 21), (ai 22), (al 23), (fl 1))).2.1)) (va_up al 23 ((ac_try (al 8) (ai 9) (fi 8) (fi 9) (fl 2) na n (a + 1) z ((ai 21), (ai 22), (al 23), (fl 1))).2.2.1))) := am_D hD rfl
      exact am_vretM hx hb hr hlocks (by rw [ac_try, if_pos c_25]; exact hP) hS dX4_tryFrom_36
  · skip
    exact absurd (by rw [hna]; exact nI_lt (by omega) (by omega)) c_8

theorem c_X4_tryFrom (l : Launch) (D : va_G) (ad : Nat → Nat) (cI cL : ClassId) (na : Nat) : ∀ (n : Nat), ∀ (fi : Nat → Int32) (fl : Nat → Int64) (ai : Nat → Nat → Int32) (al : Nat → Nat → Int64) (A : Nat → Prop) (a : Nat) (z : Int64) (st : Nat), fi 0 = nI na → na ≤ 10 → fi 9 = nI st → st ≤ 4 → a + n = na → Met l yX4_tryFrom wsX4_tryFrom (am_rm (2 + n) (200 + n * 29)) (va_Pc [.ref (ad 4), .int (nI a), .long z] (am_M nwL vwCl D A (ac_w ad cI cL fi fl ai al) [(cI, .int), (cL, .long)])) (am_Mv vwCl D (ac_w ad cI cL fi (vp_updL fl 1 ((ac_try (al 8) (ai 9) (fi 8) (fi 9) (fl 2) na n a z ((ai 21), (ai 22), (al 23), (fl 1))).2.2.2)) (va_up (va_up ai 21 ((ac_try (al 8) (ai 9) (fi 8) (fi 9) (fl 2) na n a z ((ai 21), (ai 22), (al 23), (fl 1))).1)) 22 ((ac_try (al 8) (ai 9) (fi 8) (fi 9) (fl 2) na n a z ((ai 21), (ai 22), (al 23), (fl 1))).2.1)) (va_up al 23 ((ac_try (al 8) (ai 9) (fi 8) (fi 9) (fl 2) na n a z ((ai 21), (ai 22), (al 23), (fl 1))).2.2.1))) A) 0 0 A
  | 0 => fun fi fl ai al A a z st hna hnl hst hst4 han => by
    have h := c_X4_tryFrom_0 l D ad cI cL fi fl ai al A a na z hna hnl (by omega)
    exact h
  | n + 1 => fun fi fl ai al A a z st hna hnl hst hst4 han => c_X4_tryFrom_S l D ad cI cL fi fl ai al A n na (c_X4_tryFrom l D ad cI cL na n) a z st hna hnl hst hst4 han
set_option maxHeartbeats 4000000 in
set_option maxRecDepth 100000 in
theorem c_fillJ (l : Launch) (D : va_G) (A : Nat → Prop) (w : va_W) (tys : List (ClassId × FieldType)) (q0 t0 q : Nat) (cA : ClassId) (n : Nat) (f : Nat → Int64) (z : Int64) (hq : w[q0]? = some (q, .inl (cA, n, .inr (.inl f)))) (ht : tys[t0]? = some (cA, .long)) (hn : n < 2 ^ 31) : Met l yJA_fillJ wsJA_fillJ (am_rm 0 0) (va_Pc [.ref q, .long z] (am_M nwL vwCl D A w tys)) (am_Mv vwCl D (w.set q0 (q, .inl (cA, n, .inr (.inl (ac_fillL z f n))))) A) 0 0 A := by
  refine am_startM (cc := cJA_fillJ) (maxL := 5) (ret := none) (by decide) rfl (Nat.le_of_ble_eq_true rfl) [(0, .ref q), (1, .long z)] rfl ?_
  intro p e s m below meth c ls hx hb hr hml hown hts hlocks hK hN hD H locs hP hS hl
  refine lv_iconst (v := 0) hx hb dJA_fillJ_0 (by decide) ?_
  refine lv_istore_n (lv' := [(3, .int 0), (0, .ref q), (1, .long z)]) hx hb dJA_fillJ_1 rfl hl (by decide) rfl (fun ls hl => ?_)
  refine lv_aload_n hx hb dJA_fillJ_2 rfl (lv_at hl 1 rfl) ?_
  refine va_alen hx hb hK hP q0 t0 hq ht (v := nI n) rfl dJA_fillJ_3 ?_
  refine lv_istore (lv' := [(4, .int (nI n)), (3, .int 0), (0, .ref q), (1, .long z)]) hx hb dJA_fillJ_4 hl (by decide) rfl (fun ls hl => ?_)
  refine am_loop (σ := Nat) (fun k n9 H locs ls => n9 = n - k ∧ k ≤ n ∧ va_P D vwCl (w.set q0 (q, .inl (cA, n, .inr (.inl (ac_fillL z f k))))) H ∧ va_S A s.heap H locs ∧ lv_has ls 5 [(0, .ref q), (1, .long z), (3, .int (nI k)), (4, .int (nI n))]) ?_ 0 (n - 0) H locs ls ⟨rfl, Nat.zero_le _, by rw [show ac_fillL z f 0 = f from rfl, am_set_self hq]; exact hP, hS, lv_sub hl [2, 3, 1, 0] rfl⟩
  rintro k n9 H locs ls ⟨hn9, hk, hP, hS, hl⟩ ih
  have hlt : q0 < w.length := (List.getElem?_eq_some_iff.mp hq).1
  have hq1 : (w.set q0 (q, .inl (cA, n, .inr (.inl (ac_fillL z f k)))))[q0]? = some (q, .inl (cA, n, .inr (.inl (ac_fillL z f k)))) := List.getElem?_set_self hlt
  have hD : va_D A (w.set q0 (q, .inl (cA, n, .inr (.inl (ac_fillL z f k))))) := am_D hD (am_set_fst hq)
  refine lv_iload_n hx hb dJA_fillJ_6 rfl (lv_at hl 2 rfl) ?_
  refine lv_iload hx hb dJA_fillJ_7 (lv_at hl 3 rfl) ?_
  refine lv_icmp_ge (tgt := 22) hx hb dJA_fillJ_9 (by decide) (fun c_9 => ?_) (fun c_9 => ?_)
  · have hke : n ≤ k := (am_ge (rfl : nI n = nI n) (by omega) (by omega)).mp c_9
    have hkq : n = k := by omega
    subst hkq
    exact am_vretM hx hb hr hlocks hP hS dJA_fillJ_22
  · have hkl : k < n := Nat.lt_of_not_le (fun z => c_9 ((am_ge (rfl : nI n = nI n) (by omega) (by omega)).mpr z))
    refine lv_aload_n hx hb dJA_fillJ_12 rfl (lv_at hl 0 rfl) ?_
    refine lv_iload_n hx hb dJA_fillJ_13 rfl (lv_at hl 2 rfl) ?_
    refine lv_lload_n hx hb dJA_fillJ_14 rfl (lv_at hl 1 rfl) ?_
    refine am_last hx hb hK hP hD hS q0 t0 hq1 ht k rfl hkl hn (w.set q0 (q, .inl (cA, n, .inr (.inl (ac_fillL z f (k + 1)))))) (by rw [List.set_set]; rfl) dJA_fillJ_15 (fun H locs hP hD hS => ?_)
    refine lv_iinc (v := nI (k + 1)) (lv' := [(3, .int (nI (k + 1))), (0, .ref q), (1, .long z), (4, .int (nI n))]) hx hb dJA_fillJ_16 hl (k := 2) rfl (nI_1 k) (by decide) rfl (fun ls hl => ?_)
    refine lv_goto (tgt := 6) hx hb dJA_fillJ_19 (by decide) ?_
    exact ih (k + 1) (n - (k + 1)) H locs ls (by omega) ⟨rfl, by omega, hP, hS, lv_sub hl [1, 2, 0, 3] rfl⟩
set_option maxHeartbeats 4000000 in
set_option maxRecDepth 100000 in
theorem c_fillI (l : Launch) (D : va_G) (A : Nat → Prop) (w : va_W) (tys : List (ClassId × FieldType)) (q0 t0 q : Nat) (cA : ClassId) (n : Nat) (f : Nat → Int32) (z : Int32) (hq : w[q0]? = some (q, .inl (cA, n, .inl f))) (ht : tys[t0]? = some (cA, .int)) (hn : n < 2 ^ 31) : Met l yJA_fillI wsJA_fillI (am_rm 0 0) (va_Pc [.ref q, .int z] (am_M nwL vwCl D A w tys)) (am_Mv vwCl D (w.set q0 (q, .inl (cA, n, .inl (ac_fillI z f n)))) A) 0 0 A := by
  refine am_startM (cc := cJA_fillI) (maxL := 4) (ret := none) (by decide) rfl (Nat.le_of_ble_eq_true rfl) [(0, .ref q), (1, .int z)] rfl ?_
  intro p e s m below meth c ls hx hb hr hml hown hts hlocks hK hN hD H locs hP hS hl
  refine lv_iconst (v := 0) hx hb dJA_fillI_0 (by decide) ?_
  refine lv_istore_n (lv' := [(2, .int 0), (0, .ref q), (1, .int z)]) hx hb dJA_fillI_1 rfl hl (by decide) rfl (fun ls hl => ?_)
  refine lv_aload_n hx hb dJA_fillI_2 rfl (lv_at hl 1 rfl) ?_
  refine va_alen hx hb hK hP q0 t0 hq ht (v := nI n) rfl dJA_fillI_3 ?_
  refine lv_istore_n (lv' := [(3, .int (nI n)), (2, .int 0), (0, .ref q), (1, .int z)]) hx hb dJA_fillI_4 rfl hl (by decide) rfl (fun ls hl => ?_)
  refine am_loop (σ := Nat) (fun k n9 H locs ls => n9 = n - k ∧ k ≤ n ∧ va_P D vwCl (w.set q0 (q, .inl (cA, n, .inl (ac_fillI z f k)))) H ∧ va_S A s.heap H locs ∧ lv_has ls 4 [(0, .ref q), (1, .int z), (2, .int (nI k)), (3, .int (nI n))]) ?_ 0 (n - 0) H locs ls ⟨rfl, Nat.zero_le _, by rw [show ac_fillI z f 0 = f from rfl, am_set_self hq]; exact hP, hS, lv_sub hl [2, 3, 1, 0] rfl⟩
  rintro k n9 H locs ls ⟨hn9, hk, hP, hS, hl⟩ ih
  have hlt : q0 < w.length := (List.getElem?_eq_some_iff.mp hq).1
  have hq1 : (w.set q0 (q, .inl (cA, n, .inl (ac_fillI z f k))))[q0]? = some (q, .inl (cA, n, .inl (ac_fillI z f k))) := List.getElem?_set_self hlt
  have hD : va_D A (w.set q0 (q, .inl (cA, n, .inl (ac_fillI z f k)))) := am_D hD (am_set_fst hq)
  refine lv_iload_n hx hb dJA_fillI_5 rfl (lv_at hl 2 rfl) ?_
  refine lv_iload_n hx hb dJA_fillI_6 rfl (lv_at hl 3 rfl) ?_
  refine lv_icmp_ge (tgt := 20) hx hb dJA_fillI_7 (by decide) (fun c_9 => ?_) (fun c_9 => ?_)
  · have hke : n ≤ k := (am_ge (rfl : nI n = nI n) (by omega) (by omega)).mp c_9
    have hkq : n = k := by omega
    subst hkq
    exact am_vretM hx hb hr hlocks hP hS dJA_fillI_20
  · have hkl : k < n := Nat.lt_of_not_le (fun z => c_9 ((am_ge (rfl : nI n = nI n) (by omega) (by omega)).mpr z))
    refine lv_aload_n hx hb dJA_fillI_10 rfl (lv_at hl 0 rfl) ?_
    refine lv_iload_n hx hb dJA_fillI_11 rfl (lv_at hl 2 rfl) ?_
    refine lv_iload_n hx hb dJA_fillI_12 rfl (lv_at hl 1 rfl) ?_
    refine am_iast hx hb hK hP hD hS q0 t0 hq1 ht k rfl hkl hn (w.set q0 (q, .inl (cA, n, .inl (ac_fillI z f (k + 1))))) (by rw [List.set_set]; rfl) dJA_fillI_13 (fun H locs hP hD hS => ?_)
    refine lv_iinc (v := nI (k + 1)) (lv' := [(2, .int (nI (k + 1))), (0, .ref q), (1, .int z), (3, .int (nI n))]) hx hb dJA_fillI_14 hl (k := 2) rfl (nI_1 k) (by decide) rfl (fun ls hl => ?_)
    refine lv_goto (tgt := 5) hx hb dJA_fillI_17 (by decide) ?_
    exact ih (k + 1) (n - (k + 1)) H locs ls (by omega) ⟨rfl, by omega, hP, hS, lv_sub hl [1, 2, 0, 3] rfl⟩
set_option maxHeartbeats 4000000 in
set_option maxRecDepth 100000 in
theorem c_X4_shareOut (l : Launch) (D : va_G) (ad : Nat → Nat) (cI cL : ClassId) (fi : Nat → Int32) (fl : Nat → Int64) (ai : Nat → Nat → Int32) (al : Nat → Nat → Int64) (A : Nat → Prop) (x : Int32) (st : Nat) (na : Nat) (hna : fi 0 = nI na) (hnl : na ≤ 10) (hst4 : st ≤ 4) : Met l yX4_shareOut wsX4_shareOut (am_rm 13 539) (va_Pc [.ref (ad 4), .int x, .int (nI st)] (am_M nwL vwCl D A (ac_w ad cI cL fi fl ai al) [(cI, .int), (cL, .long)])) (am_Ml vwCl D ((ac_try (al 8) (ai 9) x (nI st) (ac_least (al 8) x (nI st) na) na na 0 0 ((ai 21), (ai 22), (ac_fillL 0 (al 23) 4), (ac_tot (al 8) x na + 1))).2.2.2) (ac_w ad cI cL (upd (upd fi 8 x) 9 (nI st)) (vp_updL (vp_updL fl 1 ((ac_try (al 8) (ai 9) x (nI st) (ac_least (al 8) x (nI st) na) na na 0 0 ((ai 21), (ai 22), (ac_fillL 0 (al 23) 4), (ac_tot (al 8) x na + 1))).2.2.2)) 2 (ac_least (al 8) x (nI st) na)) (va_up (va_up ai 21 ((ac_try (al 8) (ai 9) x (nI st) (ac_least (al 8) x (nI st) na) na na 0 0 ((ai 21), (ai 22), (ac_fillL 0 (al 23) 4), (ac_tot (al 8) x na + 1))).1)) 22 ((ac_try (al 8) (ai 9) x (nI st) (ac_least (al 8) x (nI st) na) na na 0 0 ((ai 21), (ai 22), (ac_fillL 0 (al 23) 4), (ac_tot (al 8) x na + 1))).2.1)) (va_up al 23 ((ac_try (al 8) (ai 9) x (nI st) (ac_least (al 8) x (nI st) na) na na 0 0 ((ai 21), (ai 22), (ac_fillL 0 (al 23) 4), (ac_tot (al 8) x na + 1))).2.2.1))) A) 0 0 A := by
  refine am_startM (cc := cX4_shareOut) (maxL := 3) (ret := (some .long)) (by decide) rfl (Nat.le_of_ble_eq_true rfl) [(0, .ref (ad 4)), (1, .int x), (2, .int (nI st))] rfl ?_
  intro p e s m below meth c ls hx hb hr hml hown hts hlocks hK hN hD H locs hP hS hl
  have hown : s.vm.findClass RX4 = some m.cls := hown
  have ht := am_ht hts
  have hin_X4 : ∀ w ∈ u_ws RX4 TX4 8, w ∈ wsX4_shareOut := fun w h => List.mem_cons_of_mem _ (am_inX4 w h)
  have hf_18 := ht 157 (.fieldLink RX4 18 "ApartCost$Line" "loads" "[J") rfl
  have hf_32 := ht 158 (.fieldLink RX4 32 "ApartCost$Line" "set" "I") rfl
  have hf_36 := ht 159 (.fieldLink RX4 36 "ApartCost$Line" "stations" "I") rfl
  have hf_49 := ht 160 (.fieldLink RX4 49 "ApartCost$Line" "longest" "J") rfl
  refine lv_aload_n hx hb dX4_shareOut_0 rfl (lv_at hl 0 rfl) ?_
  refine lv_iload_n hx hb dX4_shareOut_1 rfl (lv_at hl 1 rfl) ?_
  refine va_put (D := D) (ci := 4) (v := .int x) (ty := .int) (C := RX4) (T := TX4) (N := 8) hx hb hts hin_X4 tyX4 tyX4_ok nmX4 hown hK hP hD hS 4 rfl rfl 4 (by decide) hf_32 (fun _ h9 => h9) rfl (by decide +kernel) rfl rfl (Nat.le_of_ble_eq_true rfl) dX4_shareOut_2 (fun H locs hP hD hS => ?_)
  have hP : va_P D vwCl (ac_w ad cI cL (upd fi 8 x) fl ai al) H := hP
  have hD : va_D A (ac_w ad cI cL (upd fi 8 x) fl ai al) := am_D hD rfl
  refine lv_aload_n hx hb dX4_shareOut_5 rfl (lv_at hl 0 rfl) ?_
  refine lv_iload_n hx hb dX4_shareOut_6 rfl (lv_at hl 2 rfl) ?_
  refine va_put (D := D) (ci := 4) (v := .int (nI st)) (ty := .int) (C := RX4) (T := TX4) (N := 8) hx hb hts hin_X4 tyX4 tyX4_ok nmX4 hown hK hP hD hS 4 rfl rfl 5 (by decide) hf_36 (fun _ h9 => h9) rfl (by decide +kernel) rfl rfl (Nat.le_of_ble_eq_true rfl) dX4_shareOut_7 (fun H locs hP hD hS => ?_)
  have hP : va_P D vwCl (ac_w ad cI cL (upd (upd fi 8 x) 9 (nI st)) fl ai al) H := hP
  have hD : va_D A (ac_w ad cI cL (upd (upd fi 8 x) 9 (nI st)) fl ai al) := am_D hD rfl
  refine lv_aload_n hx hb dX4_shareOut_10 rfl (lv_at hl 0 rfl) ?_
  refine am_callMv (va_runV (As := []) (rest := []) ⟨hx, hb, hml, hown, hts⟩ (c_X4_setLimits l D ad cI cL (upd (upd fi 8 x) 9 (nI st)) fl ai al A na hna hnl) (cwV 0 hts (am_gV (am_in 397 rfl) (am_in 398 rfl) (am_in 8 rfl) (am_in 34 rfl) (am_in 399 rfl)) rfl rfl rfl (by decide +kernel) ⟨by simp only [am_rm]; omega, by simp only [am_rm]; omega⟩) (am_preVM 4 4 rfl rfl rfl hP hK hN hD) rfl rfl hl.1 rfl (lv_room (Nat.le_of_ble_eq_true rfl)) dX4_shareOut_11 ⟨Nat.zero_le _, Nat.zero_le _⟩) hS (fun H locs hP hS => ?_)
  have hP : va_P D vwCl (ac_w ad cI cL (upd (upd fi 8 x) 9 (nI st)) (vp_updL (vp_updL fl 1 (ac_tot (al 8) x na + 1)) 2 (ac_least (al 8) x (nI st) na)) ai al) H := hP
  have hD : va_D A (ac_w ad cI cL (upd (upd fi 8 x) 9 (nI st)) (vp_updL (vp_updL fl 1 (ac_tot (al 8) x na + 1)) 2 (ac_least (al 8) x (nI st) na)) ai al) := am_D hD rfl
  refine lv_aload_n hx hb dX4_shareOut_14 rfl (lv_at hl 0 rfl) ?_
  refine va_get (D := D) (ci := 4) (v := .ref (ad 23)) (C := RX4) (T := TX4) (N := 8) hx hb hts hin_X4 hown hK hP 4 rfl rfl 3 (by decide) hf_18 (fun _ h9 => h9) rfl dX4_shareOut_15 ?_
  refine lv_lconst (v := 0) hx hb dX4_shareOut_18 (by decide) ?_
  refine am_callMv (va_runS (As := [.ref (ad 23), .long 0]) (rest := []) ⟨hx, hb, hml, hown, hts⟩ (c_fillJ l D A (ac_w ad cI cL (upd (upd fi 8 x) 9 (nI st)) (vp_updL (vp_updL fl 1 (ac_tot (al 8) x na + 1)) 2 (ac_least (al 8) x (nI st) na)) ai al) [(cI, .int), (cL, .long)] 23 1 (ad 23) cL 4 (al 23) 0 rfl rfl (by decide)) (va_cwS 2 hts (am_gS (am_in 401 rfl) (am_in 54 rfl) (am_in 31 rfl) (am_in 55 rfl)) rfl rfl rfl (by decide +kernel) ⟨by simp only [am_rm]; omega, by simp only [am_rm]; omega⟩) (am_preSM hP hK hN hD) rfl rfl hl.1 rfl (lv_room (Nat.le_of_ble_eq_true rfl)) dX4_shareOut_19 ⟨Nat.zero_le _, Nat.zero_le _⟩) hS (fun H locs hP hS => ?_)
  have hP : va_P D vwCl (ac_w ad cI cL (upd (upd fi 8 x) 9 (nI st)) (vp_updL (vp_updL fl 1 (ac_tot (al 8) x na + 1)) 2 (ac_least (al 8) x (nI st) na)) ai (va_up al 23 (ac_fillL 0 (al 23) 4))) H := hP
  have hD : va_D A (ac_w ad cI cL (upd (upd fi 8 x) 9 (nI st)) (vp_updL (vp_updL fl 1 (ac_tot (al 8) x na + 1)) 2 (ac_least (al 8) x (nI st) na)) ai (va_up al 23 (ac_fillL 0 (al 23) 4))) := am_D hD rfl
  refine lv_aload_n hx hb dX4_shareOut_22 rfl (lv_at hl 0 rfl) ?_
  refine lv_iconst (v := 0) hx hb dX4_shareOut_23 (by decide) ?_
  refine lv_lconst (v := 0) hx hb dX4_shareOut_24 (by decide) ?_
  refine am_callMv (va_runS (As := [.ref (ad 4), .int 0, .long 0]) (rest := []) ⟨hx, hb, hml, hown, hts⟩ (c_X4_tryFrom l D ad cI cL na na (upd (upd fi 8 x) 9 (nI st)) (vp_updL (vp_updL fl 1 (ac_tot (al 8) x na + 1)) 2 (ac_least (al 8) x (nI st) na)) ai (va_up al 23 (ac_fillL 0 (al 23) 4)) A 0 0 st hna hnl rfl hst4 (by omega)) (va_cwS 3 hts (am_gS (am_in 402 rfl) (am_in 403 rfl) (am_in 34 rfl) (am_in 404 rfl)) rfl rfl rfl (by decide +kernel) ⟨by simp only [am_rm]; omega, by simp only [am_rm]; omega⟩) (am_preSM hP hK hN hD) rfl rfl hl.1 rfl (lv_room (Nat.le_of_ble_eq_true rfl)) dX4_shareOut_25 ⟨Nat.zero_le _, Nat.zero_le _⟩) hS (fun H locs hP hS => ?_)
  have hP : va_P D vwCl (ac_w ad cI cL (upd (upd fi 8 x) 9 (nI st)) (vp_updL (vp_updL fl 1 ((ac_try (al 8) (ai 9) x (nI st) (ac_least (al 8) x (nI st) na) na na 0 0 ((ai 21), (ai 22), (ac_fillL 0 (al 23) 4), (ac_tot (al 8) x na + 1))).2.2.2)) 2 (ac_least (al 8) x (nI st) na)) (va_up (va_up ai 21 ((ac_try (al 8) (ai 9) x (nI st) (ac_least (al 8) x (nI st) na) na na 0 0 ((ai 21), (ai 22), (ac_fillL 0 (al 23) 4), (ac_tot (al 8) x na + 1))).1)) 22 ((ac_try (al 8) (ai 9) x (nI st) (ac_least (al 8) x (nI st) na) na na 0 0 ((ai 21), (ai 22), (ac_fillL 0 (al 23) 4), (ac_tot (al 8) x na + 1))).2.1)) (va_up al 23 ((ac_try (al 8) (ai 9) x (nI st) (ac_least (al 8) x (nI st) na) na na 0 0 ((ai 21), (ai 22), (ac_fillL 0 (al 23) 4), (ac_tot (al 8) x na + 1))).2.2.1))) H := hP
  have hD : va_D A (ac_w ad cI cL (upd (upd fi 8 x) 9 (nI st)) (vp_updL (vp_updL fl 1 ((ac_try (al 8) (ai 9) x (nI st) (ac_least (al 8) x (nI st) na) na na 0 0 ((ai 21), (ai 22), (ac_fillL 0 (al 23) 4), (ac_tot (al 8) x na + 1))).2.2.2)) 2 (ac_least (al 8) x (nI st) na)) (va_up (va_up ai 21 ((ac_try (al 8) (ai 9) x (nI st) (ac_least (al 8) x (nI st) na) na na 0 0 ((ai 21), (ai 22), (ac_fillL 0 (al 23) 4), (ac_tot (al 8) x na + 1))).1)) 22 ((ac_try (al 8) (ai 9) x (nI st) (ac_least (al 8) x (nI st) na) na na 0 0 ((ai 21), (ai 22), (ac_fillL 0 (al 23) 4), (ac_tot (al 8) x na + 1))).2.1)) (va_up al 23 ((ac_try (al 8) (ai 9) x (nI st) (ac_least (al 8) x (nI st) na) na na 0 0 ((ai 21), (ai 22), (ac_fillL 0 (al 23) 4), (ac_tot (al 8) x na + 1))).2.2.1))) := am_D hD rfl
  refine lv_aload_n hx hb dX4_shareOut_28 rfl (lv_at hl 0 rfl) ?_
  refine va_get (D := D) (ci := 4) (v := .long ((ac_try (al 8) (ai 9) x (nI st) (ac_least (al 8) x (nI st) na) na na 0 0 ((ai 21), (ai 22), (ac_fillL 0 (al 23) 4), (ac_tot (al 8) x na + 1))).2.2.2)) (C := RX4) (T := TX4) (N := 8) hx hb hts hin_X4 hown hK hP 4 rfl rfl 6 (by decide) hf_49 (fun _ h9 => h9) rfl dX4_shareOut_29 ?_
  exact am_lretM hx hb hr hlocks hP hS rfl dX4_shareOut_32
set_option maxHeartbeats 8000000 in
set_option maxRecDepth 100000 in
theorem c_X1_init (l : Launch) (D : va_G) (cI cL : ClassId) (h0 sz : Nat) : Met l yX1_init wsX1_init { frames := 1, cells := 11, slots := 178, locals := 24 } (va_Pc [.ref h0] (fun U => U.heap.size = sz ∧ am_M nwL vwCl D (fun _ => True) [(h0, .inr (1, [.int 0, .null, .null, .null, .null, .null, .int 0, .null, .null, .null, .null, .int 0, .null, .null]))] [(cI, .int), (cL, .long)] U)) (va_Qv (fun (u : Nat → Nat) => True) (fun u t => va_P D vwCl [(h0, .inr (1, [.int 0, .ref (u 5), .ref (u 6), .ref (u 7), .ref (u 8), .ref (u 9), .int 0, .ref (u 10), .ref (u 11), .ref (u 12), .ref (u 13), .int 0, .ref (u 14), .ref (u 15)])), ((u 5), .inl (cI, 10, .inl (fun _ => 0))), ((u 6), .inl (cI, 10, .inl (fun _ => 0))), ((u 7), .inl (cI, 10, .inl (fun _ => 0))), ((u 8), .inl (cL, 10, .inr (.inl (fun _ => 0)))), ((u 9), .inl (cI, 10, .inl (fun _ => 0))), ((u 10), .inl (cL, 36, .inr (.inl (fun _ => 0)))), ((u 11), .inl (cL, 36, .inr (.inl (fun _ => 0)))), ((u 12), .inl (cL, 12, .inr (.inl (fun _ => 0)))), ((u 13), .inl (cL, 12, .inr (.inl (ac_fillL 27720 (fun _ => 0) 12)))), ((u 14), .inl (cI, 16, .inl (fun _ => 0))), ((u 15), .inl (cL, 16, .inr (.inl (fun _ => 0))))] t.heap ∧ va_D (va_A [(h0, .inr (1, [.int 0, .null, .null, .null, .null, .null, .int 0, .null, .null, .null, .null, .int 0, .null, .null]))] sz) [(h0, .inr (1, [.int 0, .ref (u 5), .ref (u 6), .ref (u 7), .ref (u 8), .ref (u 9), .int 0, .ref (u 10), .ref (u 11), .ref (u 12), .ref (u 13), .int 0, .ref (u 14), .ref (u 15)])), ((u 5), .inl (cI, 10, .inl (fun _ => 0))), ((u 6), .inl (cI, 10, .inl (fun _ => 0))), ((u 7), .inl (cI, 10, .inl (fun _ => 0))), ((u 8), .inl (cL, 10, .inr (.inl (fun _ => 0)))), ((u 9), .inl (cI, 10, .inl (fun _ => 0))), ((u 10), .inl (cL, 36, .inr (.inl (fun _ => 0)))), ((u 11), .inl (cL, 36, .inr (.inl (fun _ => 0)))), ((u 12), .inl (cL, 12, .inr (.inl (fun _ => 0)))), ((u 13), .inl (cL, 12, .inr (.inl (ac_fillL 27720 (fun _ => 0) 12)))), ((u 14), .inl (cI, 16, .inl (fun _ => 0))), ((u 15), .inl (cL, 16, .inr (.inl (fun _ => 0))))]) (va_A [(h0, .inr (1, [.int 0, .null, .null, .null, .null, .null, .int 0, .null, .null, .null, .null, .int 0, .null, .null]))] sz)) 11 178 (va_A [(h0, .inr (1, [.int 0, .null, .null, .null, .null, .null, .int 0, .null, .null, .null, .null, .int 0, .null, .null]))] sz) := by
  refine Met.ofW (cc := cX1_init) (maxL := 1) (ret := none) (by decide) rfl ?_
  intro p e s m args below meth c s₁ B hml hv
  obtain ⟨rfl, hsz, hP, hK, hN, hD0⟩ := hv
  have hx := B.exec
  have hb := B.bytes
  have hr := B.returns
  have hts := atoms_spec (ws := wsX1_init) B.pre
  have hown : s.vm.findClass RX1 = some m.cls := findClass_of_methodNamed B.named
  have hlocks := B.notSynchronized
  have hin9 : meth.name = "<init>" := (name_of_methodNamed B.named B.method).1
  subst hsz
  have hD := hD0.self (sz := s.heap.size)
  generalize hAe : va_A [(h0, .inr (1, [.int 0, .null, .null, .null, .null, .null, .int 0, .null, .null, .null, .null, .int 0, .null, .null]))] s.heap.size = A at hD ⊢
  have hA : ∀ q : Nat, s.heap.size ≤ q → A q := fun q h => by rw [← hAe]; exact Or.inr h
  have hS : va_S A s.heap s.heap [] := va_S.rf
  have hl := lv_entry ([.ref h0]) (n := 1) (Nat.le_of_ble_eq_true rfl)
  rw [lg_entry_eq]
  generalize (lg_sl ([.ref h0]) ++ List.replicate (1 - (lg_sl ([.ref h0])).length) Slot.unset).toArray = ls at hl ⊢
  have hl : lv_has ls 1 [(0, .ref h0)] := hl
  have ht := am_ht hts
  have hin_X1 : ∀ w ∈ u_ws RX1 TX1 14, w ∈ wsX1_init := fun w h => List.mem_cons_of_mem _ (am_inX1 w h)
  have hf_15 := ht 61 (.fieldLink RX1 15 "ApartCost$Product" "tools" "[I") rfl
  have hf_18 := ht 62 (.fieldLink RX1 18 "ApartCost$Product" "sides" "[I") rfl
  have hf_21 := ht 63 (.fieldLink RX1 21 "ApartCost$Product" "cents" "[J") rfl
  have hf_25 := ht 65 (.fieldLink RX1 25 "ApartCost$Product" "needs" "[I") rfl
  have hf_28 := ht 70 (.fieldLink RX1 28 "ApartCost$Product" "changes" "[J") rfl
  have hf_31 := ht 72 (.fieldLink RX1 31 "ApartCost$Product" "turns" "[J") rfl
  have hf_34 := ht 74 (.fieldLink RX1 34 "ApartCost$Product" "worths" "[J") rfl
  have hf_37 := ht 77 (.fieldLink RX1 37 "ApartCost$Product" "shares" "[J") rfl
  have hf_40 := ht 81 (.fieldLink RX1 40 "ApartCost$Product" "restParts" "[I") rfl
  have hf_43 := ht 82 (.fieldLink RX1 43 "ApartCost$Product" "restCents" "[J") rfl
  have hf_9 := ht 60 (.fieldLink RX1 9 "ApartCost$Product" "frees" "[I") rfl
  refine lv_aload_n hx hb dX1_init_0 rfl (lv_at hl 0 rfl) ?_
  refine W.objInit hx hb hown (ht 51 _ rfl) (ht 44 _ rfl) (ht 45 _ rfl) rfl (by rw [hml]; exact hl.1) rfl dX1_init_1 (Nat.le_of_ble_eq_true rfl) (Nat.le_of_ble_eq_true rfl) ?_
  refine W.eq (g2 := F0 m 4 ls []) rfl ?_
  refine lv_aload_n hx hb dX1_init_4 rfl (lv_at hl 0 rfl) ?_
  refine lv_bipush (v := 10) hx hb dX1_init_5 (by decide) ?_
  refine am_newI hx hb (ht 98 _ rfl) hK hP hD hS hA 10 (by decide) (by decide) (by decide) (Nat.le_of_ble_eq_true rfl) (Nat.le_of_ble_eq_true rfl) dX1_init_7 (fun q7 H hP hD hS => ?_)
  have hP : va_P D vwCl [(h0, .inr (1, [.int 0, .null, .null, .null, .null, .null, .int 0, .null, .null, .null, .null, .int 0, .null, .null])), (q7, .inl (cI, 10, .inl (fun _ => 0)))] H := hP
  have hD : va_D A [(h0, .inr (1, [.int 0, .null, .null, .null, .null, .null, .int 0, .null, .null, .null, .null, .int 0, .null, .null])), (q7, .inl (cI, 10, .inl (fun _ => 0)))] := hD
  refine W.widen (k := 1) (n := 10) (by omega) (by omega) ?_
  refine va_putF (D := D) (ci := 1) (v := .ref q7) (ty := .array .int) (C := RX1) (T := TX1) (N := 14) hx hb hts hin_X1 tyX1 tyX1_ok nmX1 hown hK hP hD hS 0 rfl rfl 1 (by decide) hf_9 (fun _ h9 => h9) rfl hin9 rfl (by decide +kernel) rfl rfl (Nat.le_of_ble_eq_true rfl) dX1_init_9 (fun H locs hP hD hS => ?_)
  have hP : va_P D vwCl [(h0, .inr (1, [.int 0, .ref q7, .null, .null, .null, .null, .int 0, .null, .null, .null, .null, .int 0, .null, .null])), (q7, .inl (cI, 10, .inl (fun _ => 0)))] H := hP
  have hD : va_D A [(h0, .inr (1, [.int 0, .ref q7, .null, .null, .null, .null, .int 0, .null, .null, .null, .null, .int 0, .null, .null])), (q7, .inl (cI, 10, .inl (fun _ => 0)))] := hD
  refine lv_aload_n hx hb dX1_init_12 rfl (lv_at hl 0 rfl) ?_
  refine lv_bipush (v := 10) hx hb dX1_init_13 (by decide) ?_
  refine am_newI hx hb (ht 98 _ rfl) hK hP hD hS hA 10 (by decide) (by decide) (by decide) (Nat.le_of_ble_eq_true rfl) (Nat.le_of_ble_eq_true rfl) dX1_init_15 (fun q15 H hP hD hS => ?_)
  have hP : va_P D vwCl [(h0, .inr (1, [.int 0, .ref q7, .null, .null, .null, .null, .int 0, .null, .null, .null, .null, .int 0, .null, .null])), (q7, .inl (cI, 10, .inl (fun _ => 0))), (q15, .inl (cI, 10, .inl (fun _ => 0)))] H := hP
  have hD : va_D A [(h0, .inr (1, [.int 0, .ref q7, .null, .null, .null, .null, .int 0, .null, .null, .null, .null, .int 0, .null, .null])), (q7, .inl (cI, 10, .inl (fun _ => 0))), (q15, .inl (cI, 10, .inl (fun _ => 0)))] := hD
  refine W.widen (k := 2) (n := 20) (by omega) (by omega) ?_
  refine va_putF (D := D) (ci := 1) (v := .ref q15) (ty := .array .int) (C := RX1) (T := TX1) (N := 14) hx hb hts hin_X1 tyX1 tyX1_ok nmX1 hown hK hP hD hS 0 rfl rfl 2 (by decide) hf_15 (fun _ h9 => h9) rfl hin9 rfl (by decide +kernel) rfl rfl (Nat.le_of_ble_eq_true rfl) dX1_init_17 (fun H locs hP hD hS => ?_)
  have hP : va_P D vwCl [(h0, .inr (1, [.int 0, .ref q7, .ref q15, .null, .null, .null, .int 0, .null, .null, .null, .null, .int 0, .null, .null])), (q7, .inl (cI, 10, .inl (fun _ => 0))), (q15, .inl (cI, 10, .inl (fun _ => 0)))] H := hP
  have hD : va_D A [(h0, .inr (1, [.int 0, .ref q7, .ref q15, .null, .null, .null, .int 0, .null, .null, .null, .null, .int 0, .null, .null])), (q7, .inl (cI, 10, .inl (fun _ => 0))), (q15, .inl (cI, 10, .inl (fun _ => 0)))] := hD
  refine lv_aload_n hx hb dX1_init_20 rfl (lv_at hl 0 rfl) ?_
  refine lv_bipush (v := 10) hx hb dX1_init_21 (by decide) ?_
  refine am_newI hx hb (ht 98 _ rfl) hK hP hD hS hA 10 (by decide) (by decide) (by decide) (Nat.le_of_ble_eq_true rfl) (Nat.le_of_ble_eq_true rfl) dX1_init_23 (fun q23 H hP hD hS => ?_)
  have hP : va_P D vwCl [(h0, .inr (1, [.int 0, .ref q7, .ref q15, .null, .null, .null, .int 0, .null, .null, .null, .null, .int 0, .null, .null])), (q7, .inl (cI, 10, .inl (fun _ => 0))), (q15, .inl (cI, 10, .inl (fun _ => 0))), (q23, .inl (cI, 10, .inl (fun _ => 0)))] H := hP
  have hD : va_D A [(h0, .inr (1, [.int 0, .ref q7, .ref q15, .null, .null, .null, .int 0, .null, .null, .null, .null, .int 0, .null, .null])), (q7, .inl (cI, 10, .inl (fun _ => 0))), (q15, .inl (cI, 10, .inl (fun _ => 0))), (q23, .inl (cI, 10, .inl (fun _ => 0)))] := hD
  refine W.widen (k := 3) (n := 30) (by omega) (by omega) ?_
  refine va_putF (D := D) (ci := 1) (v := .ref q23) (ty := .array .int) (C := RX1) (T := TX1) (N := 14) hx hb hts hin_X1 tyX1 tyX1_ok nmX1 hown hK hP hD hS 0 rfl rfl 3 (by decide) hf_18 (fun _ h9 => h9) rfl hin9 rfl (by decide +kernel) rfl rfl (Nat.le_of_ble_eq_true rfl) dX1_init_25 (fun H locs hP hD hS => ?_)
  have hP : va_P D vwCl [(h0, .inr (1, [.int 0, .ref q7, .ref q15, .ref q23, .null, .null, .int 0, .null, .null, .null, .null, .int 0, .null, .null])), (q7, .inl (cI, 10, .inl (fun _ => 0))), (q15, .inl (cI, 10, .inl (fun _ => 0))), (q23, .inl (cI, 10, .inl (fun _ => 0)))] H := hP
  have hD : va_D A [(h0, .inr (1, [.int 0, .ref q7, .ref q15, .ref q23, .null, .null, .int 0, .null, .null, .null, .null, .int 0, .null, .null])), (q7, .inl (cI, 10, .inl (fun _ => 0))), (q15, .inl (cI, 10, .inl (fun _ => 0))), (q23, .inl (cI, 10, .inl (fun _ => 0)))] := hD
  refine lv_aload_n hx hb dX1_init_28 rfl (lv_at hl 0 rfl) ?_
  refine lv_bipush (v := 10) hx hb dX1_init_29 (by decide) ?_
  refine am_newL hx hb (ht 99 _ rfl) hK hP hD hS hA 10 (by decide) (by decide) (by decide) (Nat.le_of_ble_eq_true rfl) (Nat.le_of_ble_eq_true rfl) dX1_init_31 (fun q31 H hP hD hS => ?_)
  have hP : va_P D vwCl [(h0, .inr (1, [.int 0, .ref q7, .ref q15, .ref q23, .null, .null, .int 0, .null, .null, .null, .null, .int 0, .null, .null])), (q7, .inl (cI, 10, .inl (fun _ => 0))), (q15, .inl (cI, 10, .inl (fun _ => 0))), (q23, .inl (cI, 10, .inl (fun _ => 0))), (q31, .inl (cL, 10, .inr (.inl (fun _ => 0))))] H := hP
  have hD : va_D A [(h0, .inr (1, [.int 0, .ref q7, .ref q15, .ref q23, .null, .null, .int 0, .null, .null, .null, .null, .int 0, .null, .null])), (q7, .inl (cI, 10, .inl (fun _ => 0))), (q15, .inl (cI, 10, .inl (fun _ => 0))), (q23, .inl (cI, 10, .inl (fun _ => 0))), (q31, .inl (cL, 10, .inr (.inl (fun _ => 0))))] := hD
  refine W.widen (k := 4) (n := 40) (by omega) (by omega) ?_
  refine va_putF (D := D) (ci := 1) (v := .ref q31) (ty := .array .long) (C := RX1) (T := TX1) (N := 14) hx hb hts hin_X1 tyX1 tyX1_ok nmX1 hown hK hP hD hS 0 rfl rfl 4 (by decide) hf_21 (fun _ h9 => h9) rfl hin9 rfl (by decide +kernel) rfl rfl (Nat.le_of_ble_eq_true rfl) dX1_init_33 (fun H locs hP hD hS => ?_)
  have hP : va_P D vwCl [(h0, .inr (1, [.int 0, .ref q7, .ref q15, .ref q23, .ref q31, .null, .int 0, .null, .null, .null, .null, .int 0, .null, .null])), (q7, .inl (cI, 10, .inl (fun _ => 0))), (q15, .inl (cI, 10, .inl (fun _ => 0))), (q23, .inl (cI, 10, .inl (fun _ => 0))), (q31, .inl (cL, 10, .inr (.inl (fun _ => 0))))] H := hP
  have hD : va_D A [(h0, .inr (1, [.int 0, .ref q7, .ref q15, .ref q23, .ref q31, .null, .int 0, .null, .null, .null, .null, .int 0, .null, .null])), (q7, .inl (cI, 10, .inl (fun _ => 0))), (q15, .inl (cI, 10, .inl (fun _ => 0))), (q23, .inl (cI, 10, .inl (fun _ => 0))), (q31, .inl (cL, 10, .inr (.inl (fun _ => 0))))] := hD
  refine lv_aload_n hx hb dX1_init_36 rfl (lv_at hl 0 rfl) ?_
  refine lv_bipush (v := 10) hx hb dX1_init_37 (by decide) ?_
  refine am_newI hx hb (ht 98 _ rfl) hK hP hD hS hA 10 (by decide) (by decide) (by decide) (Nat.le_of_ble_eq_true rfl) (Nat.le_of_ble_eq_true rfl) dX1_init_39 (fun q39 H hP hD hS => ?_)
  have hP : va_P D vwCl [(h0, .inr (1, [.int 0, .ref q7, .ref q15, .ref q23, .ref q31, .null, .int 0, .null, .null, .null, .null, .int 0, .null, .null])), (q7, .inl (cI, 10, .inl (fun _ => 0))), (q15, .inl (cI, 10, .inl (fun _ => 0))), (q23, .inl (cI, 10, .inl (fun _ => 0))), (q31, .inl (cL, 10, .inr (.inl (fun _ => 0)))), (q39, .inl (cI, 10, .inl (fun _ => 0)))] H := hP
  have hD : va_D A [(h0, .inr (1, [.int 0, .ref q7, .ref q15, .ref q23, .ref q31, .null, .int 0, .null, .null, .null, .null, .int 0, .null, .null])), (q7, .inl (cI, 10, .inl (fun _ => 0))), (q15, .inl (cI, 10, .inl (fun _ => 0))), (q23, .inl (cI, 10, .inl (fun _ => 0))), (q31, .inl (cL, 10, .inr (.inl (fun _ => 0)))), (q39, .inl (cI, 10, .inl (fun _ => 0)))] := hD
  refine W.widen (k := 5) (n := 50) (by omega) (by omega) ?_
  refine va_putF (D := D) (ci := 1) (v := .ref q39) (ty := .array .int) (C := RX1) (T := TX1) (N := 14) hx hb hts hin_X1 tyX1 tyX1_ok nmX1 hown hK hP hD hS 0 rfl rfl 5 (by decide) hf_25 (fun _ h9 => h9) rfl hin9 rfl (by decide +kernel) rfl rfl (Nat.le_of_ble_eq_true rfl) dX1_init_41 (fun H locs hP hD hS => ?_)
  have hP : va_P D vwCl [(h0, .inr (1, [.int 0, .ref q7, .ref q15, .ref q23, .ref q31, .ref q39, .int 0, .null, .null, .null, .null, .int 0, .null, .null])), (q7, .inl (cI, 10, .inl (fun _ => 0))), (q15, .inl (cI, 10, .inl (fun _ => 0))), (q23, .inl (cI, 10, .inl (fun _ => 0))), (q31, .inl (cL, 10, .inr (.inl (fun _ => 0)))), (q39, .inl (cI, 10, .inl (fun _ => 0)))] H := hP
  have hD : va_D A [(h0, .inr (1, [.int 0, .ref q7, .ref q15, .ref q23, .ref q31, .ref q39, .int 0, .null, .null, .null, .null, .int 0, .null, .null])), (q7, .inl (cI, 10, .inl (fun _ => 0))), (q15, .inl (cI, 10, .inl (fun _ => 0))), (q23, .inl (cI, 10, .inl (fun _ => 0))), (q31, .inl (cL, 10, .inr (.inl (fun _ => 0)))), (q39, .inl (cI, 10, .inl (fun _ => 0)))] := hD
  refine lv_aload_n hx hb dX1_init_44 rfl (lv_at hl 0 rfl) ?_
  refine lv_bipush (v := 36) hx hb dX1_init_45 (by decide) ?_
  refine am_newL hx hb (ht 99 _ rfl) hK hP hD hS hA 36 (by decide) (by decide) (by decide) (Nat.le_of_ble_eq_true rfl) (Nat.le_of_ble_eq_true rfl) dX1_init_47 (fun q47 H hP hD hS => ?_)
  have hP : va_P D vwCl [(h0, .inr (1, [.int 0, .ref q7, .ref q15, .ref q23, .ref q31, .ref q39, .int 0, .null, .null, .null, .null, .int 0, .null, .null])), (q7, .inl (cI, 10, .inl (fun _ => 0))), (q15, .inl (cI, 10, .inl (fun _ => 0))), (q23, .inl (cI, 10, .inl (fun _ => 0))), (q31, .inl (cL, 10, .inr (.inl (fun _ => 0)))), (q39, .inl (cI, 10, .inl (fun _ => 0))), (q47, .inl (cL, 36, .inr (.inl (fun _ => 0))))] H := hP
  have hD : va_D A [(h0, .inr (1, [.int 0, .ref q7, .ref q15, .ref q23, .ref q31, .ref q39, .int 0, .null, .null, .null, .null, .int 0, .null, .null])), (q7, .inl (cI, 10, .inl (fun _ => 0))), (q15, .inl (cI, 10, .inl (fun _ => 0))), (q23, .inl (cI, 10, .inl (fun _ => 0))), (q31, .inl (cL, 10, .inr (.inl (fun _ => 0)))), (q39, .inl (cI, 10, .inl (fun _ => 0))), (q47, .inl (cL, 36, .inr (.inl (fun _ => 0))))] := hD
  refine W.widen (k := 6) (n := 86) (by omega) (by omega) ?_
  refine va_putF (D := D) (ci := 1) (v := .ref q47) (ty := .array .long) (C := RX1) (T := TX1) (N := 14) hx hb hts hin_X1 tyX1 tyX1_ok nmX1 hown hK hP hD hS 0 rfl rfl 7 (by decide) hf_28 (fun _ h9 => h9) rfl hin9 rfl (by decide +kernel) rfl rfl (Nat.le_of_ble_eq_true rfl) dX1_init_49 (fun H locs hP hD hS => ?_)
  have hP : va_P D vwCl [(h0, .inr (1, [.int 0, .ref q7, .ref q15, .ref q23, .ref q31, .ref q39, .int 0, .ref q47, .null, .null, .null, .int 0, .null, .null])), (q7, .inl (cI, 10, .inl (fun _ => 0))), (q15, .inl (cI, 10, .inl (fun _ => 0))), (q23, .inl (cI, 10, .inl (fun _ => 0))), (q31, .inl (cL, 10, .inr (.inl (fun _ => 0)))), (q39, .inl (cI, 10, .inl (fun _ => 0))), (q47, .inl (cL, 36, .inr (.inl (fun _ => 0))))] H := hP
  have hD : va_D A [(h0, .inr (1, [.int 0, .ref q7, .ref q15, .ref q23, .ref q31, .ref q39, .int 0, .ref q47, .null, .null, .null, .int 0, .null, .null])), (q7, .inl (cI, 10, .inl (fun _ => 0))), (q15, .inl (cI, 10, .inl (fun _ => 0))), (q23, .inl (cI, 10, .inl (fun _ => 0))), (q31, .inl (cL, 10, .inr (.inl (fun _ => 0)))), (q39, .inl (cI, 10, .inl (fun _ => 0))), (q47, .inl (cL, 36, .inr (.inl (fun _ => 0))))] := hD
  refine lv_aload_n hx hb dX1_init_52 rfl (lv_at hl 0 rfl) ?_
  refine lv_bipush (v := 36) hx hb dX1_init_53 (by decide) ?_
  refine am_newL hx hb (ht 99 _ rfl) hK hP hD hS hA 36 (by decide) (by decide) (by decide) (Nat.le_of_ble_eq_true rfl) (Nat.le_of_ble_eq_true rfl) dX1_init_55 (fun q55 H hP hD hS => ?_)
  have hP : va_P D vwCl [(h0, .inr (1, [.int 0, .ref q7, .ref q15, .ref q23, .ref q31, .ref q39, .int 0, .ref q47, .null, .null, .null, .int 0, .null, .null])), (q7, .inl (cI, 10, .inl (fun _ => 0))), (q15, .inl (cI, 10, .inl (fun _ => 0))), (q23, .inl (cI, 10, .inl (fun _ => 0))), (q31, .inl (cL, 10, .inr (.inl (fun _ => 0)))), (q39, .inl (cI, 10, .inl (fun _ => 0))), (q47, .inl (cL, 36, .inr (.inl (fun _ => 0)))), (q55, .inl (cL, 36, .inr (.inl (fun _ => 0))))] H := hP
  have hD : va_D A [(h0, .inr (1, [.int 0, .ref q7, .ref q15, .ref q23, .ref q31, .ref q39, .int 0, .ref q47, .null, .null, .null, .int 0, .null, .null])), (q7, .inl (cI, 10, .inl (fun _ => 0))), (q15, .inl (cI, 10, .inl (fun _ => 0))), (q23, .inl (cI, 10, .inl (fun _ => 0))), (q31, .inl (cL, 10, .inr (.inl (fun _ => 0)))), (q39, .inl (cI, 10, .inl (fun _ => 0))), (q47, .inl (cL, 36, .inr (.inl (fun _ => 0)))), (q55, .inl (cL, 36, .inr (.inl (fun _ => 0))))] := hD
  refine W.widen (k := 7) (n := 122) (by omega) (by omega) ?_
  refine va_putF (D := D) (ci := 1) (v := .ref q55) (ty := .array .long) (C := RX1) (T := TX1) (N := 14) hx hb hts hin_X1 tyX1 tyX1_ok nmX1 hown hK hP hD hS 0 rfl rfl 8 (by decide) hf_31 (fun _ h9 => h9) rfl hin9 rfl (by decide +kernel) rfl rfl (Nat.le_of_ble_eq_true rfl) dX1_init_57 (fun H locs hP hD hS => ?_)
  have hP : va_P D vwCl [(h0, .inr (1, [.int 0, .ref q7, .ref q15, .ref q23, .ref q31, .ref q39, .int 0, .ref q47, .ref q55, .null, .null, .int 0, .null, .null])), (q7, .inl (cI, 10, .inl (fun _ => 0))), (q15, .inl (cI, 10, .inl (fun _ => 0))), (q23, .inl (cI, 10, .inl (fun _ => 0))), (q31, .inl (cL, 10, .inr (.inl (fun _ => 0)))), (q39, .inl (cI, 10, .inl (fun _ => 0))), (q47, .inl (cL, 36, .inr (.inl (fun _ => 0)))), (q55, .inl (cL, 36, .inr (.inl (fun _ => 0))))] H := hP
  have hD : va_D A [(h0, .inr (1, [.int 0, .ref q7, .ref q15, .ref q23, .ref q31, .ref q39, .int 0, .ref q47, .ref q55, .null, .null, .int 0, .null, .null])), (q7, .inl (cI, 10, .inl (fun _ => 0))), (q15, .inl (cI, 10, .inl (fun _ => 0))), (q23, .inl (cI, 10, .inl (fun _ => 0))), (q31, .inl (cL, 10, .inr (.inl (fun _ => 0)))), (q39, .inl (cI, 10, .inl (fun _ => 0))), (q47, .inl (cL, 36, .inr (.inl (fun _ => 0)))), (q55, .inl (cL, 36, .inr (.inl (fun _ => 0))))] := hD
  refine lv_aload_n hx hb dX1_init_60 rfl (lv_at hl 0 rfl) ?_
  refine lv_bipush (v := 12) hx hb dX1_init_61 (by decide) ?_
  refine am_newL hx hb (ht 99 _ rfl) hK hP hD hS hA 12 (by decide) (by decide) (by decide) (Nat.le_of_ble_eq_true rfl) (Nat.le_of_ble_eq_true rfl) dX1_init_63 (fun q63 H hP hD hS => ?_)
  have hP : va_P D vwCl [(h0, .inr (1, [.int 0, .ref q7, .ref q15, .ref q23, .ref q31, .ref q39, .int 0, .ref q47, .ref q55, .null, .null, .int 0, .null, .null])), (q7, .inl (cI, 10, .inl (fun _ => 0))), (q15, .inl (cI, 10, .inl (fun _ => 0))), (q23, .inl (cI, 10, .inl (fun _ => 0))), (q31, .inl (cL, 10, .inr (.inl (fun _ => 0)))), (q39, .inl (cI, 10, .inl (fun _ => 0))), (q47, .inl (cL, 36, .inr (.inl (fun _ => 0)))), (q55, .inl (cL, 36, .inr (.inl (fun _ => 0)))), (q63, .inl (cL, 12, .inr (.inl (fun _ => 0))))] H := hP
  have hD : va_D A [(h0, .inr (1, [.int 0, .ref q7, .ref q15, .ref q23, .ref q31, .ref q39, .int 0, .ref q47, .ref q55, .null, .null, .int 0, .null, .null])), (q7, .inl (cI, 10, .inl (fun _ => 0))), (q15, .inl (cI, 10, .inl (fun _ => 0))), (q23, .inl (cI, 10, .inl (fun _ => 0))), (q31, .inl (cL, 10, .inr (.inl (fun _ => 0)))), (q39, .inl (cI, 10, .inl (fun _ => 0))), (q47, .inl (cL, 36, .inr (.inl (fun _ => 0)))), (q55, .inl (cL, 36, .inr (.inl (fun _ => 0)))), (q63, .inl (cL, 12, .inr (.inl (fun _ => 0))))] := hD
  refine W.widen (k := 8) (n := 134) (by omega) (by omega) ?_
  refine va_putF (D := D) (ci := 1) (v := .ref q63) (ty := .array .long) (C := RX1) (T := TX1) (N := 14) hx hb hts hin_X1 tyX1 tyX1_ok nmX1 hown hK hP hD hS 0 rfl rfl 9 (by decide) hf_34 (fun _ h9 => h9) rfl hin9 rfl (by decide +kernel) rfl rfl (Nat.le_of_ble_eq_true rfl) dX1_init_65 (fun H locs hP hD hS => ?_)
  have hP : va_P D vwCl [(h0, .inr (1, [.int 0, .ref q7, .ref q15, .ref q23, .ref q31, .ref q39, .int 0, .ref q47, .ref q55, .ref q63, .null, .int 0, .null, .null])), (q7, .inl (cI, 10, .inl (fun _ => 0))), (q15, .inl (cI, 10, .inl (fun _ => 0))), (q23, .inl (cI, 10, .inl (fun _ => 0))), (q31, .inl (cL, 10, .inr (.inl (fun _ => 0)))), (q39, .inl (cI, 10, .inl (fun _ => 0))), (q47, .inl (cL, 36, .inr (.inl (fun _ => 0)))), (q55, .inl (cL, 36, .inr (.inl (fun _ => 0)))), (q63, .inl (cL, 12, .inr (.inl (fun _ => 0))))] H := hP
  have hD : va_D A [(h0, .inr (1, [.int 0, .ref q7, .ref q15, .ref q23, .ref q31, .ref q39, .int 0, .ref q47, .ref q55, .ref q63, .null, .int 0, .null, .null])), (q7, .inl (cI, 10, .inl (fun _ => 0))), (q15, .inl (cI, 10, .inl (fun _ => 0))), (q23, .inl (cI, 10, .inl (fun _ => 0))), (q31, .inl (cL, 10, .inr (.inl (fun _ => 0)))), (q39, .inl (cI, 10, .inl (fun _ => 0))), (q47, .inl (cL, 36, .inr (.inl (fun _ => 0)))), (q55, .inl (cL, 36, .inr (.inl (fun _ => 0)))), (q63, .inl (cL, 12, .inr (.inl (fun _ => 0))))] := hD
  refine lv_aload_n hx hb dX1_init_68 rfl (lv_at hl 0 rfl) ?_
  refine lv_bipush (v := 12) hx hb dX1_init_69 (by decide) ?_
  refine am_newL hx hb (ht 99 _ rfl) hK hP hD hS hA 12 (by decide) (by decide) (by decide) (Nat.le_of_ble_eq_true rfl) (Nat.le_of_ble_eq_true rfl) dX1_init_71 (fun q71 H hP hD hS => ?_)
  have hP : va_P D vwCl [(h0, .inr (1, [.int 0, .ref q7, .ref q15, .ref q23, .ref q31, .ref q39, .int 0, .ref q47, .ref q55, .ref q63, .null, .int 0, .null, .null])), (q7, .inl (cI, 10, .inl (fun _ => 0))), (q15, .inl (cI, 10, .inl (fun _ => 0))), (q23, .inl (cI, 10, .inl (fun _ => 0))), (q31, .inl (cL, 10, .inr (.inl (fun _ => 0)))), (q39, .inl (cI, 10, .inl (fun _ => 0))), (q47, .inl (cL, 36, .inr (.inl (fun _ => 0)))), (q55, .inl (cL, 36, .inr (.inl (fun _ => 0)))), (q63, .inl (cL, 12, .inr (.inl (fun _ => 0)))), (q71, .inl (cL, 12, .inr (.inl (fun _ => 0))))] H := hP
  have hD : va_D A [(h0, .inr (1, [.int 0, .ref q7, .ref q15, .ref q23, .ref q31, .ref q39, .int 0, .ref q47, .ref q55, .ref q63, .null, .int 0, .null, .null])), (q7, .inl (cI, 10, .inl (fun _ => 0))), (q15, .inl (cI, 10, .inl (fun _ => 0))), (q23, .inl (cI, 10, .inl (fun _ => 0))), (q31, .inl (cL, 10, .inr (.inl (fun _ => 0)))), (q39, .inl (cI, 10, .inl (fun _ => 0))), (q47, .inl (cL, 36, .inr (.inl (fun _ => 0)))), (q55, .inl (cL, 36, .inr (.inl (fun _ => 0)))), (q63, .inl (cL, 12, .inr (.inl (fun _ => 0)))), (q71, .inl (cL, 12, .inr (.inl (fun _ => 0))))] := hD
  refine W.widen (k := 9) (n := 146) (by omega) (by omega) ?_
  refine va_putF (D := D) (ci := 1) (v := .ref q71) (ty := .array .long) (C := RX1) (T := TX1) (N := 14) hx hb hts hin_X1 tyX1 tyX1_ok nmX1 hown hK hP hD hS 0 rfl rfl 10 (by decide) hf_37 (fun _ h9 => h9) rfl hin9 rfl (by decide +kernel) rfl rfl (Nat.le_of_ble_eq_true rfl) dX1_init_73 (fun H locs hP hD hS => ?_)
  have hP : va_P D vwCl [(h0, .inr (1, [.int 0, .ref q7, .ref q15, .ref q23, .ref q31, .ref q39, .int 0, .ref q47, .ref q55, .ref q63, .ref q71, .int 0, .null, .null])), (q7, .inl (cI, 10, .inl (fun _ => 0))), (q15, .inl (cI, 10, .inl (fun _ => 0))), (q23, .inl (cI, 10, .inl (fun _ => 0))), (q31, .inl (cL, 10, .inr (.inl (fun _ => 0)))), (q39, .inl (cI, 10, .inl (fun _ => 0))), (q47, .inl (cL, 36, .inr (.inl (fun _ => 0)))), (q55, .inl (cL, 36, .inr (.inl (fun _ => 0)))), (q63, .inl (cL, 12, .inr (.inl (fun _ => 0)))), (q71, .inl (cL, 12, .inr (.inl (fun _ => 0))))] H := hP
  have hD : va_D A [(h0, .inr (1, [.int 0, .ref q7, .ref q15, .ref q23, .ref q31, .ref q39, .int 0, .ref q47, .ref q55, .ref q63, .ref q71, .int 0, .null, .null])), (q7, .inl (cI, 10, .inl (fun _ => 0))), (q15, .inl (cI, 10, .inl (fun _ => 0))), (q23, .inl (cI, 10, .inl (fun _ => 0))), (q31, .inl (cL, 10, .inr (.inl (fun _ => 0)))), (q39, .inl (cI, 10, .inl (fun _ => 0))), (q47, .inl (cL, 36, .inr (.inl (fun _ => 0)))), (q55, .inl (cL, 36, .inr (.inl (fun _ => 0)))), (q63, .inl (cL, 12, .inr (.inl (fun _ => 0)))), (q71, .inl (cL, 12, .inr (.inl (fun _ => 0))))] := hD
  refine lv_aload_n hx hb dX1_init_76 rfl (lv_at hl 0 rfl) ?_
  refine lv_bipush (v := 16) hx hb dX1_init_77 (by decide) ?_
  refine am_newI hx hb (ht 98 _ rfl) hK hP hD hS hA 16 (by decide) (by decide) (by decide) (Nat.le_of_ble_eq_true rfl) (Nat.le_of_ble_eq_true rfl) dX1_init_79 (fun q79 H hP hD hS => ?_)
  have hP : va_P D vwCl [(h0, .inr (1, [.int 0, .ref q7, .ref q15, .ref q23, .ref q31, .ref q39, .int 0, .ref q47, .ref q55, .ref q63, .ref q71, .int 0, .null, .null])), (q7, .inl (cI, 10, .inl (fun _ => 0))), (q15, .inl (cI, 10, .inl (fun _ => 0))), (q23, .inl (cI, 10, .inl (fun _ => 0))), (q31, .inl (cL, 10, .inr (.inl (fun _ => 0)))), (q39, .inl (cI, 10, .inl (fun _ => 0))), (q47, .inl (cL, 36, .inr (.inl (fun _ => 0)))), (q55, .inl (cL, 36, .inr (.inl (fun _ => 0)))), (q63, .inl (cL, 12, .inr (.inl (fun _ => 0)))), (q71, .inl (cL, 12, .inr (.inl (fun _ => 0)))), (q79, .inl (cI, 16, .inl (fun _ => 0)))] H := hP
  have hD : va_D A [(h0, .inr (1, [.int 0, .ref q7, .ref q15, .ref q23, .ref q31, .ref q39, .int 0, .ref q47, .ref q55, .ref q63, .ref q71, .int 0, .null, .null])), (q7, .inl (cI, 10, .inl (fun _ => 0))), (q15, .inl (cI, 10, .inl (fun _ => 0))), (q23, .inl (cI, 10, .inl (fun _ => 0))), (q31, .inl (cL, 10, .inr (.inl (fun _ => 0)))), (q39, .inl (cI, 10, .inl (fun _ => 0))), (q47, .inl (cL, 36, .inr (.inl (fun _ => 0)))), (q55, .inl (cL, 36, .inr (.inl (fun _ => 0)))), (q63, .inl (cL, 12, .inr (.inl (fun _ => 0)))), (q71, .inl (cL, 12, .inr (.inl (fun _ => 0)))), (q79, .inl (cI, 16, .inl (fun _ => 0)))] := hD
  refine W.widen (k := 10) (n := 162) (by omega) (by omega) ?_
  refine va_putF (D := D) (ci := 1) (v := .ref q79) (ty := .array .int) (C := RX1) (T := TX1) (N := 14) hx hb hts hin_X1 tyX1 tyX1_ok nmX1 hown hK hP hD hS 0 rfl rfl 12 (by decide) hf_40 (fun _ h9 => h9) rfl hin9 rfl (by decide +kernel) rfl rfl (Nat.le_of_ble_eq_true rfl) dX1_init_81 (fun H locs hP hD hS => ?_)
  have hP : va_P D vwCl [(h0, .inr (1, [.int 0, .ref q7, .ref q15, .ref q23, .ref q31, .ref q39, .int 0, .ref q47, .ref q55, .ref q63, .ref q71, .int 0, .ref q79, .null])), (q7, .inl (cI, 10, .inl (fun _ => 0))), (q15, .inl (cI, 10, .inl (fun _ => 0))), (q23, .inl (cI, 10, .inl (fun _ => 0))), (q31, .inl (cL, 10, .inr (.inl (fun _ => 0)))), (q39, .inl (cI, 10, .inl (fun _ => 0))), (q47, .inl (cL, 36, .inr (.inl (fun _ => 0)))), (q55, .inl (cL, 36, .inr (.inl (fun _ => 0)))), (q63, .inl (cL, 12, .inr (.inl (fun _ => 0)))), (q71, .inl (cL, 12, .inr (.inl (fun _ => 0)))), (q79, .inl (cI, 16, .inl (fun _ => 0)))] H := hP
  have hD : va_D A [(h0, .inr (1, [.int 0, .ref q7, .ref q15, .ref q23, .ref q31, .ref q39, .int 0, .ref q47, .ref q55, .ref q63, .ref q71, .int 0, .ref q79, .null])), (q7, .inl (cI, 10, .inl (fun _ => 0))), (q15, .inl (cI, 10, .inl (fun _ => 0))), (q23, .inl (cI, 10, .inl (fun _ => 0))), (q31, .inl (cL, 10, .inr (.inl (fun _ => 0)))), (q39, .inl (cI, 10, .inl (fun _ => 0))), (q47, .inl (cL, 36, .inr (.inl (fun _ => 0)))), (q55, .inl (cL, 36, .inr (.inl (fun _ => 0)))), (q63, .inl (cL, 12, .inr (.inl (fun _ => 0)))), (q71, .inl (cL, 12, .inr (.inl (fun _ => 0)))), (q79, .inl (cI, 16, .inl (fun _ => 0)))] := hD
  refine lv_aload_n hx hb dX1_init_84 rfl (lv_at hl 0 rfl) ?_
  refine lv_bipush (v := 16) hx hb dX1_init_85 (by decide) ?_
  refine am_newL hx hb (ht 99 _ rfl) hK hP hD hS hA 16 (by decide) (by decide) (by decide) (Nat.le_of_ble_eq_true rfl) (Nat.le_of_ble_eq_true rfl) dX1_init_87 (fun q87 H hP hD hS => ?_)
  have hP : va_P D vwCl [(h0, .inr (1, [.int 0, .ref q7, .ref q15, .ref q23, .ref q31, .ref q39, .int 0, .ref q47, .ref q55, .ref q63, .ref q71, .int 0, .ref q79, .null])), (q7, .inl (cI, 10, .inl (fun _ => 0))), (q15, .inl (cI, 10, .inl (fun _ => 0))), (q23, .inl (cI, 10, .inl (fun _ => 0))), (q31, .inl (cL, 10, .inr (.inl (fun _ => 0)))), (q39, .inl (cI, 10, .inl (fun _ => 0))), (q47, .inl (cL, 36, .inr (.inl (fun _ => 0)))), (q55, .inl (cL, 36, .inr (.inl (fun _ => 0)))), (q63, .inl (cL, 12, .inr (.inl (fun _ => 0)))), (q71, .inl (cL, 12, .inr (.inl (fun _ => 0)))), (q79, .inl (cI, 16, .inl (fun _ => 0))), (q87, .inl (cL, 16, .inr (.inl (fun _ => 0))))] H := hP
  have hD : va_D A [(h0, .inr (1, [.int 0, .ref q7, .ref q15, .ref q23, .ref q31, .ref q39, .int 0, .ref q47, .ref q55, .ref q63, .ref q71, .int 0, .ref q79, .null])), (q7, .inl (cI, 10, .inl (fun _ => 0))), (q15, .inl (cI, 10, .inl (fun _ => 0))), (q23, .inl (cI, 10, .inl (fun _ => 0))), (q31, .inl (cL, 10, .inr (.inl (fun _ => 0)))), (q39, .inl (cI, 10, .inl (fun _ => 0))), (q47, .inl (cL, 36, .inr (.inl (fun _ => 0)))), (q55, .inl (cL, 36, .inr (.inl (fun _ => 0)))), (q63, .inl (cL, 12, .inr (.inl (fun _ => 0)))), (q71, .inl (cL, 12, .inr (.inl (fun _ => 0)))), (q79, .inl (cI, 16, .inl (fun _ => 0))), (q87, .inl (cL, 16, .inr (.inl (fun _ => 0))))] := hD
  refine W.widen (k := 11) (n := 178) (by omega) (by omega) ?_
  refine va_putF (D := D) (ci := 1) (v := .ref q87) (ty := .array .long) (C := RX1) (T := TX1) (N := 14) hx hb hts hin_X1 tyX1 tyX1_ok nmX1 hown hK hP hD hS 0 rfl rfl 13 (by decide) hf_43 (fun _ h9 => h9) rfl hin9 rfl (by decide +kernel) rfl rfl (Nat.le_of_ble_eq_true rfl) dX1_init_89 (fun H locs hP hD hS => ?_)
  have hP : va_P D vwCl [(h0, .inr (1, [.int 0, .ref q7, .ref q15, .ref q23, .ref q31, .ref q39, .int 0, .ref q47, .ref q55, .ref q63, .ref q71, .int 0, .ref q79, .ref q87])), (q7, .inl (cI, 10, .inl (fun _ => 0))), (q15, .inl (cI, 10, .inl (fun _ => 0))), (q23, .inl (cI, 10, .inl (fun _ => 0))), (q31, .inl (cL, 10, .inr (.inl (fun _ => 0)))), (q39, .inl (cI, 10, .inl (fun _ => 0))), (q47, .inl (cL, 36, .inr (.inl (fun _ => 0)))), (q55, .inl (cL, 36, .inr (.inl (fun _ => 0)))), (q63, .inl (cL, 12, .inr (.inl (fun _ => 0)))), (q71, .inl (cL, 12, .inr (.inl (fun _ => 0)))), (q79, .inl (cI, 16, .inl (fun _ => 0))), (q87, .inl (cL, 16, .inr (.inl (fun _ => 0))))] H := hP
  have hD : va_D A [(h0, .inr (1, [.int 0, .ref q7, .ref q15, .ref q23, .ref q31, .ref q39, .int 0, .ref q47, .ref q55, .ref q63, .ref q71, .int 0, .ref q79, .ref q87])), (q7, .inl (cI, 10, .inl (fun _ => 0))), (q15, .inl (cI, 10, .inl (fun _ => 0))), (q23, .inl (cI, 10, .inl (fun _ => 0))), (q31, .inl (cL, 10, .inr (.inl (fun _ => 0)))), (q39, .inl (cI, 10, .inl (fun _ => 0))), (q47, .inl (cL, 36, .inr (.inl (fun _ => 0)))), (q55, .inl (cL, 36, .inr (.inl (fun _ => 0)))), (q63, .inl (cL, 12, .inr (.inl (fun _ => 0)))), (q71, .inl (cL, 12, .inr (.inl (fun _ => 0)))), (q79, .inl (cI, 16, .inl (fun _ => 0))), (q87, .inl (cL, 16, .inr (.inl (fun _ => 0))))] := hD
  refine lv_aload_n hx hb dX1_init_92 rfl (lv_at hl 0 rfl) ?_
  refine va_get (D := D) (ci := 1) (v := .ref q71) (C := RX1) (T := TX1) (N := 14) hx hb hts hin_X1 hown hK hP 0 rfl rfl 10 (by decide) hf_37 (fun _ h9 => h9) rfl dX1_init_93 ?_
  refine lv_ldc2 (v := 27720) hx hb hown (ht 52 _ rfl) dX1_init_96 ?_
  refine am_callMv (va_runS (As := [.ref q71, .long 27720]) (rest := []) ⟨hx, hb, hml, hown, hts⟩ (c_fillJ l D A [(h0, .inr (1, [.int 0, .ref q7, .ref q15, .ref q23, .ref q31, .ref q39, .int 0, .ref q47, .ref q55, .ref q63, .ref q71, .int 0, .ref q79, .ref q87])), (q7, .inl (cI, 10, .inl (fun _ => 0))), (q15, .inl (cI, 10, .inl (fun _ => 0))), (q23, .inl (cI, 10, .inl (fun _ => 0))), (q31, .inl (cL, 10, .inr (.inl (fun _ => 0)))), (q39, .inl (cI, 10, .inl (fun _ => 0))), (q47, .inl (cL, 36, .inr (.inl (fun _ => 0)))), (q55, .inl (cL, 36, .inr (.inl (fun _ => 0)))), (q63, .inl (cL, 12, .inr (.inl (fun _ => 0)))), (q71, .inl (cL, 12, .inr (.inl (fun _ => 0)))), (q79, .inl (cI, 16, .inl (fun _ => 0))), (q87, .inl (cL, 16, .inr (.inl (fun _ => 0))))] [(cI, .int), (cL, .long)] 9 1 q71 cL 12 (fun _ => 0) 27720 rfl rfl (by decide)) (va_cwS 2 hts (am_gS (am_in 53 rfl) (am_in 54 rfl) (am_in 31 rfl) (am_in 55 rfl)) rfl rfl rfl (by decide +kernel) ⟨Nat.le_of_ble_eq_true rfl, Nat.le_of_ble_eq_true rfl⟩) (am_preSM hP hK hN hD) rfl rfl hl.1 rfl (lv_room (Nat.le_of_ble_eq_true rfl)) dX1_init_99 ⟨Nat.le_of_ble_eq_true rfl, Nat.le_of_ble_eq_true rfl⟩) hS (fun H locs hP hS => ?_)
  have hP : va_P D vwCl [(h0, .inr (1, [.int 0, .ref q7, .ref q15, .ref q23, .ref q31, .ref q39, .int 0, .ref q47, .ref q55, .ref q63, .ref q71, .int 0, .ref q79, .ref q87])), (q7, .inl (cI, 10, .inl (fun _ => 0))), (q15, .inl (cI, 10, .inl (fun _ => 0))), (q23, .inl (cI, 10, .inl (fun _ => 0))), (q31, .inl (cL, 10, .inr (.inl (fun _ => 0)))), (q39, .inl (cI, 10, .inl (fun _ => 0))), (q47, .inl (cL, 36, .inr (.inl (fun _ => 0)))), (q55, .inl (cL, 36, .inr (.inl (fun _ => 0)))), (q63, .inl (cL, 12, .inr (.inl (fun _ => 0)))), (q71, .inl (cL, 12, .inr (.inl (ac_fillL 27720 (fun _ => 0) 12)))), (q79, .inl (cI, 16, .inl (fun _ => 0))), (q87, .inl (cL, 16, .inr (.inl (fun _ => 0))))] H := hP
  have hD : va_D A [(h0, .inr (1, [.int 0, .ref q7, .ref q15, .ref q23, .ref q31, .ref q39, .int 0, .ref q47, .ref q55, .ref q63, .ref q71, .int 0, .ref q79, .ref q87])), (q7, .inl (cI, 10, .inl (fun _ => 0))), (q15, .inl (cI, 10, .inl (fun _ => 0))), (q23, .inl (cI, 10, .inl (fun _ => 0))), (q31, .inl (cL, 10, .inr (.inl (fun _ => 0)))), (q39, .inl (cI, 10, .inl (fun _ => 0))), (q47, .inl (cL, 36, .inr (.inl (fun _ => 0)))), (q55, .inl (cL, 36, .inr (.inl (fun _ => 0)))), (q63, .inl (cL, 12, .inr (.inl (fun _ => 0)))), (q71, .inl (cL, 12, .inr (.inl (ac_fillL 27720 (fun _ => 0) 12)))), (q79, .inl (cI, 16, .inl (fun _ => 0))), (q87, .inl (cL, 16, .inr (.inl (fun _ => 0))))] := am_D hD rfl
  have hP9 := hP.sub (ws' := [(h0, .inr (1, [.int 0, .ref q7, .ref q15, .ref q23, .ref q31, .ref q39, .int 0, .ref q47, .ref q55, .ref q63, .ref q71, .int 0, .ref q79, .ref q87])), (q7, .inl (cI, 10, .inl (fun _ => 0))), (q15, .inl (cI, 10, .inl (fun _ => 0))), (q23, .inl (cI, 10, .inl (fun _ => 0))), (q31, .inl (cL, 10, .inr (.inl (fun _ => 0)))), (q39, .inl (cI, 10, .inl (fun _ => 0))), (q47, .inl (cL, 36, .inr (.inl (fun _ => 0)))), (q55, .inl (cL, 36, .inr (.inl (fun _ => 0)))), (q63, .inl (cL, 12, .inr (.inl (fun _ => 0)))), (q71, .inl (cL, 12, .inr (.inl (ac_fillL 27720 (fun _ => 0) 12)))), (q79, .inl (cI, 16, .inl (fun _ => 0))), (q87, .inl (cL, 16, .inr (.inl (fun _ => 0))))]) [0, 1, 2, 3, 4, 5, 6, 7, 8, 9, 10, 11] rfl
  have hD9 := hD.sub (ws' := [(h0, .inr (1, [.int 0, .ref q7, .ref q15, .ref q23, .ref q31, .ref q39, .int 0, .ref q47, .ref q55, .ref q63, .ref q71, .int 0, .ref q79, .ref q87])), (q7, .inl (cI, 10, .inl (fun _ => 0))), (q15, .inl (cI, 10, .inl (fun _ => 0))), (q23, .inl (cI, 10, .inl (fun _ => 0))), (q31, .inl (cL, 10, .inr (.inl (fun _ => 0)))), (q39, .inl (cI, 10, .inl (fun _ => 0))), (q47, .inl (cL, 36, .inr (.inl (fun _ => 0)))), (q55, .inl (cL, 36, .inr (.inl (fun _ => 0)))), (q63, .inl (cL, 12, .inr (.inl (fun _ => 0)))), (q71, .inl (cL, 12, .inr (.inl (ac_fillL 27720 (fun _ => 0) 12)))), (q79, .inl (cI, 16, .inl (fun _ => 0))), (q87, .inl (cL, 16, .inr (.inl (fun _ => 0))))]) [0, 1, 2, 3, 4, 5, 6, 7, 8, 9, 10, 11] (by decide) rfl
  exact W.vret hx hb hr (fun t ht _ => ⟨⟨(fun k => if k = 5 then q7 else if k = 6 then q15 else if k = 7 then q23 else if k = 8 then q31 else if k = 9 then q39 else if k = 10 then q47 else if k = 11 then q55 else if k = 12 then q63 else if k = 13 then q71 else if k = 14 then q79 else if k = 15 then q87 else 0), rfl, trivial, by rw [ht]; exact hP9, hD9⟩, hS.F ht⟩) hS.2.2 dX1_init_102

set_option maxHeartbeats 8000000 in
set_option maxRecDepth 100000 in
theorem c_X2_init (l : Launch) (D : va_G) (cI cL : ClassId) (h0 sz : Nat) (qp : Nat) : Met l yX2_init wsX2_init { frames := 1, cells := 3, slots := 10362, locals := 12 } (va_Pc [.ref h0, .ref qp] (fun U => U.heap.size = sz ∧ am_M nwL vwCl D (fun _ => True) [(h0, .inr (2, [.null, .null, .null, .null]))] [(cI, .int), (cL, .long)] U)) (va_Qv (fun (u : Nat → Nat) => True) (fun u t => va_P D vwCl [(h0, .inr (2, [.ref qp, .ref (u 16), .ref (u 17), .ref (u 18)])), ((u 16), .inl (cL, 12, .inr (.inl (fun _ => 0)))), ((u 17), .inl (cL, 110, .inr (.inl (fun _ => 0)))), ((u 18), .inl (cL, 10240, .inr (.inl (fun _ => 0))))] t.heap ∧ va_D (va_A [(h0, .inr (2, [.null, .null, .null, .null]))] sz) [(h0, .inr (2, [.ref qp, .ref (u 16), .ref (u 17), .ref (u 18)])), ((u 16), .inl (cL, 12, .inr (.inl (fun _ => 0)))), ((u 17), .inl (cL, 110, .inr (.inl (fun _ => 0)))), ((u 18), .inl (cL, 10240, .inr (.inl (fun _ => 0))))]) (va_A [(h0, .inr (2, [.null, .null, .null, .null]))] sz)) 3 10362 (va_A [(h0, .inr (2, [.null, .null, .null, .null]))] sz) := by
  refine Met.ofW (cc := cX2_init) (maxL := 2) (ret := none) (by decide) rfl ?_
  intro p e s m args below meth c s₁ B hml hv
  obtain ⟨rfl, hsz, hP, hK, hN, hD0⟩ := hv
  have hx := B.exec
  have hb := B.bytes
  have hr := B.returns
  have hts := atoms_spec (ws := wsX2_init) B.pre
  have hown : s.vm.findClass RX2 = some m.cls := findClass_of_methodNamed B.named
  have hlocks := B.notSynchronized
  have hin9 : meth.name = "<init>" := (name_of_methodNamed B.named B.method).1
  subst hsz
  have hD := hD0.self (sz := s.heap.size)
  generalize hAe : va_A [(h0, .inr (2, [.null, .null, .null, .null]))] s.heap.size = A at hD ⊢
  have hA : ∀ q : Nat, s.heap.size ≤ q → A q := fun q h => by rw [← hAe]; exact Or.inr h
  have hS : va_S A s.heap s.heap [] := va_S.rf
  have hl := lv_entry ([.ref h0, .ref qp]) (n := 2) (Nat.le_of_ble_eq_true rfl)
  rw [lg_entry_eq]
  generalize (lg_sl ([.ref h0, .ref qp]) ++ List.replicate (2 - (lg_sl ([.ref h0, .ref qp])).length) Slot.unset).toArray = ls at hl ⊢
  have hl : lv_has ls 2 [(0, .ref h0), (1, .ref qp)] := hl
  have ht := am_ht hts
  have hin_X2 : ∀ w ∈ u_ws RX2 TX2 4, w ∈ wsX2_init := fun w h => List.mem_cons_of_mem _ (am_inX2 w h)
  have hf_15 := ht 110 (.fieldLink RX2 15 "ApartCost$Planner" "steps" "[J") rfl
  have hf_18 := ht 111 (.fieldLink RX2 18 "ApartCost$Planner" "most" "[J") rfl
  have hf_21 := ht 106 (.fieldLink RX2 21 "ApartCost$Planner" "product" "LApartCost$Product;") rfl
  have hf_9 := ht 108 (.fieldLink RX2 9 "ApartCost$Planner" "values" "[J") rfl
  refine lv_aload_n hx hb dX2_init_0 rfl (lv_at hl 0 rfl) ?_
  refine W.objInit hx hb hown (ht 105 _ rfl) (ht 44 _ rfl) (ht 45 _ rfl) rfl (by rw [hml]; exact hl.1) rfl dX2_init_1 (Nat.le_of_ble_eq_true rfl) (Nat.le_of_ble_eq_true rfl) ?_
  refine W.eq (g2 := F0 m 4 ls []) rfl ?_
  refine lv_aload_n hx hb dX2_init_4 rfl (lv_at hl 0 rfl) ?_
  refine lv_bipush (v := 12) hx hb dX2_init_5 (by decide) ?_
  refine am_newL hx hb (ht 99 _ rfl) hK hP hD hS hA 12 (by decide) (by decide) (by decide) (Nat.le_of_ble_eq_true rfl) (Nat.le_of_ble_eq_true rfl) dX2_init_7 (fun q7 H hP hD hS => ?_)
  have hP : va_P D vwCl [(h0, .inr (2, [.null, .null, .null, .null])), (q7, .inl (cL, 12, .inr (.inl (fun _ => 0))))] H := hP
  have hD : va_D A [(h0, .inr (2, [.null, .null, .null, .null])), (q7, .inl (cL, 12, .inr (.inl (fun _ => 0))))] := hD
  refine W.widen (k := 1) (n := 12) (by omega) (by omega) ?_
  refine va_putF (D := D) (ci := 2) (v := .ref q7) (ty := .array .long) (C := RX2) (T := TX2) (N := 4) hx hb hts hin_X2 tyX2 tyX2_ok nmX2 hown hK hP hD hS 0 rfl rfl 1 (by decide) hf_9 (fun _ h9 => h9) rfl hin9 rfl (by decide +kernel) rfl rfl (Nat.le_of_ble_eq_true rfl) dX2_init_9 (fun H locs hP hD hS => ?_)
  have hP : va_P D vwCl [(h0, .inr (2, [.null, .ref q7, .null, .null])), (q7, .inl (cL, 12, .inr (.inl (fun _ => 0))))] H := hP
  have hD : va_D A [(h0, .inr (2, [.null, .ref q7, .null, .null])), (q7, .inl (cL, 12, .inr (.inl (fun _ => 0))))] := hD
  refine lv_aload_n hx hb dX2_init_12 rfl (lv_at hl 0 rfl) ?_
  refine lv_bipush (v := 110) hx hb dX2_init_13 (by decide) ?_
  refine am_newL hx hb (ht 99 _ rfl) hK hP hD hS hA 110 (by decide) (by decide) (by decide) (Nat.le_of_ble_eq_true rfl) (Nat.le_of_ble_eq_true rfl) dX2_init_15 (fun q15 H hP hD hS => ?_)
  have hP : va_P D vwCl [(h0, .inr (2, [.null, .ref q7, .null, .null])), (q7, .inl (cL, 12, .inr (.inl (fun _ => 0)))), (q15, .inl (cL, 110, .inr (.inl (fun _ => 0))))] H := hP
  have hD : va_D A [(h0, .inr (2, [.null, .ref q7, .null, .null])), (q7, .inl (cL, 12, .inr (.inl (fun _ => 0)))), (q15, .inl (cL, 110, .inr (.inl (fun _ => 0))))] := hD
  refine W.widen (k := 2) (n := 122) (by omega) (by omega) ?_
  refine va_putF (D := D) (ci := 2) (v := .ref q15) (ty := .array .long) (C := RX2) (T := TX2) (N := 4) hx hb hts hin_X2 tyX2 tyX2_ok nmX2 hown hK hP hD hS 0 rfl rfl 2 (by decide) hf_15 (fun _ h9 => h9) rfl hin9 rfl (by decide +kernel) rfl rfl (Nat.le_of_ble_eq_true rfl) dX2_init_17 (fun H locs hP hD hS => ?_)
  have hP : va_P D vwCl [(h0, .inr (2, [.null, .ref q7, .ref q15, .null])), (q7, .inl (cL, 12, .inr (.inl (fun _ => 0)))), (q15, .inl (cL, 110, .inr (.inl (fun _ => 0))))] H := hP
  have hD : va_D A [(h0, .inr (2, [.null, .ref q7, .ref q15, .null])), (q7, .inl (cL, 12, .inr (.inl (fun _ => 0)))), (q15, .inl (cL, 110, .inr (.inl (fun _ => 0))))] := hD
  refine lv_aload_n hx hb dX2_init_20 rfl (lv_at hl 0 rfl) ?_
  refine lv_sipush (v := 10240) hx hb dX2_init_21 (by decide) ?_
  refine am_newL hx hb (ht 99 _ rfl) hK hP hD hS hA 10240 (by decide) (by decide) (by decide) (Nat.le_of_ble_eq_true rfl) (Nat.le_of_ble_eq_true rfl) dX2_init_24 (fun q24 H hP hD hS => ?_)
  have hP : va_P D vwCl [(h0, .inr (2, [.null, .ref q7, .ref q15, .null])), (q7, .inl (cL, 12, .inr (.inl (fun _ => 0)))), (q15, .inl (cL, 110, .inr (.inl (fun _ => 0)))), (q24, .inl (cL, 10240, .inr (.inl (fun _ => 0))))] H := hP
  have hD : va_D A [(h0, .inr (2, [.null, .ref q7, .ref q15, .null])), (q7, .inl (cL, 12, .inr (.inl (fun _ => 0)))), (q15, .inl (cL, 110, .inr (.inl (fun _ => 0)))), (q24, .inl (cL, 10240, .inr (.inl (fun _ => 0))))] := hD
  refine W.widen (k := 3) (n := 10362) (by omega) (by omega) ?_
  refine va_putF (D := D) (ci := 2) (v := .ref q24) (ty := .array .long) (C := RX2) (T := TX2) (N := 4) hx hb hts hin_X2 tyX2 tyX2_ok nmX2 hown hK hP hD hS 0 rfl rfl 3 (by decide) hf_18 (fun _ h9 => h9) rfl hin9 rfl (by decide +kernel) rfl rfl (Nat.le_of_ble_eq_true rfl) dX2_init_26 (fun H locs hP hD hS => ?_)
  have hP : va_P D vwCl [(h0, .inr (2, [.null, .ref q7, .ref q15, .ref q24])), (q7, .inl (cL, 12, .inr (.inl (fun _ => 0)))), (q15, .inl (cL, 110, .inr (.inl (fun _ => 0)))), (q24, .inl (cL, 10240, .inr (.inl (fun _ => 0))))] H := hP
  have hD : va_D A [(h0, .inr (2, [.null, .ref q7, .ref q15, .ref q24])), (q7, .inl (cL, 12, .inr (.inl (fun _ => 0)))), (q15, .inl (cL, 110, .inr (.inl (fun _ => 0)))), (q24, .inl (cL, 10240, .inr (.inl (fun _ => 0))))] := hD
  refine lv_aload_n hx hb dX2_init_29 rfl (lv_at hl 0 rfl) ?_
  refine lv_aload_n hx hb dX2_init_30 rfl (lv_at hl 1 rfl) ?_
  refine va_putF (D := D) (ci := 2) (v := .ref qp) (ty := .object "ApartCost$Product") (C := RX2) (T := TX2) (N := 4) hx hb hts hin_X2 tyX2 tyX2_ok nmX2 hown hK hP hD hS 0 rfl rfl 0 (by decide) hf_21 (fun _ h9 => h9) rfl hin9 rfl (by decide +kernel) rfl rfl (Nat.le_of_ble_eq_true rfl) dX2_init_31 (fun H locs hP hD hS => ?_)
  have hP : va_P D vwCl [(h0, .inr (2, [.ref qp, .ref q7, .ref q15, .ref q24])), (q7, .inl (cL, 12, .inr (.inl (fun _ => 0)))), (q15, .inl (cL, 110, .inr (.inl (fun _ => 0)))), (q24, .inl (cL, 10240, .inr (.inl (fun _ => 0))))] H := hP
  have hD : va_D A [(h0, .inr (2, [.ref qp, .ref q7, .ref q15, .ref q24])), (q7, .inl (cL, 12, .inr (.inl (fun _ => 0)))), (q15, .inl (cL, 110, .inr (.inl (fun _ => 0)))), (q24, .inl (cL, 10240, .inr (.inl (fun _ => 0))))] := hD
  have hP9 := hP.sub (ws' := [(h0, .inr (2, [.ref qp, .ref q7, .ref q15, .ref q24])), (q7, .inl (cL, 12, .inr (.inl (fun _ => 0)))), (q15, .inl (cL, 110, .inr (.inl (fun _ => 0)))), (q24, .inl (cL, 10240, .inr (.inl (fun _ => 0))))]) [0, 1, 2, 3] rfl
  have hD9 := hD.sub (ws' := [(h0, .inr (2, [.ref qp, .ref q7, .ref q15, .ref q24])), (q7, .inl (cL, 12, .inr (.inl (fun _ => 0)))), (q15, .inl (cL, 110, .inr (.inl (fun _ => 0)))), (q24, .inl (cL, 10240, .inr (.inl (fun _ => 0))))]) [0, 1, 2, 3] (by decide) rfl
  exact W.vret hx hb hr (fun t ht _ => ⟨⟨(fun k => if k = 16 then q7 else if k = 17 then q15 else if k = 18 then q24 else 0), rfl, trivial, by rw [ht]; exact hP9, hD9⟩, hS.F ht⟩) hS.2.2 dX2_init_34

set_option maxHeartbeats 8000000 in
set_option maxRecDepth 100000 in
theorem c_X3_init (l : Launch) (D : va_G) (cI cL : ClassId) (h0 sz : Nat) : Met l yX3_init wsX3_init { frames := 1, cells := 2, slots := 22, locals := 12 } (va_Pc [.ref h0] (fun U => U.heap.size = sz ∧ am_M nwL vwCl D (fun _ => True) [(h0, .inr (3, [.int 0, .int 0, .int 0, .int 0, .int 0, .long 0, .null, .null]))] [(cI, .int), (cL, .long)] U)) (va_Qv (fun (u : Nat → Nat) => True) (fun u t => va_P D vwCl [(h0, .inr (3, [.int 0, .int 0, .int 0, .int 0, .int 0, .long 0, .ref (u 19), .ref (u 20)])), ((u 19), .inl (cI, 10, .inl (fun _ => 0))), ((u 20), .inl (cL, 12, .inr (.inl (fun _ => 0))))] t.heap ∧ va_D (va_A [(h0, .inr (3, [.int 0, .int 0, .int 0, .int 0, .int 0, .long 0, .null, .null]))] sz) [(h0, .inr (3, [.int 0, .int 0, .int 0, .int 0, .int 0, .long 0, .ref (u 19), .ref (u 20)])), ((u 19), .inl (cI, 10, .inl (fun _ => 0))), ((u 20), .inl (cL, 12, .inr (.inl (fun _ => 0))))]) (va_A [(h0, .inr (3, [.int 0, .int 0, .int 0, .int 0, .int 0, .long 0, .null, .null]))] sz)) 2 22 (va_A [(h0, .inr (3, [.int 0, .int 0, .int 0, .int 0, .int 0, .long 0, .null, .null]))] sz) := by
  refine Met.ofW (cc := cX3_init) (maxL := 1) (ret := none) (by decide) rfl ?_
  intro p e s m args below meth c s₁ B hml hv
  obtain ⟨rfl, hsz, hP, hK, hN, hD0⟩ := hv
  have hx := B.exec
  have hb := B.bytes
  have hr := B.returns
  have hts := atoms_spec (ws := wsX3_init) B.pre
  have hown : s.vm.findClass RX3 = some m.cls := findClass_of_methodNamed B.named
  have hlocks := B.notSynchronized
  have hin9 : meth.name = "<init>" := (name_of_methodNamed B.named B.method).1
  subst hsz
  have hD := hD0.self (sz := s.heap.size)
  generalize hAe : va_A [(h0, .inr (3, [.int 0, .int 0, .int 0, .int 0, .int 0, .long 0, .null, .null]))] s.heap.size = A at hD ⊢
  have hA : ∀ q : Nat, s.heap.size ≤ q → A q := fun q h => by rw [← hAe]; exact Or.inr h
  have hS : va_S A s.heap s.heap [] := va_S.rf
  have hl := lv_entry ([.ref h0]) (n := 1) (Nat.le_of_ble_eq_true rfl)
  rw [lg_entry_eq]
  generalize (lg_sl ([.ref h0]) ++ List.replicate (1 - (lg_sl ([.ref h0])).length) Slot.unset).toArray = ls at hl ⊢
  have hl : lv_has ls 1 [(0, .ref h0)] := hl
  have ht := am_ht hts
  have hin_X3 : ∀ w ∈ u_ws RX3 TX3 8, w ∈ wsX3_init := fun w h => List.mem_cons_of_mem _ (am_inX3 w h)
  have hf_15 := ht 134 (.fieldLink RX3 15 "ApartCost$Found" "brought" "[J") rfl
  have hf_9 := ht 132 (.fieldLink RX3 9 "ApartCost$Found" "row" "[I") rfl
  refine lv_aload_n hx hb dX3_init_0 rfl (lv_at hl 0 rfl) ?_
  refine W.objInit hx hb hown (ht 120 _ rfl) (ht 44 _ rfl) (ht 45 _ rfl) rfl (by rw [hml]; exact hl.1) rfl dX3_init_1 (Nat.le_of_ble_eq_true rfl) (Nat.le_of_ble_eq_true rfl) ?_
  refine W.eq (g2 := F0 m 4 ls []) rfl ?_
  refine lv_aload_n hx hb dX3_init_4 rfl (lv_at hl 0 rfl) ?_
  refine lv_bipush (v := 10) hx hb dX3_init_5 (by decide) ?_
  refine am_newI hx hb (ht 98 _ rfl) hK hP hD hS hA 10 (by decide) (by decide) (by decide) (Nat.le_of_ble_eq_true rfl) (Nat.le_of_ble_eq_true rfl) dX3_init_7 (fun q7 H hP hD hS => ?_)
  have hP : va_P D vwCl [(h0, .inr (3, [.int 0, .int 0, .int 0, .int 0, .int 0, .long 0, .null, .null])), (q7, .inl (cI, 10, .inl (fun _ => 0)))] H := hP
  have hD : va_D A [(h0, .inr (3, [.int 0, .int 0, .int 0, .int 0, .int 0, .long 0, .null, .null])), (q7, .inl (cI, 10, .inl (fun _ => 0)))] := hD
  refine W.widen (k := 1) (n := 10) (by omega) (by omega) ?_
  refine va_putF (D := D) (ci := 3) (v := .ref q7) (ty := .array .int) (C := RX3) (T := TX3) (N := 8) hx hb hts hin_X3 tyX3 tyX3_ok nmX3 hown hK hP hD hS 0 rfl rfl 6 (by decide) hf_9 (fun _ h9 => h9) rfl hin9 rfl (by decide +kernel) rfl rfl (Nat.le_of_ble_eq_true rfl) dX3_init_9 (fun H locs hP hD hS => ?_)
  have hP : va_P D vwCl [(h0, .inr (3, [.int 0, .int 0, .int 0, .int 0, .int 0, .long 0, .ref q7, .null])), (q7, .inl (cI, 10, .inl (fun _ => 0)))] H := hP
  have hD : va_D A [(h0, .inr (3, [.int 0, .int 0, .int 0, .int 0, .int 0, .long 0, .ref q7, .null])), (q7, .inl (cI, 10, .inl (fun _ => 0)))] := hD
  refine lv_aload_n hx hb dX3_init_12 rfl (lv_at hl 0 rfl) ?_
  refine lv_bipush (v := 12) hx hb dX3_init_13 (by decide) ?_
  refine am_newL hx hb (ht 99 _ rfl) hK hP hD hS hA 12 (by decide) (by decide) (by decide) (Nat.le_of_ble_eq_true rfl) (Nat.le_of_ble_eq_true rfl) dX3_init_15 (fun q15 H hP hD hS => ?_)
  have hP : va_P D vwCl [(h0, .inr (3, [.int 0, .int 0, .int 0, .int 0, .int 0, .long 0, .ref q7, .null])), (q7, .inl (cI, 10, .inl (fun _ => 0))), (q15, .inl (cL, 12, .inr (.inl (fun _ => 0))))] H := hP
  have hD : va_D A [(h0, .inr (3, [.int 0, .int 0, .int 0, .int 0, .int 0, .long 0, .ref q7, .null])), (q7, .inl (cI, 10, .inl (fun _ => 0))), (q15, .inl (cL, 12, .inr (.inl (fun _ => 0))))] := hD
  refine W.widen (k := 2) (n := 22) (by omega) (by omega) ?_
  refine va_putF (D := D) (ci := 3) (v := .ref q15) (ty := .array .long) (C := RX3) (T := TX3) (N := 8) hx hb hts hin_X3 tyX3 tyX3_ok nmX3 hown hK hP hD hS 0 rfl rfl 7 (by decide) hf_15 (fun _ h9 => h9) rfl hin9 rfl (by decide +kernel) rfl rfl (Nat.le_of_ble_eq_true rfl) dX3_init_17 (fun H locs hP hD hS => ?_)
  have hP : va_P D vwCl [(h0, .inr (3, [.int 0, .int 0, .int 0, .int 0, .int 0, .long 0, .ref q7, .ref q15])), (q7, .inl (cI, 10, .inl (fun _ => 0))), (q15, .inl (cL, 12, .inr (.inl (fun _ => 0))))] H := hP
  have hD : va_D A [(h0, .inr (3, [.int 0, .int 0, .int 0, .int 0, .int 0, .long 0, .ref q7, .ref q15])), (q7, .inl (cI, 10, .inl (fun _ => 0))), (q15, .inl (cL, 12, .inr (.inl (fun _ => 0))))] := hD
  have hP9 := hP.sub (ws' := [(h0, .inr (3, [.int 0, .int 0, .int 0, .int 0, .int 0, .long 0, .ref q7, .ref q15])), (q7, .inl (cI, 10, .inl (fun _ => 0))), (q15, .inl (cL, 12, .inr (.inl (fun _ => 0))))]) [0, 1, 2] rfl
  have hD9 := hD.sub (ws' := [(h0, .inr (3, [.int 0, .int 0, .int 0, .int 0, .int 0, .long 0, .ref q7, .ref q15])), (q7, .inl (cI, 10, .inl (fun _ => 0))), (q15, .inl (cL, 12, .inr (.inl (fun _ => 0))))]) [0, 1, 2] (by decide) rfl
  exact W.vret hx hb hr (fun t ht _ => ⟨⟨(fun k => if k = 19 then q7 else if k = 20 then q15 else 0), rfl, trivial, by rw [ht]; exact hP9, hD9⟩, hS.F ht⟩) hS.2.2 dX3_init_20

set_option maxHeartbeats 8000000 in
set_option maxRecDepth 100000 in
theorem c_X4_init (l : Launch) (D : va_G) (cI cL : ClassId) (h0 sz : Nat) (qp : Nat) : Met l yX4_init wsX4_init { frames := 1, cells := 3, slots := 24, locals := 23 } (va_Pc [.ref h0, .ref qp] (fun U => U.heap.size = sz ∧ am_M nwL vwCl D (fun _ => True) [(h0, .inr (4, [.null, .null, .null, .null, .int 0, .int 0, .long 0, .long 0]))] [(cI, .int), (cL, .long)] U)) (va_Qv (fun (u : Nat → Nat) => True) (fun u t => va_P D vwCl [(h0, .inr (4, [.ref (u 21), .ref qp, .ref (u 22), .ref (u 23), .int 0, .int 0, .long 0, .long 0])), ((u 21), .inl (cI, 10, .inl (ac_fillI (-1) (fun _ => 0) 10))), ((u 22), .inl (cI, 10, .inl (fun _ => 0))), ((u 23), .inl (cL, 4, .inr (.inl (fun _ => 0))))] t.heap ∧ va_D (va_A [(h0, .inr (4, [.null, .null, .null, .null, .int 0, .int 0, .long 0, .long 0]))] sz) [(h0, .inr (4, [.ref (u 21), .ref qp, .ref (u 22), .ref (u 23), .int 0, .int 0, .long 0, .long 0])), ((u 21), .inl (cI, 10, .inl (ac_fillI (-1) (fun _ => 0) 10))), ((u 22), .inl (cI, 10, .inl (fun _ => 0))), ((u 23), .inl (cL, 4, .inr (.inl (fun _ => 0))))]) (va_A [(h0, .inr (4, [.null, .null, .null, .null, .int 0, .int 0, .long 0, .long 0]))] sz)) 3 24 (va_A [(h0, .inr (4, [.null, .null, .null, .null, .int 0, .int 0, .long 0, .long 0]))] sz) := by
  refine Met.ofW (cc := cX4_init) (maxL := 2) (ret := none) (by decide) rfl ?_
  intro p e s m args below meth c s₁ B hml hv
  obtain ⟨rfl, hsz, hP, hK, hN, hD0⟩ := hv
  have hx := B.exec
  have hb := B.bytes
  have hr := B.returns
  have hts := atoms_spec (ws := wsX4_init) B.pre
  have hown : s.vm.findClass RX4 = some m.cls := findClass_of_methodNamed B.named
  have hlocks := B.notSynchronized
  have hin9 : meth.name = "<init>" := (name_of_methodNamed B.named B.method).1
  subst hsz
  have hD := hD0.self (sz := s.heap.size)
  generalize hAe : va_A [(h0, .inr (4, [.null, .null, .null, .null, .int 0, .int 0, .long 0, .long 0]))] s.heap.size = A at hD ⊢
  have hA : ∀ q : Nat, s.heap.size ≤ q → A q := fun q h => by rw [← hAe]; exact Or.inr h
  have hS : va_S A s.heap s.heap [] := va_S.rf
  have hl := lv_entry ([.ref h0, .ref qp]) (n := 2) (Nat.le_of_ble_eq_true rfl)
  rw [lg_entry_eq]
  generalize (lg_sl ([.ref h0, .ref qp]) ++ List.replicate (2 - (lg_sl ([.ref h0, .ref qp])).length) Slot.unset).toArray = ls at hl ⊢
  have hl : lv_has ls 2 [(0, .ref h0), (1, .ref qp)] := hl
  have ht := am_ht hts
  have hin_X4 : ∀ w ∈ u_ws RX4 TX4 8, w ∈ wsX4_init := fun w h => List.mem_cons_of_mem _ (am_inX4 w h)
  have hf_15 := ht 156 (.fieldLink RX4 15 "ApartCost$Line" "trial" "[I") rfl
  have hf_18 := ht 157 (.fieldLink RX4 18 "ApartCost$Line" "loads" "[J") rfl
  have hf_22 := ht 155 (.fieldLink RX4 22 "ApartCost$Line" "product" "LApartCost$Product;") rfl
  have hf_9 := ht 153 (.fieldLink RX4 9 "ApartCost$Line" "told" "[I") rfl
  refine lv_aload_n hx hb dX4_init_0 rfl (lv_at hl 0 rfl) ?_
  refine W.objInit hx hb hown (ht 149 _ rfl) (ht 44 _ rfl) (ht 45 _ rfl) rfl (by rw [hml]; exact hl.1) rfl dX4_init_1 (Nat.le_of_ble_eq_true rfl) (Nat.le_of_ble_eq_true rfl) ?_
  refine W.eq (g2 := F0 m 4 ls []) rfl ?_
  refine lv_aload_n hx hb dX4_init_4 rfl (lv_at hl 0 rfl) ?_
  refine lv_bipush (v := 10) hx hb dX4_init_5 (by decide) ?_
  refine am_newI hx hb (ht 98 _ rfl) hK hP hD hS hA 10 (by decide) (by decide) (by decide) (Nat.le_of_ble_eq_true rfl) (Nat.le_of_ble_eq_true rfl) dX4_init_7 (fun q7 H hP hD hS => ?_)
  have hP : va_P D vwCl [(h0, .inr (4, [.null, .null, .null, .null, .int 0, .int 0, .long 0, .long 0])), (q7, .inl (cI, 10, .inl (fun _ => 0)))] H := hP
  have hD : va_D A [(h0, .inr (4, [.null, .null, .null, .null, .int 0, .int 0, .long 0, .long 0])), (q7, .inl (cI, 10, .inl (fun _ => 0)))] := hD
  refine W.widen (k := 1) (n := 10) (by omega) (by omega) ?_
  refine va_putF (D := D) (ci := 4) (v := .ref q7) (ty := .array .int) (C := RX4) (T := TX4) (N := 8) hx hb hts hin_X4 tyX4 tyX4_ok nmX4 hown hK hP hD hS 0 rfl rfl 0 (by decide) hf_9 (fun _ h9 => h9) rfl hin9 rfl (by decide +kernel) rfl rfl (Nat.le_of_ble_eq_true rfl) dX4_init_9 (fun H locs hP hD hS => ?_)
  have hP : va_P D vwCl [(h0, .inr (4, [.ref q7, .null, .null, .null, .int 0, .int 0, .long 0, .long 0])), (q7, .inl (cI, 10, .inl (fun _ => 0)))] H := hP
  have hD : va_D A [(h0, .inr (4, [.ref q7, .null, .null, .null, .int 0, .int 0, .long 0, .long 0])), (q7, .inl (cI, 10, .inl (fun _ => 0)))] := hD
  refine lv_aload_n hx hb dX4_init_12 rfl (lv_at hl 0 rfl) ?_
  refine lv_bipush (v := 10) hx hb dX4_init_13 (by decide) ?_
  refine am_newI hx hb (ht 98 _ rfl) hK hP hD hS hA 10 (by decide) (by decide) (by decide) (Nat.le_of_ble_eq_true rfl) (Nat.le_of_ble_eq_true rfl) dX4_init_15 (fun q15 H hP hD hS => ?_)
  have hP : va_P D vwCl [(h0, .inr (4, [.ref q7, .null, .null, .null, .int 0, .int 0, .long 0, .long 0])), (q7, .inl (cI, 10, .inl (fun _ => 0))), (q15, .inl (cI, 10, .inl (fun _ => 0)))] H := hP
  have hD : va_D A [(h0, .inr (4, [.ref q7, .null, .null, .null, .int 0, .int 0, .long 0, .long 0])), (q7, .inl (cI, 10, .inl (fun _ => 0))), (q15, .inl (cI, 10, .inl (fun _ => 0)))] := hD
  refine W.widen (k := 2) (n := 20) (by omega) (by omega) ?_
  refine va_putF (D := D) (ci := 4) (v := .ref q15) (ty := .array .int) (C := RX4) (T := TX4) (N := 8) hx hb hts hin_X4 tyX4 tyX4_ok nmX4 hown hK hP hD hS 0 rfl rfl 2 (by decide) hf_15 (fun _ h9 => h9) rfl hin9 rfl (by decide +kernel) rfl rfl (Nat.le_of_ble_eq_true rfl) dX4_init_17 (fun H locs hP hD hS => ?_)
  have hP : va_P D vwCl [(h0, .inr (4, [.ref q7, .null, .ref q15, .null, .int 0, .int 0, .long 0, .long 0])), (q7, .inl (cI, 10, .inl (fun _ => 0))), (q15, .inl (cI, 10, .inl (fun _ => 0)))] H := hP
  have hD : va_D A [(h0, .inr (4, [.ref q7, .null, .ref q15, .null, .int 0, .int 0, .long 0, .long 0])), (q7, .inl (cI, 10, .inl (fun _ => 0))), (q15, .inl (cI, 10, .inl (fun _ => 0)))] := hD
  refine lv_aload_n hx hb dX4_init_20 rfl (lv_at hl 0 rfl) ?_
  refine lv_iconst (v := 4) hx hb dX4_init_21 (by decide) ?_
  refine am_newL hx hb (ht 99 _ rfl) hK hP hD hS hA 4 (by decide) (by decide) (by decide) (Nat.le_of_ble_eq_true rfl) (Nat.le_of_ble_eq_true rfl) dX4_init_22 (fun q22 H hP hD hS => ?_)
  have hP : va_P D vwCl [(h0, .inr (4, [.ref q7, .null, .ref q15, .null, .int 0, .int 0, .long 0, .long 0])), (q7, .inl (cI, 10, .inl (fun _ => 0))), (q15, .inl (cI, 10, .inl (fun _ => 0))), (q22, .inl (cL, 4, .inr (.inl (fun _ => 0))))] H := hP
  have hD : va_D A [(h0, .inr (4, [.ref q7, .null, .ref q15, .null, .int 0, .int 0, .long 0, .long 0])), (q7, .inl (cI, 10, .inl (fun _ => 0))), (q15, .inl (cI, 10, .inl (fun _ => 0))), (q22, .inl (cL, 4, .inr (.inl (fun _ => 0))))] := hD
  refine W.widen (k := 3) (n := 24) (by omega) (by omega) ?_
  refine va_putF (D := D) (ci := 4) (v := .ref q22) (ty := .array .long) (C := RX4) (T := TX4) (N := 8) hx hb hts hin_X4 tyX4 tyX4_ok nmX4 hown hK hP hD hS 0 rfl rfl 3 (by decide) hf_18 (fun _ h9 => h9) rfl hin9 rfl (by decide +kernel) rfl rfl (Nat.le_of_ble_eq_true rfl) dX4_init_24 (fun H locs hP hD hS => ?_)
  have hP : va_P D vwCl [(h0, .inr (4, [.ref q7, .null, .ref q15, .ref q22, .int 0, .int 0, .long 0, .long 0])), (q7, .inl (cI, 10, .inl (fun _ => 0))), (q15, .inl (cI, 10, .inl (fun _ => 0))), (q22, .inl (cL, 4, .inr (.inl (fun _ => 0))))] H := hP
  have hD : va_D A [(h0, .inr (4, [.ref q7, .null, .ref q15, .ref q22, .int 0, .int 0, .long 0, .long 0])), (q7, .inl (cI, 10, .inl (fun _ => 0))), (q15, .inl (cI, 10, .inl (fun _ => 0))), (q22, .inl (cL, 4, .inr (.inl (fun _ => 0))))] := hD
  refine lv_aload_n hx hb dX4_init_27 rfl (lv_at hl 0 rfl) ?_
  refine lv_aload_n hx hb dX4_init_28 rfl (lv_at hl 1 rfl) ?_
  refine va_putF (D := D) (ci := 4) (v := .ref qp) (ty := .object "ApartCost$Product") (C := RX4) (T := TX4) (N := 8) hx hb hts hin_X4 tyX4 tyX4_ok nmX4 hown hK hP hD hS 0 rfl rfl 1 (by decide) hf_22 (fun _ h9 => h9) rfl hin9 rfl (by decide +kernel) rfl rfl (Nat.le_of_ble_eq_true rfl) dX4_init_29 (fun H locs hP hD hS => ?_)
  have hP : va_P D vwCl [(h0, .inr (4, [.ref q7, .ref qp, .ref q15, .ref q22, .int 0, .int 0, .long 0, .long 0])), (q7, .inl (cI, 10, .inl (fun _ => 0))), (q15, .inl (cI, 10, .inl (fun _ => 0))), (q22, .inl (cL, 4, .inr (.inl (fun _ => 0))))] H := hP
  have hD : va_D A [(h0, .inr (4, [.ref q7, .ref qp, .ref q15, .ref q22, .int 0, .int 0, .long 0, .long 0])), (q7, .inl (cI, 10, .inl (fun _ => 0))), (q15, .inl (cI, 10, .inl (fun _ => 0))), (q22, .inl (cL, 4, .inr (.inl (fun _ => 0))))] := hD
  refine lv_aload_n hx hb dX4_init_32 rfl (lv_at hl 0 rfl) ?_
  refine va_get (D := D) (ci := 4) (v := .ref q7) (C := RX4) (T := TX4) (N := 8) hx hb hts hin_X4 hown hK hP 0 rfl rfl 0 (by decide) hf_9 (fun _ h9 => h9) rfl dX4_init_33 ?_
  refine lv_iconst (v := (-1)) hx hb dX4_init_36 (by decide) ?_
  refine am_callMv (va_runS (As := [.ref q7, .int (-1)]) (rest := []) ⟨hx, hb, hml, hown, hts⟩ (c_fillI l D A [(h0, .inr (4, [.ref q7, .ref qp, .ref q15, .ref q22, .int 0, .int 0, .long 0, .long 0])), (q7, .inl (cI, 10, .inl (fun _ => 0))), (q15, .inl (cI, 10, .inl (fun _ => 0))), (q22, .inl (cL, 4, .inr (.inl (fun _ => 0))))] [(cI, .int), (cL, .long)] 1 0 q7 cI 10 (fun _ => 0) (-1) rfl rfl (by decide)) (va_cwS 2 hts (am_gS (am_in 150 rfl) (am_in 151 rfl) (am_in 31 rfl) (am_in 152 rfl)) rfl rfl rfl (by decide +kernel) ⟨Nat.le_of_ble_eq_true rfl, Nat.le_of_ble_eq_true rfl⟩) (am_preSM hP hK hN hD) rfl rfl hl.1 rfl (lv_room (Nat.le_of_ble_eq_true rfl)) dX4_init_37 ⟨Nat.le_of_ble_eq_true rfl, Nat.le_of_ble_eq_true rfl⟩) hS (fun H locs hP hS => ?_)
  have hP : va_P D vwCl [(h0, .inr (4, [.ref q7, .ref qp, .ref q15, .ref q22, .int 0, .int 0, .long 0, .long 0])), (q7, .inl (cI, 10, .inl (ac_fillI (-1) (fun _ => 0) 10))), (q15, .inl (cI, 10, .inl (fun _ => 0))), (q22, .inl (cL, 4, .inr (.inl (fun _ => 0))))] H := hP
  have hD : va_D A [(h0, .inr (4, [.ref q7, .ref qp, .ref q15, .ref q22, .int 0, .int 0, .long 0, .long 0])), (q7, .inl (cI, 10, .inl (ac_fillI (-1) (fun _ => 0) 10))), (q15, .inl (cI, 10, .inl (fun _ => 0))), (q22, .inl (cL, 4, .inr (.inl (fun _ => 0))))] := am_D hD rfl
  have hP9 := hP.sub (ws' := [(h0, .inr (4, [.ref q7, .ref qp, .ref q15, .ref q22, .int 0, .int 0, .long 0, .long 0])), (q7, .inl (cI, 10, .inl (ac_fillI (-1) (fun _ => 0) 10))), (q15, .inl (cI, 10, .inl (fun _ => 0))), (q22, .inl (cL, 4, .inr (.inl (fun _ => 0))))]) [0, 1, 2, 3] rfl
  have hD9 := hD.sub (ws' := [(h0, .inr (4, [.ref q7, .ref qp, .ref q15, .ref q22, .int 0, .int 0, .long 0, .long 0])), (q7, .inl (cI, 10, .inl (ac_fillI (-1) (fun _ => 0) 10))), (q15, .inl (cI, 10, .inl (fun _ => 0))), (q22, .inl (cL, 4, .inr (.inl (fun _ => 0))))]) [0, 1, 2, 3] (by decide) rfl
  exact W.vret hx hb hr (fun t ht _ => ⟨⟨(fun k => if k = 21 then q7 else if k = 22 then q15 else if k = 23 then q22 else 0), rfl, trivial, by rw [ht]; exact hP9, hD9⟩, hS.F ht⟩) hS.2.2 dX4_init_40

set_option maxHeartbeats 8000000 in
set_option maxRecDepth 100000 in
theorem c_X0_init (l : Launch) (D : va_G) (cI cL : ClassId) (h0 sz : Nat) : Met l yX0_init wsX0_init { frames := 2, cells := 23, slots := 10620, locals := 44 } (va_Pc [.ref h0] (fun U => U.heap.size = sz ∧ am_M nwL vwCl D (fun _ => True) [(h0, .inr (0, [.null, .null, .null, .null]))] [(cI, .int), (cL, .long)] U)) (va_Qv (fun (u : Nat → Nat) => u 0 = h0) (fun u t => va_P D vwCl (ac_w u cI cL (fun _ => 0) (fun _ => 0) ac_ai0 ac_al0) t.heap ∧ va_D (va_A [(h0, .inr (0, [.null, .null, .null, .null]))] sz) (ac_w u cI cL (fun _ => 0) (fun _ => 0) ac_ai0 ac_al0)) (va_A [(h0, .inr (0, [.null, .null, .null, .null]))] sz)) 23 10620 (va_A [(h0, .inr (0, [.null, .null, .null, .null]))] sz) := by
  refine Met.ofW (cc := cX0_init) (maxL := 1) (ret := none) (by decide) rfl ?_
  intro p e s m args below meth c s₁ B hml hv
  obtain ⟨rfl, hsz, hP, hK, hN, hD0⟩ := hv
  have hx := B.exec
  have hb := B.bytes
  have hr := B.returns
  have hts := atoms_spec (ws := wsX0_init) B.pre
  have hown : s.vm.findClass RX0 = some m.cls := findClass_of_methodNamed B.named
  have hlocks := B.notSynchronized
  have hin9 : meth.name = "<init>" := (name_of_methodNamed B.named B.method).1
  subst hsz
  have hD := hD0.self (sz := s.heap.size)
  generalize hAe : va_A [(h0, .inr (0, [.null, .null, .null, .null]))] s.heap.size = A at hD ⊢
  have hA : ∀ q : Nat, s.heap.size ≤ q → A q := fun q h => by rw [← hAe]; exact Or.inr h
  have hS : va_S A s.heap s.heap [] := va_S.rf
  have hl := lv_entry ([.ref h0]) (n := 1) (Nat.le_of_ble_eq_true rfl)
  rw [lg_entry_eq]
  generalize (lg_sl ([.ref h0]) ++ List.replicate (1 - (lg_sl ([.ref h0])).length) Slot.unset).toArray = ls at hl ⊢
  have hl : lv_has ls 1 [(0, .ref h0)] := hl
  have ht := am_ht hts
  have hin_X0 : ∀ w ∈ u_ws RX0 TX0 4, w ∈ wsX0_init := fun w h => List.mem_cons_of_mem _ (am_inX0 w h)
  have hin_X3 : ∀ w ∈ u_ws RX3 TX3 8, w ∈ wsX0_init := fun w h => List.mem_cons_of_mem _ (am_inX3 w h)
  have hin_X4 : ∀ w ∈ u_ws RX4 TX4 8, w ∈ wsX0_init := fun w h => List.mem_cons_of_mem _ (am_inX4 w h)
  have hin_X2 : ∀ w ∈ u_ws RX2 TX2 4, w ∈ wsX0_init := fun w h => List.mem_cons_of_mem _ (am_inX2 w h)
  have hin_X1 : ∀ w ∈ u_ws RX1 TX1 14, w ∈ wsX0_init := fun w h => List.mem_cons_of_mem _ (am_inX1 w h)
  have hf_12 := ht 170 (.fieldLink RX0 12 "ApartCost" "product" "LApartCost$Product;") rfl
  have hf_21 := ht 171 (.fieldLink RX0 21 "ApartCost" "planner" "LApartCost$Planner;") rfl
  have hf_28 := ht 172 (.fieldLink RX0 28 "ApartCost" "found" "LApartCost$Found;") rfl
  have hf_35 := ht 173 (.fieldLink RX0 35 "ApartCost" "line" "LApartCost$Line;") rfl
  refine lv_aload_n hx hb dX0_init_0 rfl (lv_at hl 0 rfl) ?_
  refine W.objInit hx hb hown (ht 43 _ rfl) (ht 44 _ rfl) (ht 45 _ rfl) rfl (by rw [hml]; exact hl.1) rfl dX0_init_1 (Nat.le_of_ble_eq_true rfl) (Nat.le_of_ble_eq_true rfl) ?_
  refine W.eq (g2 := F0 m 4 ls []) rfl ?_
  refine lv_aload_n hx hb dX0_init_4 rfl (lv_at hl 0 rfl) ?_
  refine va_new (ci := 1) (fs := [.int 0, .null, .null, .null, .null, .null, .int 0, .null, .null, .null, .null, .int 0, .null, .null]) (C := RX1) (T := TX1) (N := 14) hx hb hts hin_X1 tyX1 tyX1_ok hown (ht 46 _ rfl) (ht 47 _ rfl) (ht 30 _ rfl) hK hP hD hS hA rfl (fun j hj => by rcases (show j = 0 ∨ j = 1 ∨ j = 2 ∨ j = 3 ∨ j = 4 ∨ j = 5 ∨ j = 6 ∨ j = 7 ∨ j = 8 ∨ j = 9 ∨ j = 10 ∨ j = 11 ∨ j = 12 ∨ j = 13 by omega) with rfl | rfl | rfl | rfl | rfl | rfl | rfl | rfl | rfl | rfl | rfl | rfl | rfl | rfl <;> rfl) (Nat.le_of_ble_eq_true rfl) (Nat.le_of_ble_eq_true rfl) dX0_init_5 (fun q5 H hP hD hS => ?_)
  have hP : va_P D vwCl [(h0, .inr (0, [.null, .null, .null, .null])), (q5, .inr (1, [.int 0, .null, .null, .null, .null, .null, .int 0, .null, .null, .null, .null, .int 0, .null, .null]))] H := hP
  have hD : va_D A [(h0, .inr (0, [.null, .null, .null, .null])), (q5, .inr (1, [.int 0, .null, .null, .null, .null, .null, .int 0, .null, .null, .null, .null, .int 0, .null, .null]))] := hD
  refine W.widen (k := 1) (n := 14) (by omega) (by omega) ?_
  refine lv_dup hx hb dX0_init_8 rfl ?_
  have hPc := hP.sub (ws' := [(q5, .inr (1, [.int 0, .null, .null, .null, .null, .null, .int 0, .null, .null, .null, .null, .int 0, .null, .null]))]) [1] rfl
  have hDc := hD.sub (ws' := [(q5, .inr (1, [.int 0, .null, .null, .null, .null, .null, .int 0, .null, .null, .null, .null, .int 0, .null, .null]))]) [1] (by decide) rfl
  have hFc := va_free (wc := [(q5, .inr (1, [.int 0, .null, .null, .null, .null, .null, .int 0, .null, .null, .null, .null, .int 0, .null, .null]))]) hD hS hA [1] rfl
  refine va_callv (va_runI (As := []) (rest := [.ref q5, .ref h0]) ⟨hx, hb, hml, hown, hts⟩ (c_X1_init l D cI cL q5 H.size) (cwI 0 hts (am_gN (am_in 50 rfl)) rfl rfl rfl (ht 30 _ rfl) (ht 48 _ rfl) (ht 49 _ rfl) rfl (by decide +kernel) ⟨Nat.le_of_ble_eq_true rfl, Nat.le_of_ble_eq_true rfl⟩) ⟨am_blindC, fun U hU hW => ⟨rfl, by rw [hU], by rw [hU]; exact hPc, va_K.moved hW.alike hK, am_nw_warm hW hN, hDc.weaken (fun _ _ _ _ => trivial)⟩⟩ rfl rfl hl.1 rfl (lv_room (Nat.le_of_ble_eq_true rfl)) dX0_init_9 ⟨Nat.le_of_ble_eq_true rfl, Nat.le_of_ble_eq_true rfl⟩) hS (fun q _ h => hFc q h) hFc (fun u9 t H1 locs ht9 hvm hw hB hz1 hk1 hS => ?_)
  obtain ⟨hP1, hD1⟩ := hB
  rw [ht9] at hP1
  obtain ⟨hP, hD⟩ := va_join (wr := [(h0, .inr (0, [.null, .null, .null, .null]))]) (w1 := [(q5, .inr (1, [.int 0, .ref (u9 5), .ref (u9 6), .ref (u9 7), .ref (u9 8), .ref (u9 9), .int 0, .ref (u9 10), .ref (u9 11), .ref (u9 12), .ref (u9 13), .int 0, .ref (u9 14), .ref (u9 15)])), ((u9 5), .inl (cI, 10, .inl (fun _ => 0))), ((u9 6), .inl (cI, 10, .inl (fun _ => 0))), ((u9 7), .inl (cI, 10, .inl (fun _ => 0))), ((u9 8), .inl (cL, 10, .inr (.inl (fun _ => 0)))), ((u9 9), .inl (cI, 10, .inl (fun _ => 0))), ((u9 10), .inl (cL, 36, .inr (.inl (fun _ => 0)))), ((u9 11), .inl (cL, 36, .inr (.inl (fun _ => 0)))), ((u9 12), .inl (cL, 12, .inr (.inl (fun _ => 0)))), ((u9 13), .inl (cL, 12, .inr (.inl (ac_fillL 27720 (fun _ => 0) 12)))), ((u9 14), .inl (cI, 16, .inl (fun _ => 0))), ((u9 15), .inl (cL, 16, .inr (.inl (fun _ => 0))))]) hP hD [1] [0] rfl rfl (by decide) (by decide) hk1 hFc hP1 hD1
  generalize H1 = H at hP hS ⊢
  have hP : va_P D vwCl [(h0, .inr (0, [.null, .null, .null, .null])), (q5, .inr (1, [.int 0, .ref (u9 5), .ref (u9 6), .ref (u9 7), .ref (u9 8), .ref (u9 9), .int 0, .ref (u9 10), .ref (u9 11), .ref (u9 12), .ref (u9 13), .int 0, .ref (u9 14), .ref (u9 15)])), ((u9 5), .inl (cI, 10, .inl (fun _ => 0))), ((u9 6), .inl (cI, 10, .inl (fun _ => 0))), ((u9 7), .inl (cI, 10, .inl (fun _ => 0))), ((u9 8), .inl (cL, 10, .inr (.inl (fun _ => 0)))), ((u9 9), .inl (cI, 10, .inl (fun _ => 0))), ((u9 10), .inl (cL, 36, .inr (.inl (fun _ => 0)))), ((u9 11), .inl (cL, 36, .inr (.inl (fun _ => 0)))), ((u9 12), .inl (cL, 12, .inr (.inl (fun _ => 0)))), ((u9 13), .inl (cL, 12, .inr (.inl (ac_fillL 27720 (fun _ => 0) 12)))), ((u9 14), .inl (cI, 16, .inl (fun _ => 0))), ((u9 15), .inl (cL, 16, .inr (.inl (fun _ => 0))))] H := hP
  have hD : va_D A [(h0, .inr (0, [.null, .null, .null, .null])), (q5, .inr (1, [.int 0, .ref (u9 5), .ref (u9 6), .ref (u9 7), .ref (u9 8), .ref (u9 9), .int 0, .ref (u9 10), .ref (u9 11), .ref (u9 12), .ref (u9 13), .int 0, .ref (u9 14), .ref (u9 15)])), ((u9 5), .inl (cI, 10, .inl (fun _ => 0))), ((u9 6), .inl (cI, 10, .inl (fun _ => 0))), ((u9 7), .inl (cI, 10, .inl (fun _ => 0))), ((u9 8), .inl (cL, 10, .inr (.inl (fun _ => 0)))), ((u9 9), .inl (cI, 10, .inl (fun _ => 0))), ((u9 10), .inl (cL, 36, .inr (.inl (fun _ => 0)))), ((u9 11), .inl (cL, 36, .inr (.inl (fun _ => 0)))), ((u9 12), .inl (cL, 12, .inr (.inl (fun _ => 0)))), ((u9 13), .inl (cL, 12, .inr (.inl (ac_fillL 27720 (fun _ => 0) 12)))), ((u9 14), .inl (cI, 16, .inl (fun _ => 0))), ((u9 15), .inl (cL, 16, .inr (.inl (fun _ => 0))))] := hD
  refine W.widen (k := 12) (n := 192) (by omega) (by omega) ?_
  refine va_putF (D := D) (ci := 0) (v := .ref q5) (ty := .object "ApartCost$Product") (C := RX0) (T := TX0) (N := 4) hx hb hts hin_X0 tyX0 tyX0_ok nmX0 hown hK hP hD hS 0 rfl rfl 0 (by decide) hf_12 (fun _ h9 => h9) rfl hin9 rfl (by decide +kernel) rfl rfl (Nat.le_of_ble_eq_true rfl) dX0_init_12 (fun H locs hP hD hS => ?_)
  have hP : va_P D vwCl [(h0, .inr (0, [.ref q5, .null, .null, .null])), (q5, .inr (1, [.int 0, .ref (u9 5), .ref (u9 6), .ref (u9 7), .ref (u9 8), .ref (u9 9), .int 0, .ref (u9 10), .ref (u9 11), .ref (u9 12), .ref (u9 13), .int 0, .ref (u9 14), .ref (u9 15)])), ((u9 5), .inl (cI, 10, .inl (fun _ => 0))), ((u9 6), .inl (cI, 10, .inl (fun _ => 0))), ((u9 7), .inl (cI, 10, .inl (fun _ => 0))), ((u9 8), .inl (cL, 10, .inr (.inl (fun _ => 0)))), ((u9 9), .inl (cI, 10, .inl (fun _ => 0))), ((u9 10), .inl (cL, 36, .inr (.inl (fun _ => 0)))), ((u9 11), .inl (cL, 36, .inr (.inl (fun _ => 0)))), ((u9 12), .inl (cL, 12, .inr (.inl (fun _ => 0)))), ((u9 13), .inl (cL, 12, .inr (.inl (ac_fillL 27720 (fun _ => 0) 12)))), ((u9 14), .inl (cI, 16, .inl (fun _ => 0))), ((u9 15), .inl (cL, 16, .inr (.inl (fun _ => 0))))] H := hP
  have hD : va_D A [(h0, .inr (0, [.ref q5, .null, .null, .null])), (q5, .inr (1, [.int 0, .ref (u9 5), .ref (u9 6), .ref (u9 7), .ref (u9 8), .ref (u9 9), .int 0, .ref (u9 10), .ref (u9 11), .ref (u9 12), .ref (u9 13), .int 0, .ref (u9 14), .ref (u9 15)])), ((u9 5), .inl (cI, 10, .inl (fun _ => 0))), ((u9 6), .inl (cI, 10, .inl (fun _ => 0))), ((u9 7), .inl (cI, 10, .inl (fun _ => 0))), ((u9 8), .inl (cL, 10, .inr (.inl (fun _ => 0)))), ((u9 9), .inl (cI, 10, .inl (fun _ => 0))), ((u9 10), .inl (cL, 36, .inr (.inl (fun _ => 0)))), ((u9 11), .inl (cL, 36, .inr (.inl (fun _ => 0)))), ((u9 12), .inl (cL, 12, .inr (.inl (fun _ => 0)))), ((u9 13), .inl (cL, 12, .inr (.inl (ac_fillL 27720 (fun _ => 0) 12)))), ((u9 14), .inl (cI, 16, .inl (fun _ => 0))), ((u9 15), .inl (cL, 16, .inr (.inl (fun _ => 0))))] := hD
  refine lv_aload_n hx hb dX0_init_15 rfl (lv_at hl 0 rfl) ?_
  refine va_new (ci := 2) (fs := [.null, .null, .null, .null]) (C := RX2) (T := TX2) (N := 4) hx hb hts hin_X2 tyX2 tyX2_ok hown (ht 100 _ rfl) (ht 101 _ rfl) (ht 32 _ rfl) hK hP hD hS hA rfl (fun j hj => by rcases (show j = 0 ∨ j = 1 ∨ j = 2 ∨ j = 3 by omega) with rfl | rfl | rfl | rfl <;> rfl) (Nat.le_of_ble_eq_true rfl) (Nat.le_of_ble_eq_true rfl) dX0_init_16 (fun q16 H hP hD hS => ?_)
  have hP : va_P D vwCl [(h0, .inr (0, [.ref q5, .null, .null, .null])), (q5, .inr (1, [.int 0, .ref (u9 5), .ref (u9 6), .ref (u9 7), .ref (u9 8), .ref (u9 9), .int 0, .ref (u9 10), .ref (u9 11), .ref (u9 12), .ref (u9 13), .int 0, .ref (u9 14), .ref (u9 15)])), ((u9 5), .inl (cI, 10, .inl (fun _ => 0))), ((u9 6), .inl (cI, 10, .inl (fun _ => 0))), ((u9 7), .inl (cI, 10, .inl (fun _ => 0))), ((u9 8), .inl (cL, 10, .inr (.inl (fun _ => 0)))), ((u9 9), .inl (cI, 10, .inl (fun _ => 0))), ((u9 10), .inl (cL, 36, .inr (.inl (fun _ => 0)))), ((u9 11), .inl (cL, 36, .inr (.inl (fun _ => 0)))), ((u9 12), .inl (cL, 12, .inr (.inl (fun _ => 0)))), ((u9 13), .inl (cL, 12, .inr (.inl (ac_fillL 27720 (fun _ => 0) 12)))), ((u9 14), .inl (cI, 16, .inl (fun _ => 0))), ((u9 15), .inl (cL, 16, .inr (.inl (fun _ => 0)))), (q16, .inr (2, [.null, .null, .null, .null]))] H := hP
  have hD : va_D A [(h0, .inr (0, [.ref q5, .null, .null, .null])), (q5, .inr (1, [.int 0, .ref (u9 5), .ref (u9 6), .ref (u9 7), .ref (u9 8), .ref (u9 9), .int 0, .ref (u9 10), .ref (u9 11), .ref (u9 12), .ref (u9 13), .int 0, .ref (u9 14), .ref (u9 15)])), ((u9 5), .inl (cI, 10, .inl (fun _ => 0))), ((u9 6), .inl (cI, 10, .inl (fun _ => 0))), ((u9 7), .inl (cI, 10, .inl (fun _ => 0))), ((u9 8), .inl (cL, 10, .inr (.inl (fun _ => 0)))), ((u9 9), .inl (cI, 10, .inl (fun _ => 0))), ((u9 10), .inl (cL, 36, .inr (.inl (fun _ => 0)))), ((u9 11), .inl (cL, 36, .inr (.inl (fun _ => 0)))), ((u9 12), .inl (cL, 12, .inr (.inl (fun _ => 0)))), ((u9 13), .inl (cL, 12, .inr (.inl (ac_fillL 27720 (fun _ => 0) 12)))), ((u9 14), .inl (cI, 16, .inl (fun _ => 0))), ((u9 15), .inl (cL, 16, .inr (.inl (fun _ => 0)))), (q16, .inr (2, [.null, .null, .null, .null]))] := hD
  refine W.widen (k := 13) (n := 196) (by omega) (by omega) ?_
  refine lv_dup hx hb dX0_init_19 rfl ?_
  refine lv_aload_n hx hb dX0_init_20 rfl (lv_at hl 0 rfl) ?_
  refine va_get (D := D) (ci := 0) (v := .ref q5) (C := RX0) (T := TX0) (N := 4) hx hb hts hin_X0 hown hK hP 0 rfl rfl 0 (by decide) hf_12 (fun _ h9 => h9) rfl dX0_init_21 ?_
  have hPc := hP.sub (ws' := [(q16, .inr (2, [.null, .null, .null, .null]))]) [13] rfl
  have hDc := hD.sub (ws' := [(q16, .inr (2, [.null, .null, .null, .null]))]) [13] (by decide) rfl
  have hFc := va_free (wc := [(q16, .inr (2, [.null, .null, .null, .null]))]) hD hS hA [13] rfl
  refine va_callv (va_runI (As := [.ref q5]) (rest := [.ref q16, .ref h0]) ⟨hx, hb, hml, hown, hts⟩ (c_X2_init l D cI cL q16 H.size q5) (cwI 1 hts (am_gN (am_in 104 rfl)) rfl rfl rfl (ht 32 _ rfl) (ht 102 _ rfl) (ht 103 _ rfl) rfl (by decide +kernel) ⟨Nat.le_of_ble_eq_true rfl, Nat.le_of_ble_eq_true rfl⟩) ⟨am_blindC, fun U hU hW => ⟨rfl, by rw [hU], by rw [hU]; exact hPc, va_K.moved hW.alike hK, am_nw_warm hW hN, hDc.weaken (fun _ _ _ _ => trivial)⟩⟩ rfl rfl hl.1 rfl (lv_room (Nat.le_of_ble_eq_true rfl)) dX0_init_24 ⟨Nat.le_of_ble_eq_true rfl, Nat.le_of_ble_eq_true rfl⟩) hS (fun q _ h => hFc q h) hFc (fun u24 t H1 locs ht9 hvm hw hB hz1 hk1 hS => ?_)
  obtain ⟨hP1, hD1⟩ := hB
  rw [ht9] at hP1
  obtain ⟨hP, hD⟩ := va_join (wr := [(h0, .inr (0, [.ref q5, .null, .null, .null])), (q5, .inr (1, [.int 0, .ref (u9 5), .ref (u9 6), .ref (u9 7), .ref (u9 8), .ref (u9 9), .int 0, .ref (u9 10), .ref (u9 11), .ref (u9 12), .ref (u9 13), .int 0, .ref (u9 14), .ref (u9 15)])), ((u9 5), .inl (cI, 10, .inl (fun _ => 0))), ((u9 6), .inl (cI, 10, .inl (fun _ => 0))), ((u9 7), .inl (cI, 10, .inl (fun _ => 0))), ((u9 8), .inl (cL, 10, .inr (.inl (fun _ => 0)))), ((u9 9), .inl (cI, 10, .inl (fun _ => 0))), ((u9 10), .inl (cL, 36, .inr (.inl (fun _ => 0)))), ((u9 11), .inl (cL, 36, .inr (.inl (fun _ => 0)))), ((u9 12), .inl (cL, 12, .inr (.inl (fun _ => 0)))), ((u9 13), .inl (cL, 12, .inr (.inl (ac_fillL 27720 (fun _ => 0) 12)))), ((u9 14), .inl (cI, 16, .inl (fun _ => 0))), ((u9 15), .inl (cL, 16, .inr (.inl (fun _ => 0))))]) (w1 := [(q16, .inr (2, [.ref q5, .ref (u24 16), .ref (u24 17), .ref (u24 18)])), ((u24 16), .inl (cL, 12, .inr (.inl (fun _ => 0)))), ((u24 17), .inl (cL, 110, .inr (.inl (fun _ => 0)))), ((u24 18), .inl (cL, 10240, .inr (.inl (fun _ => 0))))]) hP hD [13] [0, 1, 2, 3, 4, 5, 6, 7, 8, 9, 10, 11, 12] rfl rfl (by decide) (by decide) hk1 hFc hP1 hD1
  generalize H1 = H at hP hS ⊢
  have hP : va_P D vwCl [(h0, .inr (0, [.ref q5, .null, .null, .null])), (q5, .inr (1, [.int 0, .ref (u9 5), .ref (u9 6), .ref (u9 7), .ref (u9 8), .ref (u9 9), .int 0, .ref (u9 10), .ref (u9 11), .ref (u9 12), .ref (u9 13), .int 0, .ref (u9 14), .ref (u9 15)])), ((u9 5), .inl (cI, 10, .inl (fun _ => 0))), ((u9 6), .inl (cI, 10, .inl (fun _ => 0))), ((u9 7), .inl (cI, 10, .inl (fun _ => 0))), ((u9 8), .inl (cL, 10, .inr (.inl (fun _ => 0)))), ((u9 9), .inl (cI, 10, .inl (fun _ => 0))), ((u9 10), .inl (cL, 36, .inr (.inl (fun _ => 0)))), ((u9 11), .inl (cL, 36, .inr (.inl (fun _ => 0)))), ((u9 12), .inl (cL, 12, .inr (.inl (fun _ => 0)))), ((u9 13), .inl (cL, 12, .inr (.inl (ac_fillL 27720 (fun _ => 0) 12)))), ((u9 14), .inl (cI, 16, .inl (fun _ => 0))), ((u9 15), .inl (cL, 16, .inr (.inl (fun _ => 0)))), (q16, .inr (2, [.ref q5, .ref (u24 16), .ref (u24 17), .ref (u24 18)])), ((u24 16), .inl (cL, 12, .inr (.inl (fun _ => 0)))), ((u24 17), .inl (cL, 110, .inr (.inl (fun _ => 0)))), ((u24 18), .inl (cL, 10240, .inr (.inl (fun _ => 0))))] H := hP
  have hD : va_D A [(h0, .inr (0, [.ref q5, .null, .null, .null])), (q5, .inr (1, [.int 0, .ref (u9 5), .ref (u9 6), .ref (u9 7), .ref (u9 8), .ref (u9 9), .int 0, .ref (u9 10), .ref (u9 11), .ref (u9 12), .ref (u9 13), .int 0, .ref (u9 14), .ref (u9 15)])), ((u9 5), .inl (cI, 10, .inl (fun _ => 0))), ((u9 6), .inl (cI, 10, .inl (fun _ => 0))), ((u9 7), .inl (cI, 10, .inl (fun _ => 0))), ((u9 8), .inl (cL, 10, .inr (.inl (fun _ => 0)))), ((u9 9), .inl (cI, 10, .inl (fun _ => 0))), ((u9 10), .inl (cL, 36, .inr (.inl (fun _ => 0)))), ((u9 11), .inl (cL, 36, .inr (.inl (fun _ => 0)))), ((u9 12), .inl (cL, 12, .inr (.inl (fun _ => 0)))), ((u9 13), .inl (cL, 12, .inr (.inl (ac_fillL 27720 (fun _ => 0) 12)))), ((u9 14), .inl (cI, 16, .inl (fun _ => 0))), ((u9 15), .inl (cL, 16, .inr (.inl (fun _ => 0)))), (q16, .inr (2, [.ref q5, .ref (u24 16), .ref (u24 17), .ref (u24 18)])), ((u24 16), .inl (cL, 12, .inr (.inl (fun _ => 0)))), ((u24 17), .inl (cL, 110, .inr (.inl (fun _ => 0)))), ((u24 18), .inl (cL, 10240, .inr (.inl (fun _ => 0))))] := hD
  refine W.widen (k := 16) (n := 10558) (by omega) (by omega) ?_
  refine va_putF (D := D) (ci := 0) (v := .ref q16) (ty := .object "ApartCost$Planner") (C := RX0) (T := TX0) (N := 4) hx hb hts hin_X0 tyX0 tyX0_ok nmX0 hown hK hP hD hS 0 rfl rfl 1 (by decide) hf_21 (fun _ h9 => h9) rfl hin9 rfl (by decide +kernel) rfl rfl (Nat.le_of_ble_eq_true rfl) dX0_init_27 (fun H locs hP hD hS => ?_)
  have hP : va_P D vwCl [(h0, .inr (0, [.ref q5, .ref q16, .null, .null])), (q5, .inr (1, [.int 0, .ref (u9 5), .ref (u9 6), .ref (u9 7), .ref (u9 8), .ref (u9 9), .int 0, .ref (u9 10), .ref (u9 11), .ref (u9 12), .ref (u9 13), .int 0, .ref (u9 14), .ref (u9 15)])), ((u9 5), .inl (cI, 10, .inl (fun _ => 0))), ((u9 6), .inl (cI, 10, .inl (fun _ => 0))), ((u9 7), .inl (cI, 10, .inl (fun _ => 0))), ((u9 8), .inl (cL, 10, .inr (.inl (fun _ => 0)))), ((u9 9), .inl (cI, 10, .inl (fun _ => 0))), ((u9 10), .inl (cL, 36, .inr (.inl (fun _ => 0)))), ((u9 11), .inl (cL, 36, .inr (.inl (fun _ => 0)))), ((u9 12), .inl (cL, 12, .inr (.inl (fun _ => 0)))), ((u9 13), .inl (cL, 12, .inr (.inl (ac_fillL 27720 (fun _ => 0) 12)))), ((u9 14), .inl (cI, 16, .inl (fun _ => 0))), ((u9 15), .inl (cL, 16, .inr (.inl (fun _ => 0)))), (q16, .inr (2, [.ref q5, .ref (u24 16), .ref (u24 17), .ref (u24 18)])), ((u24 16), .inl (cL, 12, .inr (.inl (fun _ => 0)))), ((u24 17), .inl (cL, 110, .inr (.inl (fun _ => 0)))), ((u24 18), .inl (cL, 10240, .inr (.inl (fun _ => 0))))] H := hP
  have hD : va_D A [(h0, .inr (0, [.ref q5, .ref q16, .null, .null])), (q5, .inr (1, [.int 0, .ref (u9 5), .ref (u9 6), .ref (u9 7), .ref (u9 8), .ref (u9 9), .int 0, .ref (u9 10), .ref (u9 11), .ref (u9 12), .ref (u9 13), .int 0, .ref (u9 14), .ref (u9 15)])), ((u9 5), .inl (cI, 10, .inl (fun _ => 0))), ((u9 6), .inl (cI, 10, .inl (fun _ => 0))), ((u9 7), .inl (cI, 10, .inl (fun _ => 0))), ((u9 8), .inl (cL, 10, .inr (.inl (fun _ => 0)))), ((u9 9), .inl (cI, 10, .inl (fun _ => 0))), ((u9 10), .inl (cL, 36, .inr (.inl (fun _ => 0)))), ((u9 11), .inl (cL, 36, .inr (.inl (fun _ => 0)))), ((u9 12), .inl (cL, 12, .inr (.inl (fun _ => 0)))), ((u9 13), .inl (cL, 12, .inr (.inl (ac_fillL 27720 (fun _ => 0) 12)))), ((u9 14), .inl (cI, 16, .inl (fun _ => 0))), ((u9 15), .inl (cL, 16, .inr (.inl (fun _ => 0)))), (q16, .inr (2, [.ref q5, .ref (u24 16), .ref (u24 17), .ref (u24 18)])), ((u24 16), .inl (cL, 12, .inr (.inl (fun _ => 0)))), ((u24 17), .inl (cL, 110, .inr (.inl (fun _ => 0)))), ((u24 18), .inl (cL, 10240, .inr (.inl (fun _ => 0))))] := hD
  refine lv_aload_n hx hb dX0_init_30 rfl (lv_at hl 0 rfl) ?_
  refine va_new (ci := 3) (fs := [.int 0, .int 0, .int 0, .int 0, .int 0, .long 0, .null, .null]) (C := RX3) (T := TX3) (N := 8) hx hb hts hin_X3 tyX3 tyX3_ok hown (ht 116 _ rfl) (ht 117 _ rfl) (ht 33 _ rfl) hK hP hD hS hA rfl (fun j hj => by rcases (show j = 0 ∨ j = 1 ∨ j = 2 ∨ j = 3 ∨ j = 4 ∨ j = 5 ∨ j = 6 ∨ j = 7 by omega) with rfl | rfl | rfl | rfl | rfl | rfl | rfl | rfl <;> rfl) (Nat.le_of_ble_eq_true rfl) (Nat.le_of_ble_eq_true rfl) dX0_init_31 (fun q31 H hP hD hS => ?_)
  have hP : va_P D vwCl [(h0, .inr (0, [.ref q5, .ref q16, .null, .null])), (q5, .inr (1, [.int 0, .ref (u9 5), .ref (u9 6), .ref (u9 7), .ref (u9 8), .ref (u9 9), .int 0, .ref (u9 10), .ref (u9 11), .ref (u9 12), .ref (u9 13), .int 0, .ref (u9 14), .ref (u9 15)])), ((u9 5), .inl (cI, 10, .inl (fun _ => 0))), ((u9 6), .inl (cI, 10, .inl (fun _ => 0))), ((u9 7), .inl (cI, 10, .inl (fun _ => 0))), ((u9 8), .inl (cL, 10, .inr (.inl (fun _ => 0)))), ((u9 9), .inl (cI, 10, .inl (fun _ => 0))), ((u9 10), .inl (cL, 36, .inr (.inl (fun _ => 0)))), ((u9 11), .inl (cL, 36, .inr (.inl (fun _ => 0)))), ((u9 12), .inl (cL, 12, .inr (.inl (fun _ => 0)))), ((u9 13), .inl (cL, 12, .inr (.inl (ac_fillL 27720 (fun _ => 0) 12)))), ((u9 14), .inl (cI, 16, .inl (fun _ => 0))), ((u9 15), .inl (cL, 16, .inr (.inl (fun _ => 0)))), (q16, .inr (2, [.ref q5, .ref (u24 16), .ref (u24 17), .ref (u24 18)])), ((u24 16), .inl (cL, 12, .inr (.inl (fun _ => 0)))), ((u24 17), .inl (cL, 110, .inr (.inl (fun _ => 0)))), ((u24 18), .inl (cL, 10240, .inr (.inl (fun _ => 0)))), (q31, .inr (3, [.int 0, .int 0, .int 0, .int 0, .int 0, .long 0, .null, .null]))] H := hP
  have hD : va_D A [(h0, .inr (0, [.ref q5, .ref q16, .null, .null])), (q5, .inr (1, [.int 0, .ref (u9 5), .ref (u9 6), .ref (u9 7), .ref (u9 8), .ref (u9 9), .int 0, .ref (u9 10), .ref (u9 11), .ref (u9 12), .ref (u9 13), .int 0, .ref (u9 14), .ref (u9 15)])), ((u9 5), .inl (cI, 10, .inl (fun _ => 0))), ((u9 6), .inl (cI, 10, .inl (fun _ => 0))), ((u9 7), .inl (cI, 10, .inl (fun _ => 0))), ((u9 8), .inl (cL, 10, .inr (.inl (fun _ => 0)))), ((u9 9), .inl (cI, 10, .inl (fun _ => 0))), ((u9 10), .inl (cL, 36, .inr (.inl (fun _ => 0)))), ((u9 11), .inl (cL, 36, .inr (.inl (fun _ => 0)))), ((u9 12), .inl (cL, 12, .inr (.inl (fun _ => 0)))), ((u9 13), .inl (cL, 12, .inr (.inl (ac_fillL 27720 (fun _ => 0) 12)))), ((u9 14), .inl (cI, 16, .inl (fun _ => 0))), ((u9 15), .inl (cL, 16, .inr (.inl (fun _ => 0)))), (q16, .inr (2, [.ref q5, .ref (u24 16), .ref (u24 17), .ref (u24 18)])), ((u24 16), .inl (cL, 12, .inr (.inl (fun _ => 0)))), ((u24 17), .inl (cL, 110, .inr (.inl (fun _ => 0)))), ((u24 18), .inl (cL, 10240, .inr (.inl (fun _ => 0)))), (q31, .inr (3, [.int 0, .int 0, .int 0, .int 0, .int 0, .long 0, .null, .null]))] := hD
  refine W.widen (k := 17) (n := 10566) (by omega) (by omega) ?_
  refine lv_dup hx hb dX0_init_34 rfl ?_
  have hPc := hP.sub (ws' := [(q31, .inr (3, [.int 0, .int 0, .int 0, .int 0, .int 0, .long 0, .null, .null]))]) [17] rfl
  have hDc := hD.sub (ws' := [(q31, .inr (3, [.int 0, .int 0, .int 0, .int 0, .int 0, .long 0, .null, .null]))]) [17] (by decide) rfl
  have hFc := va_free (wc := [(q31, .inr (3, [.int 0, .int 0, .int 0, .int 0, .int 0, .long 0, .null, .null]))]) hD hS hA [17] rfl
  refine va_callv (va_runIN (As := []) (rest := [.ref q31, .ref h0]) ⟨hx, hb, hml, hown, hts⟩ (c_X3_init l D cI cL q31 H.size) ⟨va_cnB 0 hts (am_gN (am_in 119 rfl)) rfl rfl rfl (am_nw_at hN 0 rfl) (ht 33 _ rfl) (by decide +kernel) ⟨Nat.le_of_ble_eq_true rfl, Nat.le_of_ble_eq_true rfl⟩, rfl, (ht 118 _ rfl)⟩ ⟨am_blindC, fun U hU hW => ⟨rfl, by rw [hU], by rw [hU]; exact hPc, va_K.moved hW.alike hK, am_nw_warm hW hN, hDc.weaken (fun _ _ _ _ => trivial)⟩⟩ rfl rfl hl.1 rfl (lv_room (Nat.le_of_ble_eq_true rfl)) dX0_init_35 ⟨Nat.le_of_ble_eq_true rfl, Nat.le_of_ble_eq_true rfl⟩) hS (fun q _ h => hFc q h) hFc (fun u35 t H1 locs ht9 hvm hw hB hz1 hk1 hS => ?_)
  obtain ⟨hP1, hD1⟩ := hB
  rw [ht9] at hP1
  obtain ⟨hP, hD⟩ := va_join (wr := [(h0, .inr (0, [.ref q5, .ref q16, .null, .null])), (q5, .inr (1, [.int 0, .ref (u9 5), .ref (u9 6), .ref (u9 7), .ref (u9 8), .ref (u9 9), .int 0, .ref (u9 10), .ref (u9 11), .ref (u9 12), .ref (u9 13), .int 0, .ref (u9 14), .ref (u9 15)])), ((u9 5), .inl (cI, 10, .inl (fun _ => 0))), ((u9 6), .inl (cI, 10, .inl (fun _ => 0))), ((u9 7), .inl (cI, 10, .inl (fun _ => 0))), ((u9 8), .inl (cL, 10, .inr (.inl (fun _ => 0)))), ((u9 9), .inl (cI, 10, .inl (fun _ => 0))), ((u9 10), .inl (cL, 36, .inr (.inl (fun _ => 0)))), ((u9 11), .inl (cL, 36, .inr (.inl (fun _ => 0)))), ((u9 12), .inl (cL, 12, .inr (.inl (fun _ => 0)))), ((u9 13), .inl (cL, 12, .inr (.inl (ac_fillL 27720 (fun _ => 0) 12)))), ((u9 14), .inl (cI, 16, .inl (fun _ => 0))), ((u9 15), .inl (cL, 16, .inr (.inl (fun _ => 0)))), (q16, .inr (2, [.ref q5, .ref (u24 16), .ref (u24 17), .ref (u24 18)])), ((u24 16), .inl (cL, 12, .inr (.inl (fun _ => 0)))), ((u24 17), .inl (cL, 110, .inr (.inl (fun _ => 0)))), ((u24 18), .inl (cL, 10240, .inr (.inl (fun _ => 0))))]) (w1 := [(q31, .inr (3, [.int 0, .int 0, .int 0, .int 0, .int 0, .long 0, .ref (u35 19), .ref (u35 20)])), ((u35 19), .inl (cI, 10, .inl (fun _ => 0))), ((u35 20), .inl (cL, 12, .inr (.inl (fun _ => 0))))]) hP hD [17] [0, 1, 2, 3, 4, 5, 6, 7, 8, 9, 10, 11, 12, 13, 14, 15, 16] rfl rfl (by decide) (by decide) hk1 hFc hP1 hD1
  generalize H1 = H at hP hS ⊢
  have hP : va_P D vwCl [(h0, .inr (0, [.ref q5, .ref q16, .null, .null])), (q5, .inr (1, [.int 0, .ref (u9 5), .ref (u9 6), .ref (u9 7), .ref (u9 8), .ref (u9 9), .int 0, .ref (u9 10), .ref (u9 11), .ref (u9 12), .ref (u9 13), .int 0, .ref (u9 14), .ref (u9 15)])), ((u9 5), .inl (cI, 10, .inl (fun _ => 0))), ((u9 6), .inl (cI, 10, .inl (fun _ => 0))), ((u9 7), .inl (cI, 10, .inl (fun _ => 0))), ((u9 8), .inl (cL, 10, .inr (.inl (fun _ => 0)))), ((u9 9), .inl (cI, 10, .inl (fun _ => 0))), ((u9 10), .inl (cL, 36, .inr (.inl (fun _ => 0)))), ((u9 11), .inl (cL, 36, .inr (.inl (fun _ => 0)))), ((u9 12), .inl (cL, 12, .inr (.inl (fun _ => 0)))), ((u9 13), .inl (cL, 12, .inr (.inl (ac_fillL 27720 (fun _ => 0) 12)))), ((u9 14), .inl (cI, 16, .inl (fun _ => 0))), ((u9 15), .inl (cL, 16, .inr (.inl (fun _ => 0)))), (q16, .inr (2, [.ref q5, .ref (u24 16), .ref (u24 17), .ref (u24 18)])), ((u24 16), .inl (cL, 12, .inr (.inl (fun _ => 0)))), ((u24 17), .inl (cL, 110, .inr (.inl (fun _ => 0)))), ((u24 18), .inl (cL, 10240, .inr (.inl (fun _ => 0)))), (q31, .inr (3, [.int 0, .int 0, .int 0, .int 0, .int 0, .long 0, .ref (u35 19), .ref (u35 20)])), ((u35 19), .inl (cI, 10, .inl (fun _ => 0))), ((u35 20), .inl (cL, 12, .inr (.inl (fun _ => 0))))] H := hP
  have hD : va_D A [(h0, .inr (0, [.ref q5, .ref q16, .null, .null])), (q5, .inr (1, [.int 0, .ref (u9 5), .ref (u9 6), .ref (u9 7), .ref (u9 8), .ref (u9 9), .int 0, .ref (u9 10), .ref (u9 11), .ref (u9 12), .ref (u9 13), .int 0, .ref (u9 14), .ref (u9 15)])), ((u9 5), .inl (cI, 10, .inl (fun _ => 0))), ((u9 6), .inl (cI, 10, .inl (fun _ => 0))), ((u9 7), .inl (cI, 10, .inl (fun _ => 0))), ((u9 8), .inl (cL, 10, .inr (.inl (fun _ => 0)))), ((u9 9), .inl (cI, 10, .inl (fun _ => 0))), ((u9 10), .inl (cL, 36, .inr (.inl (fun _ => 0)))), ((u9 11), .inl (cL, 36, .inr (.inl (fun _ => 0)))), ((u9 12), .inl (cL, 12, .inr (.inl (fun _ => 0)))), ((u9 13), .inl (cL, 12, .inr (.inl (ac_fillL 27720 (fun _ => 0) 12)))), ((u9 14), .inl (cI, 16, .inl (fun _ => 0))), ((u9 15), .inl (cL, 16, .inr (.inl (fun _ => 0)))), (q16, .inr (2, [.ref q5, .ref (u24 16), .ref (u24 17), .ref (u24 18)])), ((u24 16), .inl (cL, 12, .inr (.inl (fun _ => 0)))), ((u24 17), .inl (cL, 110, .inr (.inl (fun _ => 0)))), ((u24 18), .inl (cL, 10240, .inr (.inl (fun _ => 0)))), (q31, .inr (3, [.int 0, .int 0, .int 0, .int 0, .int 0, .long 0, .ref (u35 19), .ref (u35 20)])), ((u35 19), .inl (cI, 10, .inl (fun _ => 0))), ((u35 20), .inl (cL, 12, .inr (.inl (fun _ => 0))))] := hD
  refine W.widen (k := 19) (n := 10588) (by omega) (by omega) ?_
  refine va_putF (D := D) (ci := 0) (v := .ref q31) (ty := .object "ApartCost$Found") (C := RX0) (T := TX0) (N := 4) hx hb hts hin_X0 tyX0 tyX0_ok nmX0 hown hK hP hD hS 0 rfl rfl 2 (by decide) hf_28 (fun _ h9 => h9) rfl hin9 rfl (by decide +kernel) rfl rfl (Nat.le_of_ble_eq_true rfl) dX0_init_38 (fun H locs hP hD hS => ?_)
  have hP : va_P D vwCl [(h0, .inr (0, [.ref q5, .ref q16, .ref q31, .null])), (q5, .inr (1, [.int 0, .ref (u9 5), .ref (u9 6), .ref (u9 7), .ref (u9 8), .ref (u9 9), .int 0, .ref (u9 10), .ref (u9 11), .ref (u9 12), .ref (u9 13), .int 0, .ref (u9 14), .ref (u9 15)])), ((u9 5), .inl (cI, 10, .inl (fun _ => 0))), ((u9 6), .inl (cI, 10, .inl (fun _ => 0))), ((u9 7), .inl (cI, 10, .inl (fun _ => 0))), ((u9 8), .inl (cL, 10, .inr (.inl (fun _ => 0)))), ((u9 9), .inl (cI, 10, .inl (fun _ => 0))), ((u9 10), .inl (cL, 36, .inr (.inl (fun _ => 0)))), ((u9 11), .inl (cL, 36, .inr (.inl (fun _ => 0)))), ((u9 12), .inl (cL, 12, .inr (.inl (fun _ => 0)))), ((u9 13), .inl (cL, 12, .inr (.inl (ac_fillL 27720 (fun _ => 0) 12)))), ((u9 14), .inl (cI, 16, .inl (fun _ => 0))), ((u9 15), .inl (cL, 16, .inr (.inl (fun _ => 0)))), (q16, .inr (2, [.ref q5, .ref (u24 16), .ref (u24 17), .ref (u24 18)])), ((u24 16), .inl (cL, 12, .inr (.inl (fun _ => 0)))), ((u24 17), .inl (cL, 110, .inr (.inl (fun _ => 0)))), ((u24 18), .inl (cL, 10240, .inr (.inl (fun _ => 0)))), (q31, .inr (3, [.int 0, .int 0, .int 0, .int 0, .int 0, .long 0, .ref (u35 19), .ref (u35 20)])), ((u35 19), .inl (cI, 10, .inl (fun _ => 0))), ((u35 20), .inl (cL, 12, .inr (.inl (fun _ => 0))))] H := hP
  have hD : va_D A [(h0, .inr (0, [.ref q5, .ref q16, .ref q31, .null])), (q5, .inr (1, [.int 0, .ref (u9 5), .ref (u9 6), .ref (u9 7), .ref (u9 8), .ref (u9 9), .int 0, .ref (u9 10), .ref (u9 11), .ref (u9 12), .ref (u9 13), .int 0, .ref (u9 14), .ref (u9 15)])), ((u9 5), .inl (cI, 10, .inl (fun _ => 0))), ((u9 6), .inl (cI, 10, .inl (fun _ => 0))), ((u9 7), .inl (cI, 10, .inl (fun _ => 0))), ((u9 8), .inl (cL, 10, .inr (.inl (fun _ => 0)))), ((u9 9), .inl (cI, 10, .inl (fun _ => 0))), ((u9 10), .inl (cL, 36, .inr (.inl (fun _ => 0)))), ((u9 11), .inl (cL, 36, .inr (.inl (fun _ => 0)))), ((u9 12), .inl (cL, 12, .inr (.inl (fun _ => 0)))), ((u9 13), .inl (cL, 12, .inr (.inl (ac_fillL 27720 (fun _ => 0) 12)))), ((u9 14), .inl (cI, 16, .inl (fun _ => 0))), ((u9 15), .inl (cL, 16, .inr (.inl (fun _ => 0)))), (q16, .inr (2, [.ref q5, .ref (u24 16), .ref (u24 17), .ref (u24 18)])), ((u24 16), .inl (cL, 12, .inr (.inl (fun _ => 0)))), ((u24 17), .inl (cL, 110, .inr (.inl (fun _ => 0)))), ((u24 18), .inl (cL, 10240, .inr (.inl (fun _ => 0)))), (q31, .inr (3, [.int 0, .int 0, .int 0, .int 0, .int 0, .long 0, .ref (u35 19), .ref (u35 20)])), ((u35 19), .inl (cI, 10, .inl (fun _ => 0))), ((u35 20), .inl (cL, 12, .inr (.inl (fun _ => 0))))] := hD
  refine lv_aload_n hx hb dX0_init_41 rfl (lv_at hl 0 rfl) ?_
  refine va_new (ci := 4) (fs := [.null, .null, .null, .null, .int 0, .int 0, .long 0, .long 0]) (C := RX4) (T := TX4) (N := 8) hx hb hts hin_X4 tyX4 tyX4_ok hown (ht 144 _ rfl) (ht 145 _ rfl) (ht 34 _ rfl) hK hP hD hS hA rfl (fun j hj => by rcases (show j = 0 ∨ j = 1 ∨ j = 2 ∨ j = 3 ∨ j = 4 ∨ j = 5 ∨ j = 6 ∨ j = 7 by omega) with rfl | rfl | rfl | rfl | rfl | rfl | rfl | rfl <;> rfl) (Nat.le_of_ble_eq_true rfl) (Nat.le_of_ble_eq_true rfl) dX0_init_42 (fun q42 H hP hD hS => ?_)
  have hP : va_P D vwCl [(h0, .inr (0, [.ref q5, .ref q16, .ref q31, .null])), (q5, .inr (1, [.int 0, .ref (u9 5), .ref (u9 6), .ref (u9 7), .ref (u9 8), .ref (u9 9), .int 0, .ref (u9 10), .ref (u9 11), .ref (u9 12), .ref (u9 13), .int 0, .ref (u9 14), .ref (u9 15)])), ((u9 5), .inl (cI, 10, .inl (fun _ => 0))), ((u9 6), .inl (cI, 10, .inl (fun _ => 0))), ((u9 7), .inl (cI, 10, .inl (fun _ => 0))), ((u9 8), .inl (cL, 10, .inr (.inl (fun _ => 0)))), ((u9 9), .inl (cI, 10, .inl (fun _ => 0))), ((u9 10), .inl (cL, 36, .inr (.inl (fun _ => 0)))), ((u9 11), .inl (cL, 36, .inr (.inl (fun _ => 0)))), ((u9 12), .inl (cL, 12, .inr (.inl (fun _ => 0)))), ((u9 13), .inl (cL, 12, .inr (.inl (ac_fillL 27720 (fun _ => 0) 12)))), ((u9 14), .inl (cI, 16, .inl (fun _ => 0))), ((u9 15), .inl (cL, 16, .inr (.inl (fun _ => 0)))), (q16, .inr (2, [.ref q5, .ref (u24 16), .ref (u24 17), .ref (u24 18)])), ((u24 16), .inl (cL, 12, .inr (.inl (fun _ => 0)))), ((u24 17), .inl (cL, 110, .inr (.inl (fun _ => 0)))), ((u24 18), .inl (cL, 10240, .inr (.inl (fun _ => 0)))), (q31, .inr (3, [.int 0, .int 0, .int 0, .int 0, .int 0, .long 0, .ref (u35 19), .ref (u35 20)])), ((u35 19), .inl (cI, 10, .inl (fun _ => 0))), ((u35 20), .inl (cL, 12, .inr (.inl (fun _ => 0)))), (q42, .inr (4, [.null, .null, .null, .null, .int 0, .int 0, .long 0, .long 0]))] H := hP
  have hD : va_D A [(h0, .inr (0, [.ref q5, .ref q16, .ref q31, .null])), (q5, .inr (1, [.int 0, .ref (u9 5), .ref (u9 6), .ref (u9 7), .ref (u9 8), .ref (u9 9), .int 0, .ref (u9 10), .ref (u9 11), .ref (u9 12), .ref (u9 13), .int 0, .ref (u9 14), .ref (u9 15)])), ((u9 5), .inl (cI, 10, .inl (fun _ => 0))), ((u9 6), .inl (cI, 10, .inl (fun _ => 0))), ((u9 7), .inl (cI, 10, .inl (fun _ => 0))), ((u9 8), .inl (cL, 10, .inr (.inl (fun _ => 0)))), ((u9 9), .inl (cI, 10, .inl (fun _ => 0))), ((u9 10), .inl (cL, 36, .inr (.inl (fun _ => 0)))), ((u9 11), .inl (cL, 36, .inr (.inl (fun _ => 0)))), ((u9 12), .inl (cL, 12, .inr (.inl (fun _ => 0)))), ((u9 13), .inl (cL, 12, .inr (.inl (ac_fillL 27720 (fun _ => 0) 12)))), ((u9 14), .inl (cI, 16, .inl (fun _ => 0))), ((u9 15), .inl (cL, 16, .inr (.inl (fun _ => 0)))), (q16, .inr (2, [.ref q5, .ref (u24 16), .ref (u24 17), .ref (u24 18)])), ((u24 16), .inl (cL, 12, .inr (.inl (fun _ => 0)))), ((u24 17), .inl (cL, 110, .inr (.inl (fun _ => 0)))), ((u24 18), .inl (cL, 10240, .inr (.inl (fun _ => 0)))), (q31, .inr (3, [.int 0, .int 0, .int 0, .int 0, .int 0, .long 0, .ref (u35 19), .ref (u35 20)])), ((u35 19), .inl (cI, 10, .inl (fun _ => 0))), ((u35 20), .inl (cL, 12, .inr (.inl (fun _ => 0)))), (q42, .inr (4, [.null, .null, .null, .null, .int 0, .int 0, .long 0, .long 0]))] := hD
  refine W.widen (k := 20) (n := 10596) (by omega) (by omega) ?_
  refine lv_dup hx hb dX0_init_45 rfl ?_
  refine lv_aload_n hx hb dX0_init_46 rfl (lv_at hl 0 rfl) ?_
  refine va_get (D := D) (ci := 0) (v := .ref q5) (C := RX0) (T := TX0) (N := 4) hx hb hts hin_X0 hown hK hP 0 rfl rfl 0 (by decide) hf_12 (fun _ h9 => h9) rfl dX0_init_47 ?_
  have hPc := hP.sub (ws' := [(q42, .inr (4, [.null, .null, .null, .null, .int 0, .int 0, .long 0, .long 0]))]) [20] rfl
  have hDc := hD.sub (ws' := [(q42, .inr (4, [.null, .null, .null, .null, .int 0, .int 0, .long 0, .long 0]))]) [20] (by decide) rfl
  have hFc := va_free (wc := [(q42, .inr (4, [.null, .null, .null, .null, .int 0, .int 0, .long 0, .long 0]))]) hD hS hA [20] rfl
  refine va_callv (va_runI (As := [.ref q5]) (rest := [.ref q42, .ref h0]) ⟨hx, hb, hml, hown, hts⟩ (c_X4_init l D cI cL q42 H.size q5) (cwI 1 hts (am_gN (am_in 148 rfl)) rfl rfl rfl (ht 34 _ rfl) (ht 146 _ rfl) (ht 147 _ rfl) rfl (by decide +kernel) ⟨Nat.le_of_ble_eq_true rfl, Nat.le_of_ble_eq_true rfl⟩) ⟨am_blindC, fun U hU hW => ⟨rfl, by rw [hU], by rw [hU]; exact hPc, va_K.moved hW.alike hK, am_nw_warm hW hN, hDc.weaken (fun _ _ _ _ => trivial)⟩⟩ rfl rfl hl.1 rfl (lv_room (Nat.le_of_ble_eq_true rfl)) dX0_init_50 ⟨Nat.le_of_ble_eq_true rfl, Nat.le_of_ble_eq_true rfl⟩) hS (fun q _ h => hFc q h) hFc (fun u50 t H1 locs ht9 hvm hw hB hz1 hk1 hS => ?_)
  obtain ⟨hP1, hD1⟩ := hB
  rw [ht9] at hP1
  obtain ⟨hP, hD⟩ := va_join (wr := [(h0, .inr (0, [.ref q5, .ref q16, .ref q31, .null])), (q5, .inr (1, [.int 0, .ref (u9 5), .ref (u9 6), .ref (u9 7), .ref (u9 8), .ref (u9 9), .int 0, .ref (u9 10), .ref (u9 11), .ref (u9 12), .ref (u9 13), .int 0, .ref (u9 14), .ref (u9 15)])), ((u9 5), .inl (cI, 10, .inl (fun _ => 0))), ((u9 6), .inl (cI, 10, .inl (fun _ => 0))), ((u9 7), .inl (cI, 10, .inl (fun _ => 0))), ((u9 8), .inl (cL, 10, .inr (.inl (fun _ => 0)))), ((u9 9), .inl (cI, 10, .inl (fun _ => 0))), ((u9 10), .inl (cL, 36, .inr (.inl (fun _ => 0)))), ((u9 11), .inl (cL, 36, .inr (.inl (fun _ => 0)))), ((u9 12), .inl (cL, 12, .inr (.inl (fun _ => 0)))), ((u9 13), .inl (cL, 12, .inr (.inl (ac_fillL 27720 (fun _ => 0) 12)))), ((u9 14), .inl (cI, 16, .inl (fun _ => 0))), ((u9 15), .inl (cL, 16, .inr (.inl (fun _ => 0)))), (q16, .inr (2, [.ref q5, .ref (u24 16), .ref (u24 17), .ref (u24 18)])), ((u24 16), .inl (cL, 12, .inr (.inl (fun _ => 0)))), ((u24 17), .inl (cL, 110, .inr (.inl (fun _ => 0)))), ((u24 18), .inl (cL, 10240, .inr (.inl (fun _ => 0)))), (q31, .inr (3, [.int 0, .int 0, .int 0, .int 0, .int 0, .long 0, .ref (u35 19), .ref (u35 20)])), ((u35 19), .inl (cI, 10, .inl (fun _ => 0))), ((u35 20), .inl (cL, 12, .inr (.inl (fun _ => 0))))]) (w1 := [(q42, .inr (4, [.ref (u50 21), .ref q5, .ref (u50 22), .ref (u50 23), .int 0, .int 0, .long 0, .long 0])), ((u50 21), .inl (cI, 10, .inl (ac_fillI (-1) (fun _ => 0) 10))), ((u50 22), .inl (cI, 10, .inl (fun _ => 0))), ((u50 23), .inl (cL, 4, .inr (.inl (fun _ => 0))))]) hP hD [20] [0, 1, 2, 3, 4, 5, 6, 7, 8, 9, 10, 11, 12, 13, 14, 15, 16, 17, 18, 19] rfl rfl (by decide) (by decide) hk1 hFc hP1 hD1
  generalize H1 = H at hP hS ⊢
  have hP : va_P D vwCl [(h0, .inr (0, [.ref q5, .ref q16, .ref q31, .null])), (q5, .inr (1, [.int 0, .ref (u9 5), .ref (u9 6), .ref (u9 7), .ref (u9 8), .ref (u9 9), .int 0, .ref (u9 10), .ref (u9 11), .ref (u9 12), .ref (u9 13), .int 0, .ref (u9 14), .ref (u9 15)])), ((u9 5), .inl (cI, 10, .inl (fun _ => 0))), ((u9 6), .inl (cI, 10, .inl (fun _ => 0))), ((u9 7), .inl (cI, 10, .inl (fun _ => 0))), ((u9 8), .inl (cL, 10, .inr (.inl (fun _ => 0)))), ((u9 9), .inl (cI, 10, .inl (fun _ => 0))), ((u9 10), .inl (cL, 36, .inr (.inl (fun _ => 0)))), ((u9 11), .inl (cL, 36, .inr (.inl (fun _ => 0)))), ((u9 12), .inl (cL, 12, .inr (.inl (fun _ => 0)))), ((u9 13), .inl (cL, 12, .inr (.inl (ac_fillL 27720 (fun _ => 0) 12)))), ((u9 14), .inl (cI, 16, .inl (fun _ => 0))), ((u9 15), .inl (cL, 16, .inr (.inl (fun _ => 0)))), (q16, .inr (2, [.ref q5, .ref (u24 16), .ref (u24 17), .ref (u24 18)])), ((u24 16), .inl (cL, 12, .inr (.inl (fun _ => 0)))), ((u24 17), .inl (cL, 110, .inr (.inl (fun _ => 0)))), ((u24 18), .inl (cL, 10240, .inr (.inl (fun _ => 0)))), (q31, .inr (3, [.int 0, .int 0, .int 0, .int 0, .int 0, .long 0, .ref (u35 19), .ref (u35 20)])), ((u35 19), .inl (cI, 10, .inl (fun _ => 0))), ((u35 20), .inl (cL, 12, .inr (.inl (fun _ => 0)))), (q42, .inr (4, [.ref (u50 21), .ref q5, .ref (u50 22), .ref (u50 23), .int 0, .int 0, .long 0, .long 0])), ((u50 21), .inl (cI, 10, .inl (ac_fillI (-1) (fun _ => 0) 10))), ((u50 22), .inl (cI, 10, .inl (fun _ => 0))), ((u50 23), .inl (cL, 4, .inr (.inl (fun _ => 0))))] H := hP
  have hD : va_D A [(h0, .inr (0, [.ref q5, .ref q16, .ref q31, .null])), (q5, .inr (1, [.int 0, .ref (u9 5), .ref (u9 6), .ref (u9 7), .ref (u9 8), .ref (u9 9), .int 0, .ref (u9 10), .ref (u9 11), .ref (u9 12), .ref (u9 13), .int 0, .ref (u9 14), .ref (u9 15)])), ((u9 5), .inl (cI, 10, .inl (fun _ => 0))), ((u9 6), .inl (cI, 10, .inl (fun _ => 0))), ((u9 7), .inl (cI, 10, .inl (fun _ => 0))), ((u9 8), .inl (cL, 10, .inr (.inl (fun _ => 0)))), ((u9 9), .inl (cI, 10, .inl (fun _ => 0))), ((u9 10), .inl (cL, 36, .inr (.inl (fun _ => 0)))), ((u9 11), .inl (cL, 36, .inr (.inl (fun _ => 0)))), ((u9 12), .inl (cL, 12, .inr (.inl (fun _ => 0)))), ((u9 13), .inl (cL, 12, .inr (.inl (ac_fillL 27720 (fun _ => 0) 12)))), ((u9 14), .inl (cI, 16, .inl (fun _ => 0))), ((u9 15), .inl (cL, 16, .inr (.inl (fun _ => 0)))), (q16, .inr (2, [.ref q5, .ref (u24 16), .ref (u24 17), .ref (u24 18)])), ((u24 16), .inl (cL, 12, .inr (.inl (fun _ => 0)))), ((u24 17), .inl (cL, 110, .inr (.inl (fun _ => 0)))), ((u24 18), .inl (cL, 10240, .inr (.inl (fun _ => 0)))), (q31, .inr (3, [.int 0, .int 0, .int 0, .int 0, .int 0, .long 0, .ref (u35 19), .ref (u35 20)])), ((u35 19), .inl (cI, 10, .inl (fun _ => 0))), ((u35 20), .inl (cL, 12, .inr (.inl (fun _ => 0)))), (q42, .inr (4, [.ref (u50 21), .ref q5, .ref (u50 22), .ref (u50 23), .int 0, .int 0, .long 0, .long 0])), ((u50 21), .inl (cI, 10, .inl (ac_fillI (-1) (fun _ => 0) 10))), ((u50 22), .inl (cI, 10, .inl (fun _ => 0))), ((u50 23), .inl (cL, 4, .inr (.inl (fun _ => 0))))] := hD
  refine W.widen (k := 23) (n := 10620) (by omega) (by omega) ?_
  refine va_putF (D := D) (ci := 0) (v := .ref q42) (ty := .object "ApartCost$Line") (C := RX0) (T := TX0) (N := 4) hx hb hts hin_X0 tyX0 tyX0_ok nmX0 hown hK hP hD hS 0 rfl rfl 3 (by decide) hf_35 (fun _ h9 => h9) rfl hin9 rfl (by decide +kernel) rfl rfl (Nat.le_of_ble_eq_true rfl) dX0_init_53 (fun H locs hP hD hS => ?_)
  have hP : va_P D vwCl [(h0, .inr (0, [.ref q5, .ref q16, .ref q31, .ref q42])), (q5, .inr (1, [.int 0, .ref (u9 5), .ref (u9 6), .ref (u9 7), .ref (u9 8), .ref (u9 9), .int 0, .ref (u9 10), .ref (u9 11), .ref (u9 12), .ref (u9 13), .int 0, .ref (u9 14), .ref (u9 15)])), ((u9 5), .inl (cI, 10, .inl (fun _ => 0))), ((u9 6), .inl (cI, 10, .inl (fun _ => 0))), ((u9 7), .inl (cI, 10, .inl (fun _ => 0))), ((u9 8), .inl (cL, 10, .inr (.inl (fun _ => 0)))), ((u9 9), .inl (cI, 10, .inl (fun _ => 0))), ((u9 10), .inl (cL, 36, .inr (.inl (fun _ => 0)))), ((u9 11), .inl (cL, 36, .inr (.inl (fun _ => 0)))), ((u9 12), .inl (cL, 12, .inr (.inl (fun _ => 0)))), ((u9 13), .inl (cL, 12, .inr (.inl (ac_fillL 27720 (fun _ => 0) 12)))), ((u9 14), .inl (cI, 16, .inl (fun _ => 0))), ((u9 15), .inl (cL, 16, .inr (.inl (fun _ => 0)))), (q16, .inr (2, [.ref q5, .ref (u24 16), .ref (u24 17), .ref (u24 18)])), ((u24 16), .inl (cL, 12, .inr (.inl (fun _ => 0)))), ((u24 17), .inl (cL, 110, .inr (.inl (fun _ => 0)))), ((u24 18), .inl (cL, 10240, .inr (.inl (fun _ => 0)))), (q31, .inr (3, [.int 0, .int 0, .int 0, .int 0, .int 0, .long 0, .ref (u35 19), .ref (u35 20)])), ((u35 19), .inl (cI, 10, .inl (fun _ => 0))), ((u35 20), .inl (cL, 12, .inr (.inl (fun _ => 0)))), (q42, .inr (4, [.ref (u50 21), .ref q5, .ref (u50 22), .ref (u50 23), .int 0, .int 0, .long 0, .long 0])), ((u50 21), .inl (cI, 10, .inl (ac_fillI (-1) (fun _ => 0) 10))), ((u50 22), .inl (cI, 10, .inl (fun _ => 0))), ((u50 23), .inl (cL, 4, .inr (.inl (fun _ => 0))))] H := hP
  have hD : va_D A [(h0, .inr (0, [.ref q5, .ref q16, .ref q31, .ref q42])), (q5, .inr (1, [.int 0, .ref (u9 5), .ref (u9 6), .ref (u9 7), .ref (u9 8), .ref (u9 9), .int 0, .ref (u9 10), .ref (u9 11), .ref (u9 12), .ref (u9 13), .int 0, .ref (u9 14), .ref (u9 15)])), ((u9 5), .inl (cI, 10, .inl (fun _ => 0))), ((u9 6), .inl (cI, 10, .inl (fun _ => 0))), ((u9 7), .inl (cI, 10, .inl (fun _ => 0))), ((u9 8), .inl (cL, 10, .inr (.inl (fun _ => 0)))), ((u9 9), .inl (cI, 10, .inl (fun _ => 0))), ((u9 10), .inl (cL, 36, .inr (.inl (fun _ => 0)))), ((u9 11), .inl (cL, 36, .inr (.inl (fun _ => 0)))), ((u9 12), .inl (cL, 12, .inr (.inl (fun _ => 0)))), ((u9 13), .inl (cL, 12, .inr (.inl (ac_fillL 27720 (fun _ => 0) 12)))), ((u9 14), .inl (cI, 16, .inl (fun _ => 0))), ((u9 15), .inl (cL, 16, .inr (.inl (fun _ => 0)))), (q16, .inr (2, [.ref q5, .ref (u24 16), .ref (u24 17), .ref (u24 18)])), ((u24 16), .inl (cL, 12, .inr (.inl (fun _ => 0)))), ((u24 17), .inl (cL, 110, .inr (.inl (fun _ => 0)))), ((u24 18), .inl (cL, 10240, .inr (.inl (fun _ => 0)))), (q31, .inr (3, [.int 0, .int 0, .int 0, .int 0, .int 0, .long 0, .ref (u35 19), .ref (u35 20)])), ((u35 19), .inl (cI, 10, .inl (fun _ => 0))), ((u35 20), .inl (cL, 12, .inr (.inl (fun _ => 0)))), (q42, .inr (4, [.ref (u50 21), .ref q5, .ref (u50 22), .ref (u50 23), .int 0, .int 0, .long 0, .long 0])), ((u50 21), .inl (cI, 10, .inl (ac_fillI (-1) (fun _ => 0) 10))), ((u50 22), .inl (cI, 10, .inl (fun _ => 0))), ((u50 23), .inl (cL, 4, .inr (.inl (fun _ => 0))))] := hD
  have hP9 := hP.sub (ws' := [(h0, .inr (0, [.ref q5, .ref q16, .ref q31, .ref q42])), (q5, .inr (1, [.int 0, .ref (u9 5), .ref (u9 6), .ref (u9 7), .ref (u9 8), .ref (u9 9), .int 0, .ref (u9 10), .ref (u9 11), .ref (u9 12), .ref (u9 13), .int 0, .ref (u9 14), .ref (u9 15)])), (q16, .inr (2, [.ref q5, .ref (u24 16), .ref (u24 17), .ref (u24 18)])), (q31, .inr (3, [.int 0, .int 0, .int 0, .int 0, .int 0, .long 0, .ref (u35 19), .ref (u35 20)])), (q42, .inr (4, [.ref (u50 21), .ref q5, .ref (u50 22), .ref (u50 23), .int 0, .int 0, .long 0, .long 0])), ((u9 5), .inl (cI, 10, .inl (fun _ => 0))), ((u9 6), .inl (cI, 10, .inl (fun _ => 0))), ((u9 7), .inl (cI, 10, .inl (fun _ => 0))), ((u9 8), .inl (cL, 10, .inr (.inl (fun _ => 0)))), ((u9 9), .inl (cI, 10, .inl (fun _ => 0))), ((u9 10), .inl (cL, 36, .inr (.inl (fun _ => 0)))), ((u9 11), .inl (cL, 36, .inr (.inl (fun _ => 0)))), ((u9 12), .inl (cL, 12, .inr (.inl (fun _ => 0)))), ((u9 13), .inl (cL, 12, .inr (.inl (ac_fillL 27720 (fun _ => 0) 12)))), ((u9 14), .inl (cI, 16, .inl (fun _ => 0))), ((u9 15), .inl (cL, 16, .inr (.inl (fun _ => 0)))), ((u24 16), .inl (cL, 12, .inr (.inl (fun _ => 0)))), ((u24 17), .inl (cL, 110, .inr (.inl (fun _ => 0)))), ((u24 18), .inl (cL, 10240, .inr (.inl (fun _ => 0)))), ((u35 19), .inl (cI, 10, .inl (fun _ => 0))), ((u35 20), .inl (cL, 12, .inr (.inl (fun _ => 0)))), ((u50 21), .inl (cI, 10, .inl (ac_fillI (-1) (fun _ => 0) 10))), ((u50 22), .inl (cI, 10, .inl (fun _ => 0))), ((u50 23), .inl (cL, 4, .inr (.inl (fun _ => 0))))]) [0, 1, 13, 17, 20, 2, 3, 4, 5, 6, 7, 8, 9, 10, 11, 12, 14, 15, 16, 18, 19, 21, 22, 23] rfl
  have hD9 := hD.sub (ws' := [(h0, .inr (0, [.ref q5, .ref q16, .ref q31, .ref q42])), (q5, .inr (1, [.int 0, .ref (u9 5), .ref (u9 6), .ref (u9 7), .ref (u9 8), .ref (u9 9), .int 0, .ref (u9 10), .ref (u9 11), .ref (u9 12), .ref (u9 13), .int 0, .ref (u9 14), .ref (u9 15)])), (q16, .inr (2, [.ref q5, .ref (u24 16), .ref (u24 17), .ref (u24 18)])), (q31, .inr (3, [.int 0, .int 0, .int 0, .int 0, .int 0, .long 0, .ref (u35 19), .ref (u35 20)])), (q42, .inr (4, [.ref (u50 21), .ref q5, .ref (u50 22), .ref (u50 23), .int 0, .int 0, .long 0, .long 0])), ((u9 5), .inl (cI, 10, .inl (fun _ => 0))), ((u9 6), .inl (cI, 10, .inl (fun _ => 0))), ((u9 7), .inl (cI, 10, .inl (fun _ => 0))), ((u9 8), .inl (cL, 10, .inr (.inl (fun _ => 0)))), ((u9 9), .inl (cI, 10, .inl (fun _ => 0))), ((u9 10), .inl (cL, 36, .inr (.inl (fun _ => 0)))), ((u9 11), .inl (cL, 36, .inr (.inl (fun _ => 0)))), ((u9 12), .inl (cL, 12, .inr (.inl (fun _ => 0)))), ((u9 13), .inl (cL, 12, .inr (.inl (ac_fillL 27720 (fun _ => 0) 12)))), ((u9 14), .inl (cI, 16, .inl (fun _ => 0))), ((u9 15), .inl (cL, 16, .inr (.inl (fun _ => 0)))), ((u24 16), .inl (cL, 12, .inr (.inl (fun _ => 0)))), ((u24 17), .inl (cL, 110, .inr (.inl (fun _ => 0)))), ((u24 18), .inl (cL, 10240, .inr (.inl (fun _ => 0)))), ((u35 19), .inl (cI, 10, .inl (fun _ => 0))), ((u35 20), .inl (cL, 12, .inr (.inl (fun _ => 0)))), ((u50 21), .inl (cI, 10, .inl (ac_fillI (-1) (fun _ => 0) 10))), ((u50 22), .inl (cI, 10, .inl (fun _ => 0))), ((u50 23), .inl (cL, 4, .inr (.inl (fun _ => 0))))]) [0, 1, 13, 17, 20, 2, 3, 4, 5, 6, 7, 8, 9, 10, 11, 12, 14, 15, 16, 18, 19, 21, 22, 23] (by decide) rfl
  exact W.vret hx hb hr (fun t ht _ => ⟨⟨(fun k => if k = 0 then h0 else if k = 1 then q5 else if k = 2 then q16 else if k = 3 then q31 else if k = 4 then q42 else if k = 5 then (u9 5) else if k = 6 then (u9 6) else if k = 7 then (u9 7) else if k = 8 then (u9 8) else if k = 9 then (u9 9) else if k = 10 then (u9 10) else if k = 11 then (u9 11) else if k = 12 then (u9 12) else if k = 13 then (u9 13) else if k = 14 then (u9 14) else if k = 15 then (u9 15) else if k = 16 then (u24 16) else if k = 17 then (u24 17) else if k = 18 then (u24 18) else if k = 19 then (u35 19) else if k = 20 then (u35 20) else if k = 21 then (u50 21) else if k = 22 then (u50 22) else if k = 23 then (u50 23) else 0), rfl, rfl, by rw [ht]; exact hP9, hD9⟩, hS.F ht⟩) hS.2.2 dX0_init_56
