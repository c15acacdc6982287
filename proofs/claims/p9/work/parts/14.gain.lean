set_option maxHeartbeats 4000000 in
set_option maxRecDepth 100000 in
theorem c_X2_setSteps (l : Launch) (D : va_G) (ad : Nat → Nat) (cI cL : ClassId) (fi : Nat → Int32) (fl : Nat → Int64) (ai : Nat → Nat → Int32) (al : Nat → Nat → Int64) (A : Nat → Prop) (na : Nat) (hna : fi 0 = nI na) (hnl : na ≤ 10) (hto : ∀ a, a < na → ∃ t, t < 6 ∧ (ai 6) a = nI t) (hsi : ∀ a, a < na → ∃ t, t < 6 ∧ (ai 7) a = nI t) : Met l yX2_setSteps wsX2_setSteps (am_rm 1 26) (va_Pc [.ref (ad 2)] (am_M nwL vwCl D A (ac_w ad cI cL fi fl ai al) [(cI, .int), (cL, .long)])) (am_Mv vwCl D (ac_w ad cI cL fi fl ai (va_up al 17 (ac_sso (ac_cents (ai 6) (ai 7) (al 8) (al 10) (al 11)) na (al 17) na))) A) 0 0 A := by
  refine am_startM (cc := cX2_setSteps) (maxL := 3) (ret := none) (by decide) rfl (Nat.le_of_ble_eq_true rfl) [(0, .ref (ad 2))] rfl ?_
  intro p e s m below meth c ls hx hb hr hml hown hts hlocks hK hN hD H locs hP hS hl
  have hown : s.vm.findClass RX2 = some m.cls := hown
  have ht := am_ht hts
  have hin_X2 : ∀ w ∈ u_ws RX2 TX2 4, w ∈ wsX2_setSteps := fun w h => List.mem_cons_of_mem _ (am_inX2 w h)
  have hin_X1 : ∀ w ∈ u_ws RX1 TX1 14, w ∈ wsX2_setSteps := fun w h => List.mem_cons_of_mem _ (am_inX1 w h)
  have hf_15 := ht 110 (.fieldLink RX2 15 "ApartCost$Planner" "steps" "[J") rfl
  have hf_21 := ht 106 (.fieldLink RX2 21 "ApartCost$Planner" "product" "LApartCost$Product;") rfl
  have hf_56 := ht 59 (.fieldLink RX2 56 "ApartCost$Product" "acts" "I") rfl
  refine lv_iconst (v := 0) hx hb dX2_setSteps_0 (by decide) ?_
  refine lv_istore_n (lv' := [(1, .int 0), (0, .ref (ad 2))]) hx hb dX2_setSteps_1 rfl hl (by decide) rfl (fun ls hl => ?_)
  refine am_loop (σ := Nat) (fun q n9 H locs ls => n9 = na - q ∧ q ≤ na ∧ va_P D vwCl (ac_w ad cI cL fi fl ai (va_up al 17 (ac_sso (ac_cents (ai 6) (ai 7) (al 8) (al 10) (al 11)) na (al 17) q))) H ∧ va_S A s.heap H locs ∧ lv_has ls 3 [(0, .ref (ad 2)), (1, .int (nI q))]) ?_ 0 (na - 0) H locs ls ⟨rfl, (by omega), hP, hS, lv_sub hl [1, 0] rfl⟩
  rintro b n9 H locs ls ⟨hn_2, hk, hP, hS, hl⟩ ih_2
  have hD : va_D A (ac_w ad cI cL fi fl ai (va_up al 17 (ac_sso (ac_cents (ai 6) (ai 7) (al 8) (al 10) (al 11)) na (al 17) b))) := am_D hD rfl
  refine lv_iload_n hx hb dX2_setSteps_2 rfl (lv_at hl 1 rfl) ?_
  refine lv_aload_n hx hb dX2_setSteps_3 rfl (lv_at hl 0 rfl) ?_
  refine va_get (D := D) (ci := 2) (v := .ref (ad 1)) (C := RX2) (T := TX2) (N := 4) hx hb hts hin_X2 hown hK hP 2 rfl rfl 0 (by decide) hf_21 (fun _ h9 => h9) rfl dX2_setSteps_4 ?_
  refine va_get (D := D) (ci := 1) (v := .int (fi 0)) (C := RX1) (T := TX1) (N := 14) hx hb hts hin_X1 hown hK hP 1 rfl rfl 0 (by decide) hf_56 (fun _ h9 => h9) rfl dX2_setSteps_7 ?_
  refine lv_icmp_ge (tgt := 61) hx hb dX2_setSteps_10 (by decide) (fun c_10 => ?_) (fun c_10 => ?_)
  · skip
    have hke_10 : na ≤ b := (am_ge hna (by omega) (by omega)).mp c_10
    have hkq_10 : na = b := by omega
    subst hkq_10
    exact am_vretM hx hb hr hlocks hP hS dX2_setSteps_61
  · skip
    have hkl_10 : b < na := Nat.lt_of_not_le (fun z => c_10 ((am_ge hna (by omega) (by omega)).mpr z))
    refine lv_iconst (v := (-1)) hx hb dX2_setSteps_13 (by decide) ?_
    refine lv_istore_n (lv' := [(2, .int (-1)), (0, .ref (ad 2)), (1, .int (nI b))]) hx hb dX2_setSteps_14 rfl hl (by decide) rfl (fun ls hl => ?_)
    refine am_loop (σ := Nat) (fun q n9 H locs ls => n9 = na + 1 - q ∧ q ≤ na + 1 ∧ va_P D vwCl (ac_w ad cI cL fi fl ai (va_up al 17 (ac_ssi (ac_cents (ai 6) (ai 7) (al 8) (al 10) (al 11)) b (ac_sso (ac_cents (ai 6) (ai 7) (al 8) (al 10) (al 11)) na (al 17) b) q))) H ∧ va_S A s.heap H locs ∧ lv_has ls 3 [(0, .ref (ad 2)), (1, .int (nI b)), (2, .int (ac_la q))]) ?_ 0 (na + 1 - 0) H locs ls ⟨rfl, (by omega), hP, hS, lv_sub hl [1, 2, 0] rfl⟩
    rintro j n9 H locs ls ⟨hn_15, hjk, hP, hS, hl⟩ ih_15
    have hD : va_D A (ac_w ad cI cL fi fl ai (va_up al 17 (ac_ssi (ac_cents (ai 6) (ai 7) (al 8) (al 10) (al 11)) b (ac_sso (ac_cents (ai 6) (ai 7) (al 8) (al 10) (al 11)) na (al 17) b) j))) := am_D hD rfl
    refine lv_iload_n hx hb dX2_setSteps_15 rfl (lv_at hl 2 rfl) ?_
    refine lv_aload_n hx hb dX2_setSteps_16 rfl (lv_at hl 0 rfl) ?_
    refine va_get (D := D) (ci := 2) (v := .ref (ad 1)) (C := RX2) (T := TX2) (N := 4) hx hb hts hin_X2 hown hK hP 2 rfl rfl 0 (by decide) hf_21 (fun _ h9 => h9) rfl dX2_setSteps_17 ?_
    refine va_get (D := D) (ci := 1) (v := .int (fi 0)) (C := RX1) (T := TX1) (N := 14) hx hb hts hin_X1 hown hK hP 1 rfl rfl 0 (by decide) hf_56 (fun _ h9 => h9) rfl dX2_setSteps_20 ?_
    refine lv_icmp_ge (tgt := 55) hx hb dX2_setSteps_23 (by decide) (fun c_23 => ?_) (fun c_23 => ?_)
    · skip
      have hke_23 : na + 1 ≤ j := (ac_la_ge hna (by omega) (by omega)).mp c_23
      have hkq_23 : j = na + 1 := by omega
      subst hkq_23
      refine lv_iinc (v := nI (b + 1)) (lv' := [(1, .int (nI (b + 1))), (0, .ref (ad 2)), (2, .int (ac_la (na + 1)))]) hx hb dX2_setSteps_55 hl (k := 1) rfl (nI_1 b) (by decide) rfl (fun ls hl => ?_)
      refine lv_goto (tgt := 2) hx hb dX2_setSteps_58 (by decide) ?_
      have e_2_0 : (ac_sso (ac_cents (ai 6) (ai 7) (al 8) (al 10) (al 11)) na (al 17) (b + 1)) = (ac_ssi (ac_cents (ai 6) (ai 7) (al 8) (al 10) (al 11)) b (ac_sso (ac_cents (ai 6) (ai 7) (al 8) (al 10) (al 11)) na (al 17) b) (na + 1)) := by first | rfl | (simp only [ac_sso, c_23, if_true, if_false, eq_self, not_true_eq_false, not_false_eq_true, ite_true, ite_false, ↓reduceIte]; done) | (simp [ac_sso, c_23]; done)
      refine ih_2 (b + 1) (na - (b + 1)) H locs ls (by omega) ⟨rfl, (by omega), ?_, hS, ?_⟩
      · (try dsimp only); (try rw [e_2_0]); exact hP
      · (try dsimp only); (try rw [e_2_0]); exact lv_sub hl [1, 0] rfl
    · skip
      have hkl_23 : j < na + 1 := Nat.lt_of_not_le (fun z => c_23 ((ac_la_ge hna (by omega) (by omega)).mpr z))
      refine lv_aload_n hx hb dX2_setSteps_26 rfl (lv_at hl 0 rfl) ?_
      refine va_get (D := D) (ci := 2) (v := .ref (ad 17)) (C := RX2) (T := TX2) (N := 4) hx hb hts hin_X2 hown hK hP 2 rfl rfl 2 (by decide) hf_15 (fun _ h9 => h9) rfl dX2_setSteps_27 ?_
      refine lv_iload_n hx hb dX2_setSteps_30 rfl (lv_at hl 2 rfl) ?_
      refine lv_iload_n hx hb dX2_setSteps_31 rfl (lv_at hl 1 rfl) ?_
      refine am_callRi (W.runS (As := [.int (ac_la j), .int (nI b)]) (rest := [.ref (ad 17)]) ⟨hx, hb, hml, hown, hts⟩ (c_X2_stepPlace l D _ _ j b (by omega) (by omega)) (va_cwS 2 hts (am_gS (am_in 296 rfl) (am_in 297 rfl) (am_in 32 rfl) (am_in 298 rfl)) rfl rfl rfl (by decide +kernel) ⟨Nat.le_of_ble_eq_true rfl, Nat.le_of_ble_eq_true rfl⟩) (am_preSR hP hK hN) rfl rfl hl.1 rfl (lv_room (Nat.le_of_ble_eq_true rfl)) dX2_setSteps_32 ⟨Nat.zero_le _, Nat.zero_le _⟩) ?_
      refine lv_aload_n hx hb dX2_setSteps_35 rfl (lv_at hl 0 rfl) ?_
      refine va_get (D := D) (ci := 2) (v := .ref (ad 1)) (C := RX2) (T := TX2) (N := 4) hx hb hts hin_X2 hown hK hP 2 rfl rfl 0 (by decide) hf_21 (fun _ h9 => h9) rfl dX2_setSteps_36 ?_
      refine lv_iload_n hx hb dX2_setSteps_39 rfl (lv_at hl 2 rfl) ?_
      refine lv_iload_n hx hb dX2_setSteps_40 rfl (lv_at hl 1 rfl) ?_
      refine am_callRl (W.runV (As := [.int (ac_la j), .int (nI b)]) (rest := [.int (nI (ac_pl j b)), .ref (ad 17)]) ⟨hx, hb, hml, hown, hts⟩ (c_X1_centsOfStep l D ad cI cL fi fl ai (va_up al 17 (ac_ssi (ac_cents (ai 6) (ai 7) (al 8) (al 10) (al 11)) b (ac_sso (ac_cents (ai 6) (ai 7) (al 8) (al 10) (al 11)) na (al 17) b) j)) j b na hna hnl hto hsi (by omega) (by omega)) (cwV 2 hts (am_gV (am_in 299 rfl) (am_in 300 rfl) (am_in 301 rfl) (am_in 30 rfl) (am_in 302 rfl)) rfl rfl rfl (by decide +kernel) ⟨Nat.le_of_ble_eq_true rfl, Nat.le_of_ble_eq_true rfl⟩) (am_preVR 1 1 rfl rfl rfl hP hK hN) rfl rfl hl.1 rfl (lv_room (Nat.le_of_ble_eq_true rfl)) dX2_setSteps_41 ⟨Nat.zero_le _, Nat.zero_le _⟩) ?_
      refine lv_ldc2 (v := 27720) hx hb hown (ht 303 _ rfl) dX2_setSteps_44 ?_
      refine lv_lmul hx hb dX2_setSteps_47 ?_
      refine am_last hx hb hK hP hD hS 17 1 rfl rfl (ac_pl j b) rfl (ac_pl_lt (by omega) (by omega)) (by decide) (ac_w ad cI cL fi fl ai (va_up al 17 (vp_updL (ac_ssi (ac_cents (ai 6) (ai 7) (al 8) (al 10) (al 11)) b (ac_sso (ac_cents (ai 6) (ai 7) (al 8) (al 10) (al 11)) na (al 17) b) j) (ac_pl j b) ((ac_cents (ai 6) (ai 7) (al 8) (al 10) (al 11) j b) * 27720)))) rfl dX2_setSteps_48 (fun H locs hP hD hS => ?_)
      refine lv_iinc (v := ac_la (j + 1)) (lv' := [(2, .int (ac_la (j + 1))), (0, .ref (ad 2)), (1, .int (nI b))]) hx hb dX2_setSteps_49 hl (k := 2) rfl (ac_la_inc j) (by decide) rfl (fun ls hl => ?_)
      refine lv_goto (tgt := 15) hx hb dX2_setSteps_52 (by decide) ?_
      have e_15_0 : (ac_ssi (ac_cents (ai 6) (ai 7) (al 8) (al 10) (al 11)) b (ac_sso (ac_cents (ai 6) (ai 7) (al 8) (al 10) (al 11)) na (al 17) b) (j + 1)) = (vp_updL (ac_ssi (ac_cents (ai 6) (ai 7) (al 8) (al 10) (al 11)) b (ac_sso (ac_cents (ai 6) (ai 7) (al 8) (al 10) (al 11)) na (al 17) b) j) (ac_pl j b) ((ac_cents (ai 6) (ai 7) (al 8) (al 10) (al 11) j b) * 27720)) := by first | rfl | (simp only [ac_ssi, c_23, if_true, if_false, eq_self, not_true_eq_false, not_false_eq_true, ite_true, ite_false, ↓reduceIte]; done) | (simp [ac_ssi, c_23]; done)
      refine ih_15 (j + 1) (na + 1 - (j + 1)) H locs ls (by omega) ⟨rfl, (by omega), ?_, hS, ?_⟩
      · (try dsimp only); (try rw [e_15_0]); exact hP
      · (try dsimp only); (try rw [e_15_0]); exact lv_sub hl [1, 2, 0] rfl

set_option maxHeartbeats 4000000 in
set_option maxRecDepth 100000 in
theorem c_X2_setMost (l : Launch) (D : va_G) (ad : Nat → Nat) (cI cL : ClassId) (fi : Nat → Int32) (fl : Nat → Int64) (ai : Nat → Nat → Int32) (al : Nat → Nat → Int64) (A : Nat → Prop) (sn : Nat) (na : Nat) (nr : Nat) (hna : fi 0 = nI na) (hnl : na ≤ 10) (hnr : fi 2 = nI nr) (hnrl : nr ≤ 16) (hsn : sn < 1024) : Met l yX2_setMost wsX2_setMost (am_rm 4 90) (va_Pc [.ref (ad 2), .int (nI sn)] (am_M nwL vwCl D A (ac_w ad cI cL fi fl ai al) [(cI, .int), (cL, .long)])) (am_Mv vwCl D (ac_w ad cI cL fi fl ai (va_up al 18 (ac_setMost (ai 5) (ai 14) (ai 9) (al 15) (al 16) (al 17) (fi 1) na nr sn (al 18)))) A) 0 0 A := by
  refine am_startM (cc := cX2_setMost) (maxL := 7) (ret := none) (by decide) rfl (Nat.le_of_ble_eq_true rfl) [(0, .ref (ad 2)), (1, .int (nI sn))] rfl ?_
  intro p e s m below meth c ls hx hb hr hml hown hts hlocks hK hN hD H locs hP hS hl
  have hown : s.vm.findClass RX2 = some m.cls := hown
  have ht := am_ht hts
  have hin_X2 : ∀ w ∈ u_ws RX2 TX2 4, w ∈ wsX2_setMost := fun w h => List.mem_cons_of_mem _ (am_inX2 w h)
  have hin_X1 : ∀ w ∈ u_ws RX1 TX1 14, w ∈ wsX2_setMost := fun w h => List.mem_cons_of_mem _ (am_inX1 w h)
  have hf_18 := ht 111 (.fieldLink RX2 18 "ApartCost$Planner" "most" "[J") rfl
  have hf_21 := ht 106 (.fieldLink RX2 21 "ApartCost$Planner" "product" "LApartCost$Product;") rfl
  have hf_56 := ht 59 (.fieldLink RX2 56 "ApartCost$Product" "acts" "I") rfl
  refine lv_aload_n hx hb dX2_setMost_0 rfl (lv_at hl 0 rfl) ?_
  refine va_get (D := D) (ci := 2) (v := .ref (ad 1)) (C := RX2) (T := TX2) (N := 4) hx hb hts hin_X2 hown hK hP 2 rfl rfl 0 (by decide) hf_21 (fun _ h9 => h9) rfl dX2_setMost_1 ?_
  refine lv_iload_n hx hb dX2_setMost_4 rfl (lv_at hl 1 rfl) ?_
  refine am_callRi (W.runV (As := [.int (nI sn)]) (rest := []) ⟨hx, hb, hml, hown, hts⟩ (c_X1_lastsOf l D ad cI cL fi fl ai al (nI sn) na hna hnl) (cwV 1 hts (am_gV (am_in 308 rfl) (am_in 265 rfl) (am_in 266 rfl) (am_in 30 rfl) (am_in 267 rfl)) rfl rfl rfl (by decide +kernel) ⟨Nat.le_of_ble_eq_true rfl, Nat.le_of_ble_eq_true rfl⟩) (am_preVR 1 1 rfl rfl rfl hP hK hN) rfl rfl hl.1 rfl (lv_room (Nat.le_of_ble_eq_true rfl)) dX2_setMost_5 ⟨Nat.zero_le _, Nat.zero_le _⟩) ?_
  refine lv_istore_n (lv' := [(2, .int (ac_lasts (ai 9) na (nI sn))), (0, .ref (ad 2)), (1, .int (nI sn))]) hx hb dX2_setMost_8 rfl hl (by decide) rfl (fun ls hl => ?_)
  refine lv_iload_n hx hb dX2_setMost_9 rfl (lv_at hl 0 rfl) ?_
  refine lv_if_ne (tgt := 14) hx hb dX2_setMost_10 (by decide) (fun c_10 => ?_) (fun c_10 => ?_)
  · skip
    refine lv_aload_n hx hb dX2_setMost_14 rfl (lv_at hl 1 rfl) ?_
    refine va_get (D := D) (ci := 2) (v := .ref (ad 1)) (C := RX2) (T := TX2) (N := 4) hx hb hts hin_X2 hown hK hP 2 rfl rfl 0 (by decide) hf_21 (fun _ h9 => h9) rfl dX2_setMost_15 ?_
    refine lv_iload_n hx hb dX2_setMost_18 rfl (lv_at hl 2 rfl) ?_
    refine am_callRi (W.runV (As := [.int (nI sn)]) (rest := []) ⟨hx, hb, hml, hown, hts⟩ (c_X1_nextsOf l D ad cI cL fi fl ai al (nI sn) na hna hnl) (cwV 1 hts (am_gV (am_in 309 rfl) (am_in 310 rfl) (am_in 311 rfl) (am_in 30 rfl) (am_in 312 rfl)) rfl rfl rfl (by decide +kernel) ⟨Nat.le_of_ble_eq_true rfl, Nat.le_of_ble_eq_true rfl⟩) (am_preVR 1 1 rfl rfl rfl hP hK hN) rfl rfl hl.1 rfl (lv_room (Nat.le_of_ble_eq_true rfl)) dX2_setMost_19 ⟨Nat.zero_le _, Nat.zero_le _⟩) ?_
    refine lv_istore_n (lv' := [(3, .int (ac_nexts (ai 9) (nI sn) na)), (2, .int (ac_lasts (ai 9) na (nI sn))), (0, .ref (ad 2)), (1, .int (nI sn))]) hx hb dX2_setMost_22 rfl hl (by decide) rfl (fun ls hl => ?_)
    refine lv_aload_n hx hb dX2_setMost_23 rfl (lv_at hl 2 rfl) ?_
    refine lv_iload_n hx hb dX2_setMost_24 rfl (lv_at hl 3 rfl) ?_
    refine am_callRl (W.runV (As := [.int (nI sn)]) (rest := []) ⟨hx, hb, hml, hown, hts⟩ (c_X2_endOf l D ad cI cL fi fl ai al (nI sn) na nr hna hnl hnr hnrl) (cwV 1 hts (am_gV (am_in 313 rfl) (am_in 314 rfl) (am_in 4 rfl) (am_in 32 rfl) (am_in 315 rfl)) rfl rfl rfl (by decide +kernel) ⟨Nat.le_of_ble_eq_true rfl, Nat.le_of_ble_eq_true rfl⟩) (am_preVR 2 2 rfl rfl rfl hP hK hN) rfl rfl hl.1 rfl (lv_room (Nat.le_of_ble_eq_true rfl)) dX2_setMost_25 ⟨Nat.zero_le _, Nat.zero_le _⟩) ?_
    refine lv_lstore (lv' := [(4, .long (ac_end (ai 5) (ai 14) (al 15) (al 16) (fi 1) na nr (nI sn))), (3, .int (ac_nexts (ai 9) (nI sn) na)), (2, .int (ac_lasts (ai 9) na (nI sn))), (0, .ref (ad 2)), (1, .int (nI sn))]) hx hb dX2_setMost_28 hl (by decide) rfl (fun ls hl => ?_)
    refine lv_iconst (v := 0) hx hb dX2_setMost_30 (by decide) ?_
    refine lv_istore (lv' := [(6, .int 0), (4, .long (ac_end (ai 5) (ai 14) (al 15) (al 16) (fi 1) na nr (nI sn))), (3, .int (ac_nexts (ai 9) (nI sn) na)), (2, .int (ac_lasts (ai 9) na (nI sn))), (0, .ref (ad 2)), (1, .int (nI sn))]) hx hb dX2_setMost_31 hl (by decide) rfl (fun ls hl => ?_)
    refine am_loop (σ := Nat) (fun q n9 H locs ls => n9 = na - q ∧ q ≤ na ∧ va_P D vwCl (ac_w ad cI cL fi fl ai (va_up al 18 (ac_sml (al 17) sn (ac_lasts (ai 9) na (nI sn)) (ac_nexts (ai 9) (nI sn) na) (ac_end (ai 5) (ai 14) (al 15) (al 16) (fi 1) na nr (nI sn)) na (al 18) q))) H ∧ va_S A s.heap H locs ∧ lv_has ls 7 [(0, .ref (ad 2)), (1, .int (nI sn)), (2, .int (ac_lasts (ai 9) na (nI sn))), (3, .int (ac_nexts (ai 9) (nI sn) na)), (4, .long (ac_end (ai 5) (ai 14) (al 15) (al 16) (fi 1) na nr (nI sn))), (6, .int (nI q))]) ?_ 0 (na - 0) H locs ls ⟨rfl, (by omega), hP, hS, lv_sub hl [4, 5, 3, 2, 1, 0] rfl⟩
    rintro k n9 H locs ls ⟨hn_33, hk, hP, hS, hl⟩ ih_33
    have hD : va_D A (ac_w ad cI cL fi fl ai (va_up al 18 (ac_sml (al 17) sn (ac_lasts (ai 9) na (nI sn)) (ac_nexts (ai 9) (nI sn) na) (ac_end (ai 5) (ai 14) (al 15) (al 16) (fi 1) na nr (nI sn)) na (al 18) k))) := am_D hD rfl
    refine lv_iload hx hb dX2_setMost_33 (lv_at hl 5 rfl) ?_
    refine lv_aload_n hx hb dX2_setMost_35 rfl (lv_at hl 0 rfl) ?_
    refine va_get (D := D) (ci := 2) (v := .ref (ad 1)) (C := RX2) (T := TX2) (N := 4) hx hb hts hin_X2 hown hK hP 2 rfl rfl 0 (by decide) hf_21 (fun _ h9 => h9) rfl dX2_setMost_36 ?_
    refine va_get (D := D) (ci := 1) (v := .int (fi 0)) (C := RX1) (T := TX1) (N := 14) hx hb hts hin_X1 hown hK hP 1 rfl rfl 0 (by decide) hf_56 (fun _ h9 => h9) rfl dX2_setMost_39 ?_
    refine lv_icmp_ge (tgt := 82) hx hb dX2_setMost_42 (by decide) (fun c_42 => ?_) (fun c_42 => ?_)
    · skip
      have hke_42 : na ≤ k := (am_ge hna (by omega) (by omega)).mp c_42
      have hkq_42 : na = k := by omega
      subst hkq_42
      exact am_vretM hx hb hr hlocks (by simp only [ac_setMost, if_neg c_10]; exact hP) hS dX2_setMost_82
    · skip
      have hkl_42 : k < na := Nat.lt_of_not_le (fun z => c_42 ((am_ge hna (by omega) (by omega)).mpr z))
      refine lv_iload_n hx hb dX2_setMost_45 rfl (lv_at hl 2 rfl) ?_
      refine lv_iload hx hb dX2_setMost_46 (lv_at hl 5 rfl) ?_
      refine am_callRi (va_Run.run (va_runSN (As := [.int (ac_lasts (ai 9) na (nI sn)), .int (nI k)]) (rest := []) ⟨hx, hb, hml, hown, hts⟩ (c_X0_has l D _ _ (ac_lasts (ai 9) na (nI sn)) (nI k)) ⟨va_cnB 2 hts (am_gN (am_in 206 rfl)) rfl rfl rfl (am_nw_at hN 2 rfl) (ht 29 _ rfl) (by decide +kernel) ⟨Nat.le_of_ble_eq_true rfl, Nat.le_of_ble_eq_true rfl⟩, (ht 205 _ rfl), trivial⟩ (am_preSR hP hK hN) rfl rfl hl.1 rfl (lv_room (Nat.le_of_ble_eq_true rfl)) dX2_setMost_48 ⟨Nat.zero_le _, Nat.zero_le _⟩)) ?_
      refine lv_if_eq (tgt := 76) hx hb dX2_setMost_51 (by decide) (fun c_51 => ?_) (fun c_51 => ?_)
      · skip
        refine lv_iinc (v := nI (k + 1)) (lv' := [(6, .int (nI (k + 1))), (0, .ref (ad 2)), (1, .int (nI sn)), (2, .int (ac_lasts (ai 9) na (nI sn))), (3, .int (ac_nexts (ai 9) (nI sn) na)), (4, .long (ac_end (ai 5) (ai 14) (al 15) (al 16) (fi 1) na nr (nI sn)))]) hx hb dX2_setMost_76 hl (k := 5) rfl (nI_1 k) (by decide) rfl (fun ls hl => ?_)
        refine lv_goto (tgt := 33) hx hb dX2_setMost_79 (by decide) ?_
        have e_33_0 : (ac_sml (al 17) sn (ac_lasts (ai 9) na (nI sn)) (ac_nexts (ai 9) (nI sn) na) (ac_end (ai 5) (ai 14) (al 15) (al 16) (fi 1) na nr (nI sn)) na (al 18) (k + 1)) = (ac_sml (al 17) sn (ac_lasts (ai 9) na (nI sn)) (ac_nexts (ai 9) (nI sn) na) (ac_end (ai 5) (ai 14) (al 15) (al 16) (fi 1) na nr (nI sn)) na (al 18) k) := by first | rfl | (simp only [ac_sml, c_42, c_51, if_true, if_false, eq_self, not_true_eq_false, not_false_eq_true, ite_true, ite_false, ↓reduceIte]; done) | (simp [ac_sml, c_42, c_51]; done)
        refine ih_33 (k + 1) (na - (k + 1)) H locs ls (by omega) ⟨rfl, (by omega), ?_, hS, ?_⟩
        · (try dsimp only); (try rw [e_33_0]); exact hP
        · (try dsimp only); (try rw [e_33_0]); exact lv_sub hl [1, 2, 3, 4, 5, 0] rfl
      · skip
        refine lv_aload_n hx hb dX2_setMost_54 rfl (lv_at hl 0 rfl) ?_
        refine va_get (D := D) (ci := 2) (v := .ref (ad 18)) (C := RX2) (T := TX2) (N := 4) hx hb hts hin_X2 hown hK hP 2 rfl rfl 3 (by decide) hf_18 (fun _ h9 => h9) rfl dX2_setMost_55 ?_
        refine lv_iload_n hx hb dX2_setMost_58 rfl (lv_at hl 1 rfl) ?_
        refine lv_bipush (v := 10) hx hb dX2_setMost_59 (by decide) ?_
        refine lv_imul hx hb dX2_setMost_61 ?_
        refine lv_iload hx hb dX2_setMost_62 (lv_at hl 5 rfl) ?_
        refine lv_iadd hx hb dX2_setMost_64 ?_
        refine lv_aload_n hx hb dX2_setMost_65 rfl (lv_at hl 0 rfl) ?_
        refine lv_iload hx hb dX2_setMost_66 (lv_at hl 5 rfl) ?_
        refine lv_iload_n hx hb dX2_setMost_68 rfl (lv_at hl 1 rfl) ?_
        refine lv_iload_n hx hb dX2_setMost_69 rfl (lv_at hl 3 rfl) ?_
        refine lv_lload hx hb dX2_setMost_70 (lv_at hl 4 rfl) ?_
        refine am_callRl (W.runV (As := [.int (nI k), .int (nI sn), .int (ac_nexts (ai 9) (nI sn) na), .long (ac_end (ai 5) (ai 14) (al 15) (al 16) (fi 1) na nr (nI sn))]) (rest := [.int (((nI sn) * 10) + (nI k)), .ref (ad 18)]) ⟨hx, hb, hml, hown, hts⟩ (c_X2_mostFrom l D ad cI cL fi fl ai (va_up al 18 (ac_sml (al 17) sn (ac_lasts (ai 9) na (nI sn)) (ac_nexts (ai 9) (nI sn) na) (ac_end (ai 5) (ai 14) (al 15) (al 16) (fi 1) na nr (nI sn)) na (al 18) k)) (k + 1) sn (ac_nexts (ai 9) (nI sn) na) (ac_end (ai 5) (ai 14) (al 15) (al 16) (fi 1) na nr (nI sn)) na hna hnl (by omega) hsn) (cwV 4 hts (am_gV (am_in 329 rfl) (am_in 330 rfl) (am_in 5 rfl) (am_in 32 rfl) (am_in 331 rfl)) rfl rfl rfl (by decide +kernel) ⟨Nat.le_of_ble_eq_true rfl, Nat.le_of_ble_eq_true rfl⟩) (am_preVR 2 2 rfl rfl rfl hP hK hN) rfl rfl hl.1 rfl (lv_room (Nat.le_of_ble_eq_true rfl)) dX2_setMost_72 ⟨Nat.zero_le _, Nat.zero_le _⟩) ?_
        refine am_last hx hb hK hP hD hS 18 1 rfl rfl (sn * 10 + k) (am_ix10 sn k) (by omega) (by decide) (ac_w ad cI cL fi fl ai (va_up al 18 (vp_updL (ac_sml (al 17) sn (ac_lasts (ai 9) na (nI sn)) (ac_nexts (ai 9) (nI sn) na) (ac_end (ai 5) (ai 14) (al 15) (al 16) (fi 1) na nr (nI sn)) na (al 18) k) (sn * 10 + k) (ac_mfrom (ac_sml (al 17) sn (ac_lasts (ai 9) na (nI sn)) (ac_nexts (ai 9) (nI sn) na) (ac_end (ai 5) (ai 14) (al 15) (al 16) (fi 1) na nr (nI sn)) na (al 18) k) (al 17) (k + 1) sn (ac_nexts (ai 9) (nI sn) na) (ac_end (ai 5) (ai 14) (al 15) (al 16) (fi 1) na nr (nI sn)) na)))) rfl dX2_setMost_75 (fun H locs hP hD hS => ?_)
        refine lv_iinc (v := nI (k + 1)) (lv' := [(6, .int (nI (k + 1))), (0, .ref (ad 2)), (1, .int (nI sn)), (2, .int (ac_lasts (ai 9) na (nI sn))), (3, .int (ac_nexts (ai 9) (nI sn) na)), (4, .long (ac_end (ai 5) (ai 14) (al 15) (al 16) (fi 1) na nr (nI sn)))]) hx hb dX2_setMost_76 hl (k := 5) rfl (nI_1 k) (by decide) rfl (fun ls hl => ?_)
        refine lv_goto (tgt := 33) hx hb dX2_setMost_79 (by decide) ?_
        have e_33_0 : (ac_sml (al 17) sn (ac_lasts (ai 9) na (nI sn)) (ac_nexts (ai 9) (nI sn) na) (ac_end (ai 5) (ai 14) (al 15) (al 16) (fi 1) na nr (nI sn)) na (al 18) (k + 1)) = (vp_updL (ac_sml (al 17) sn (ac_lasts (ai 9) na (nI sn)) (ac_nexts (ai 9) (nI sn) na) (ac_end (ai 5) (ai 14) (al 15) (al 16) (fi 1) na nr (nI sn)) na (al 18) k) (sn * 10 + k) (ac_mfrom (ac_sml (al 17) sn (ac_lasts (ai 9) na (nI sn)) (ac_nexts (ai 9) (nI sn) na) (ac_end (ai 5) (ai 14) (al 15) (al 16) (fi 1) na nr (nI sn)) na (al 18) k) (al 17) (k + 1) sn (ac_nexts (ai 9) (nI sn) na) (ac_end (ai 5) (ai 14) (al 15) (al 16) (fi 1) na nr (nI sn)) na)) := by first | rfl | (simp only [ac_sml, c_42, c_51, if_true, if_false, eq_self, not_true_eq_false, not_false_eq_true, ite_true, ite_false, ↓reduceIte]; done) | (simp [ac_sml, c_42, c_51]; done)
        refine ih_33 (k + 1) (na - (k + 1)) H locs ls (by omega) ⟨rfl, (by omega), ?_, hS, ?_⟩
        · (try dsimp only); (try rw [e_33_0]); exact hP
        · (try dsimp only); (try rw [e_33_0]); exact lv_sub hl [1, 2, 3, 4, 5, 0] rfl
  · skip
    exact am_vretM hx hb hr hlocks (by simp only [ac_setMost, if_pos c_10]; exact hP) hS dX2_setMost_13

set_option maxHeartbeats 4000000 in
set_option maxRecDepth 100000 in
theorem c_X2_greatestGain (l : Launch) (D : va_G) (ad : Nat → Nat) (cI cL : ClassId) (fi : Nat → Int32) (fl : Nat → Int64) (ai : Nat → Nat → Int32) (al : Nat → Nat → Int64) (A : Nat → Prop) (na : Nat) (nr : Nat) (hna : fi 0 = nI na) (hnl : na ≤ 10) (hnr : fi 2 = nI nr) (hnrl : nr ≤ 16) (hto : ∀ a, a < na → ∃ t, t < 6 ∧ (ai 6) a = nI t) (hsi : ∀ a, a < na → ∃ t, t < 6 ∧ (ai 7) a = nI t) : Met l yX2_greatestGain wsX2_greatestGain (am_rm 5 116) (va_Pc [.ref (ad 2)] (am_M nwL vwCl D A (ac_w ad cI cL fi fl ai al) [(cI, .int), (cL, .long)])) (am_Ml vwCl D (ac_rg fi ai al na nr) (ac_w ad cI cL fi fl ai (va_up (va_up al 17 (ac_rs ai al na)) 18 (ac_rd fi ai al na nr))) A) 0 0 A := by
  refine am_startM (cc := cX2_greatestGain) (maxL := 2) (ret := (some .long)) (by decide) rfl (Nat.le_of_ble_eq_true rfl) [(0, .ref (ad 2))] rfl ?_
  intro p e s m below meth c ls hx hb hr hml hown hts hlocks hK hN hD H locs hP hS hl
  have hown : s.vm.findClass RX2 = some m.cls := hown
  have ht := am_ht hts
  have hin_X2 : ∀ w ∈ u_ws RX2 TX2 4, w ∈ wsX2_greatestGain := fun w h => List.mem_cons_of_mem _ (am_inX2 w h)
  have hf_21 := ht 106 (.fieldLink RX2 21 "ApartCost$Planner" "product" "LApartCost$Product;") rfl
  have hp2 := am_p2 hnl
  refine lv_aload_n hx hb dX2_greatestGain_0 rfl (lv_at hl 0 rfl) ?_
  refine am_callMv (va_runV (As := []) (rest := []) ⟨hx, hb, hml, hown, hts⟩ (c_X2_setSteps l D ad cI cL fi fl ai al A na hna hnl hto hsi) (cwV 0 hts (am_gV (am_in 293 rfl) (am_in 294 rfl) (am_in 2 rfl) (am_in 32 rfl) (am_in 295 rfl)) rfl rfl rfl (by decide +kernel) ⟨Nat.le_of_ble_eq_true rfl, Nat.le_of_ble_eq_true rfl⟩) (am_preVM 2 2 rfl rfl rfl hP hK hN hD) rfl rfl hl.1 rfl (lv_room (Nat.le_of_ble_eq_true rfl)) dX2_greatestGain_1 ⟨Nat.zero_le _, Nat.zero_le _⟩) hS (fun H locs hP hS => ?_)
  have hP : va_P D vwCl (ac_w ad cI cL fi fl ai (va_up al 17 (ac_sso (ac_cents (ai 6) (ai 7) (al 8) (al 10) (al 11)) na (al 17) na))) H := hP
  have hD : va_D A (ac_w ad cI cL fi fl ai (va_up al 17 (ac_sso (ac_cents (ai 6) (ai 7) (al 8) (al 10) (al 11)) na (al 17) na))) := am_D hD rfl
  refine lv_aload_n hx hb dX2_greatestGain_4 rfl (lv_at hl 0 rfl) ?_
  refine va_get (D := D) (ci := 2) (v := .ref (ad 1)) (C := RX2) (T := TX2) (N := 4) hx hb hts hin_X2 hown hK hP 2 rfl rfl 0 (by decide) hf_21 (fun _ h9 => h9) rfl dX2_greatestGain_5 ?_
  refine am_callRi (W.runV (As := []) (rest := []) ⟨hx, hb, hml, hown, hts⟩ (c_X1_allActs l D ad cI cL fi fl ai (va_up al 17 (ac_sso (ac_cents (ai 6) (ai 7) (al 8) (al 10) (al 11)) na (al 17) na))) (cwV 0 hts (am_gV (am_in 304 rfl) (am_in 261 rfl) (am_in 262 rfl) (am_in 30 rfl) (am_in 263 rfl)) rfl rfl rfl (by decide +kernel) ⟨Nat.le_of_ble_eq_true rfl, Nat.le_of_ble_eq_true rfl⟩) (am_preVR 1 1 rfl rfl rfl hP hK hN) rfl rfl hl.1 rfl (lv_room (Nat.le_of_ble_eq_true rfl)) dX2_greatestGain_8 ⟨Nat.zero_le _, Nat.zero_le _⟩) ?_
  refine am_topi (am_all hna hnl) ?_
  refine lv_istore_n (lv' := [(1, .int (nI (2 ^ na - 1))), (0, .ref (ad 2))]) hx hb dX2_greatestGain_11 rfl hl (by decide) rfl (fun ls hl => ?_)
  refine am_loop (σ := (Nat) × (Nat → Int64)) (fun q n9 H locs ls => n9 = q.1 ∧ q.1 ≤ 2 ^ na - 1 ∧ ac_down (ai 5) (ai 14) (ai 9) (al 15) (al 16) (ac_sso (ac_cents (ai 6) (ai 7) (al 8) (al 10) (al 11)) na (al 17) na) (fi 1) na nr q.1 q.2 = ac_down (ai 5) (ai 14) (ai 9) (al 15) (al 16) (ac_sso (ac_cents (ai 6) (ai 7) (al 8) (al 10) (al 11)) na (al 17) na) (fi 1) na nr (2 ^ na - 1) (al 18) ∧ va_P D vwCl (ac_w ad cI cL fi fl ai (va_up (va_up al 17 (ac_sso (ac_cents (ai 6) (ai 7) (al 8) (al 10) (al 11)) na (al 17) na)) 18 q.2)) H ∧ va_S A s.heap H locs ∧ lv_has ls 2 [(0, .ref (ad 2)), (1, .int (nI q.1))]) ?_ (2 ^ na - 1, (al 18)) ((2 ^ na - 1)) H locs ls ⟨rfl, (by omega), rfl, hP, hS, lv_sub hl [1, 0] rfl⟩
  rintro ⟨sn, ff⟩ n9 H locs ls ⟨hn_12, hsk, hf, hP, hS, hl⟩ ih_12
  dsimp only at hn_12 hsk hf hP hl
  have hD : va_D A (ac_w ad cI cL fi fl ai (va_up (va_up al 17 (ac_sso (ac_cents (ai 6) (ai 7) (al 8) (al 10) (al 11)) na (al 17) na)) 18 ff)) := am_D hD rfl
  refine lv_iload_n hx hb dX2_greatestGain_12 rfl (lv_at hl 1 rfl) ?_
  refine lv_if_le (tgt := 27) hx hb dX2_greatestGain_13 (by decide) (fun c_13 => ?_) (fun c_13 => ?_)
  · skip
    have hs0 : 0 = sn := by have h := c_13; rw [show (0 : Int32) = nI 0 from rfl, nI_leI (by omega) (by omega)] at h; omega
    subst hs0
    have hf2 : ff = ac_down (ai 5) (ai 14) (ai 9) (al 15) (al 16) (ac_sso (ac_cents (ai 6) (ai 7) (al 8) (al 10) (al 11)) na (al 17) na) (fi 1) na nr (2 ^ na - 1) (al 18) := hf
    subst hf2
    refine lv_aload_n hx hb dX2_greatestGain_27 rfl (lv_at hl 0 rfl) ?_
    refine lv_iconst (v := (-1)) hx hb dX2_greatestGain_28 (by decide) ?_
    refine lv_iconst (v := 0) hx hb dX2_greatestGain_29 (by decide) ?_
    refine lv_aload_n hx hb dX2_greatestGain_30 rfl (lv_at hl 0 rfl) ?_
    refine va_get (D := D) (ci := 2) (v := .ref (ad 1)) (C := RX2) (T := TX2) (N := 4) hx hb hts hin_X2 hown hK hP 2 rfl rfl 0 (by decide) hf_21 (fun _ h9 => h9) rfl dX2_greatestGain_31 ?_
    refine lv_iconst (v := 0) hx hb dX2_greatestGain_34 (by decide) ?_
    refine am_callRi (W.runV (As := [.int 0]) (rest := [.int 0, .int (-1), .ref (ad 2)]) ⟨hx, hb, hml, hown, hts⟩ (c_X1_nextsOf l D ad cI cL fi fl ai (va_up (va_up al 17 (ac_sso (ac_cents (ai 6) (ai 7) (al 8) (al 10) (al 11)) na (al 17) na)) 18 (ac_down (ai 5) (ai 14) (ai 9) (al 15) (al 16) (ac_sso (ac_cents (ai 6) (ai 7) (al 8) (al 10) (al 11)) na (al 17) na) (fi 1) na nr (2 ^ na - 1) (al 18))) 0 na hna hnl) (cwV 1 hts (am_gV (am_in 309 rfl) (am_in 310 rfl) (am_in 311 rfl) (am_in 30 rfl) (am_in 312 rfl)) rfl rfl rfl (by decide +kernel) ⟨Nat.le_of_ble_eq_true rfl, Nat.le_of_ble_eq_true rfl⟩) (am_preVR 1 1 rfl rfl rfl hP hK hN) rfl rfl hl.1 rfl (lv_room (Nat.le_of_ble_eq_true rfl)) dX2_greatestGain_35 ⟨Nat.zero_le _, Nat.zero_le _⟩) ?_
    refine lv_aload_n hx hb dX2_greatestGain_38 rfl (lv_at hl 0 rfl) ?_
    refine lv_iconst (v := 0) hx hb dX2_greatestGain_39 (by decide) ?_
    refine am_callRl (W.runV (As := [.int 0]) (rest := [.int (ac_nexts (ai 9) 0 na), .int 0, .int (-1), .ref (ad 2)]) ⟨hx, hb, hml, hown, hts⟩ (c_X2_endOf l D ad cI cL fi fl ai (va_up (va_up al 17 (ac_sso (ac_cents (ai 6) (ai 7) (al 8) (al 10) (al 11)) na (al 17) na)) 18 (ac_down (ai 5) (ai 14) (ai 9) (al 15) (al 16) (ac_sso (ac_cents (ai 6) (ai 7) (al 8) (al 10) (al 11)) na (al 17) na) (fi 1) na nr (2 ^ na - 1) (al 18))) 0 na nr hna hnl hnr hnrl) (cwV 1 hts (am_gV (am_in 313 rfl) (am_in 314 rfl) (am_in 4 rfl) (am_in 32 rfl) (am_in 315 rfl)) rfl rfl rfl (by decide +kernel) ⟨Nat.le_of_ble_eq_true rfl, Nat.le_of_ble_eq_true rfl⟩) (am_preVR 2 2 rfl rfl rfl hP hK hN) rfl rfl hl.1 rfl (lv_room (Nat.le_of_ble_eq_true rfl)) dX2_greatestGain_40 ⟨Nat.zero_le _, Nat.zero_le _⟩) ?_
    refine am_callRl (W.runV (As := [.int (-1), .int 0, .int (ac_nexts (ai 9) 0 na), .long (ac_end (ai 5) (ai 14) (al 15) (al 16) (fi 1) na nr 0)]) (rest := []) ⟨hx, hb, hml, hown, hts⟩ (c_X2_mostFrom l D ad cI cL fi fl ai (va_up (va_up al 17 (ac_sso (ac_cents (ai 6) (ai 7) (al 8) (al 10) (al 11)) na (al 17) na)) 18 (ac_down (ai 5) (ai 14) (ai 9) (al 15) (al 16) (ac_sso (ac_cents (ai 6) (ai 7) (al 8) (al 10) (al 11)) na (al 17) na) (fi 1) na nr (2 ^ na - 1) (al 18))) 0 0 (ac_nexts (ai 9) 0 na) (ac_end (ai 5) (ai 14) (al 15) (al 16) (fi 1) na nr 0) na hna hnl (by omega) (by omega)) (cwV 4 hts (am_gV (am_in 329 rfl) (am_in 330 rfl) (am_in 5 rfl) (am_in 32 rfl) (am_in 331 rfl)) rfl rfl rfl (by decide +kernel) ⟨Nat.le_of_ble_eq_true rfl, Nat.le_of_ble_eq_true rfl⟩) (am_preVR 2 2 rfl rfl rfl hP hK hN) rfl rfl hl.1 rfl (lv_room (Nat.le_of_ble_eq_true rfl)) dX2_greatestGain_43 ⟨Nat.zero_le _, Nat.zero_le _⟩) ?_
    exact am_lretM hx hb hr hlocks hP hS rfl dX2_greatestGain_46
  · skip
    obtain ⟨sm, rfl⟩ : ∃ z, sn = z + 1 := by cases sn with | zero => exact absurd (show nI 0 ≤ 0 from by decide +kernel) c_13 | succ z => exact ⟨z, rfl⟩
    refine lv_aload_n hx hb dX2_greatestGain_16 rfl (lv_at hl 0 rfl) ?_
    refine lv_iload_n hx hb dX2_greatestGain_17 rfl (lv_at hl 1 rfl) ?_
    refine am_callMv (va_runV (As := [.int (nI (sm + 1))]) (rest := []) ⟨hx, hb, hml, hown, hts⟩ (c_X2_setMost l D ad cI cL fi fl ai (va_up (va_up al 17 (ac_sso (ac_cents (ai 6) (ai 7) (al 8) (al 10) (al 11)) na (al 17) na)) 18 ff) A (sm + 1) na nr hna hnl hnr hnrl (by omega)) (cwV 1 hts (am_gV (am_in 305 rfl) (am_in 306 rfl) (am_in 3 rfl) (am_in 32 rfl) (am_in 307 rfl)) rfl rfl rfl (by decide +kernel) ⟨Nat.le_of_ble_eq_true rfl, Nat.le_of_ble_eq_true rfl⟩) (am_preVM 2 2 rfl rfl rfl hP hK hN hD) rfl rfl hl.1 rfl (lv_room (Nat.le_of_ble_eq_true rfl)) dX2_greatestGain_18 ⟨Nat.zero_le _, Nat.zero_le _⟩) hS (fun H locs hP hS => ?_)
    have hP : va_P D vwCl (ac_w ad cI cL fi fl ai (va_up (va_up al 17 (ac_sso (ac_cents (ai 6) (ai 7) (al 8) (al 10) (al 11)) na (al 17) na)) 18 (ac_setMost (ai 5) (ai 14) (ai 9) (al 15) (al 16) (ac_sso (ac_cents (ai 6) (ai 7) (al 8) (al 10) (al 11)) na (al 17) na) (fi 1) na nr (sm + 1) ff))) H := hP
    have hD : va_D A (ac_w ad cI cL fi fl ai (va_up (va_up al 17 (ac_sso (ac_cents (ai 6) (ai 7) (al 8) (al 10) (al 11)) na (al 17) na)) 18 (ac_setMost (ai 5) (ai 14) (ai 9) (al 15) (al 16) (ac_sso (ac_cents (ai 6) (ai 7) (al 8) (al 10) (al 11)) na (al 17) na) (fi 1) na nr (sm + 1) ff))) := am_D hD rfl
    refine lv_iinc (v := nI sm) (lv' := [(1, .int (nI sm)), (0, .ref (ad 2))]) hx hb dX2_greatestGain_21 hl (k := 1) rfl (pk_m1 sm) (by decide) rfl (fun ls hl => ?_)
    refine lv_goto (tgt := 12) hx hb dX2_greatestGain_24 (by decide) ?_
    refine ih_12 (sm, (ac_setMost (ai 5) (ai 14) (ai 9) (al 15) (al 16) (ac_sso (ac_cents (ai 6) (ai 7) (al 8) (al 10) (al 11)) na (al 17) na) (fi 1) na nr (sm + 1) ff)) (sm) H locs ls (by omega) ⟨rfl, (by omega), hf, ?_, hS, ?_⟩
    · exact hP
    · exact lv_sub hl [1, 0] rfl

