set_option maxHeartbeats 4000000 in
set_option maxRecDepth 100000 in
theorem c_X0_states (l : Launch) (D : va_G) (ad : Nat → Nat) (cI cL : ClassId) (fi : Nat → Int32) (fl : Nat → Int64) (ai : Nat → Nat → Int32) (al : Nat → Nat → Int64) (na : Nat) (hna : fi 0 = nI na) (hnl : na ≤ 10) : Met l yX0_states wsX0_states (am_rm 4 89) (va_Pc [.ref (ad 0)] (am_R nwL vwCl D (ac_w ad cI cL fi fl ai al) [(cI, .int), (cL, .long)])) (vp_Sl (fun r => r = ac_count (ai 9) na (2 ^ na - 1))) 0 0 am_No := by
  refine am_startR (cc := cX0_states) (maxL := 1) (ret := (some .long)) (by decide) rfl (Nat.le_of_ble_eq_true rfl) [(0, .ref (ad 0))] rfl ?_
  intro p e s m below meth c ls hx hb hr hml hown hts hlocks hP hK hN hl
  have hown : s.vm.findClass RX0 = some m.cls := hown
  have ht := am_ht hts
  have hin_X0 : ∀ w ∈ u_ws RX0 TX0 4, w ∈ wsX0_states := fun w h => List.mem_cons_of_mem _ (am_inX0 w h)
  have hf_12 := ht 170 (.fieldLink RX0 12 "ApartCost" "product" "LApartCost$Product;") rfl
  refine lv_aload_n hx hb dX0_states_0 rfl (lv_at hl 0 rfl) ?_
  refine va_get (D := D) (ci := 0) (v := .ref (ad 1)) (C := RX0) (T := TX0) (N := 4) hx hb hts hin_X0 hown hK hP 0 rfl rfl 0 (by decide) hf_12 (fun _ h9 => h9) rfl dX0_states_1 ?_
  refine am_callRl (W.runV (As := []) (rest := []) ⟨hx, hb, hml, hown, hts⟩ (c_X1_countStates l D ad cI cL fi fl ai al na hna hnl) (cwV 0 hts (am_gV (am_in 256 rfl) (am_in 257 rfl) (am_in 258 rfl) (am_in 30 rfl) (am_in 259 rfl)) rfl rfl rfl (by decide +kernel) ⟨Nat.le_of_ble_eq_true rfl, Nat.le_of_ble_eq_true rfl⟩) (am_preVR 1 1 rfl rfl rfl hP hK hN) rfl rfl hl.1 rfl (lv_room (Nat.le_of_ble_eq_true rfl)) dX0_states_4 ⟨Nat.zero_le _, Nat.zero_le _⟩) ?_
  exact am_lretR hx hb hr hlocks (by rfl) dX0_states_7

set_option maxHeartbeats 4000000 in
set_option maxRecDepth 100000 in
theorem c_X0_step (l : Launch) (D : va_G) (ad : Nat → Nat) (cI cL : ClassId) (fi : Nat → Int32) (fl : Nat → Int64) (ai : Nat → Nat → Int32) (al : Nat → Nat → Int64) (x : Int32) (ln : Nat) (hlen : fi 5 = nI ln) (hln : ln ≤ 10) : Met l yX0_step wsX0_step (am_rm 0 0) (va_Pc [.ref (ad 0), .int x] (am_R nwL vwCl D (ac_w ad cI cL fi fl ai al) [(cI, .int), (cL, .long)])) (vp_Si (fun r => r = ac_step (fi 5) (ai 19) x)) 0 0 am_No := by
  refine am_startR (cc := cX0_step) (maxL := 2) (ret := (some .int)) (by decide) rfl (Nat.le_of_ble_eq_true rfl) [(0, .ref (ad 0)), (1, .int x)] rfl ?_
  intro p e s m below meth c ls hx hb hr hml hown hts hlocks hP hK hN hl
  have hown : s.vm.findClass RX0 = some m.cls := hown
  have ht := am_ht hts
  have hin_X0 : ∀ w ∈ u_ws RX0 TX0 4, w ∈ wsX0_step := fun w h => List.mem_cons_of_mem _ (am_inX0 w h)
  have hin_X3 : ∀ w ∈ u_ws RX3 TX3 8, w ∈ wsX0_step := fun w h => List.mem_cons_of_mem _ (am_inX3 w h)
  have hf_127 := ht 126 (.fieldLink RX0 127 "ApartCost$Found" "length" "I") rfl
  have hf_130 := ht 133 (.fieldLink RX0 130 "ApartCost$Found" "row" "[I") rfl
  have hf_28 := ht 172 (.fieldLink RX0 28 "ApartCost" "found" "LApartCost$Found;") rfl
  refine lv_iload_n hx hb dX0_step_0 rfl (lv_at hl 1 rfl) ?_
  refine lv_if_lt (tgt := 27) hx hb dX0_step_1 (by decide) (fun c_1 => ?_) (fun c_1 => ?_)
  · skip
    refine lv_iconst (v := (-1)) hx hb dX0_step_27 (by decide) ?_
    exact am_iretR hx hb hr hlocks (by simp [ac_step, c_1]) dX0_step_28
  · skip
    refine lv_iload_n hx hb dX0_step_4 rfl (lv_at hl 1 rfl) ?_
    refine lv_aload_n hx hb dX0_step_5 rfl (lv_at hl 0 rfl) ?_
    refine va_get (D := D) (ci := 0) (v := .ref (ad 3)) (C := RX0) (T := TX0) (N := 4) hx hb hts hin_X0 hown hK hP 0 rfl rfl 2 (by decide) hf_28 (fun _ h9 => h9) rfl dX0_step_6 ?_
    refine va_get (D := D) (ci := 3) (v := .int (fi 5)) (C := RX3) (T := TX3) (N := 8) hx hb hts hin_X3 hown hK hP 3 rfl rfl 2 (by decide) hf_127 (fun _ h9 => h9) rfl dX0_step_9 ?_
    refine lv_icmp_ge (tgt := 27) hx hb dX0_step_12 (by decide) (fun c_12 => ?_) (fun c_12 => ?_)
    · skip
      refine lv_iconst (v := (-1)) hx hb dX0_step_27 (by decide) ?_
      exact am_iretR hx hb hr hlocks (by simp [ac_step, c_1, c_12]) dX0_step_28
    · skip
      obtain ⟨a, hq_a, ea⟩ : ∃ z, z < ln ∧ x = nI z := am_rng hlen (by omega) c_1 c_12
      have nn_a : x.toNatClampNeg = a := by rw [ea]; exact nI_clamp (by omega)
      have mm_a : (nI a).toNatClampNeg = a := nI_clamp (by omega)
      refine lv_aload_n hx hb dX0_step_15 rfl (lv_at hl 0 rfl) ?_
      refine va_get (D := D) (ci := 0) (v := .ref (ad 3)) (C := RX0) (T := TX0) (N := 4) hx hb hts hin_X0 hown hK hP 0 rfl rfl 2 (by decide) hf_28 (fun _ h9 => h9) rfl dX0_step_16 ?_
      refine va_get (D := D) (ci := 3) (v := .ref (ad 19)) (C := RX3) (T := TX3) (N := 8) hx hb hts hin_X3 hown hK hP 3 rfl rfl 6 (by decide) hf_130 (fun _ h9 => h9) rfl dX0_step_19 ?_
      refine lv_iload_n hx hb dX0_step_22 rfl (lv_at hl 1 rfl) ?_
      refine am_iald hx hb hK hP 19 0 rfl rfl a ea (by omega) (by decide) dX0_step_23 ?_
      refine lv_goto (tgt := 28) hx hb dX0_step_24 (by decide) ?_
      exact am_iretR hx hb hr hlocks (by simp [ac_step, c_1, c_12, nn_a]) dX0_step_28

set_option maxHeartbeats 4000000 in
set_option maxRecDepth 100000 in
theorem c_X0_stops (l : Launch) (D : va_G) (ad : Nat → Nat) (cI cL : ClassId) (fi : Nat → Int32) (fl : Nat → Int64) (ai : Nat → Nat → Int32) (al : Nat → Nat → Int64) (x : Int32) : Met l yX0_stops wsX0_stops (am_rm 2 44) (va_Pc [.ref (ad 0), .int x] (am_R nwL vwCl D (ac_w ad cI cL fi fl ai al) [(cI, .int), (cL, .long)])) (vp_Si (fun r => r = if (fi 3) = 0 then -1 else ac_mem (4095 &&& ((fi 7) ^^^ (-1))) x 12 0 0)) 0 0 am_No := by
  refine am_startR (cc := cX0_stops) (maxL := 2) (ret := (some .int)) (by decide) rfl (Nat.le_of_ble_eq_true rfl) [(0, .ref (ad 0)), (1, .int x)] rfl ?_
  intro p e s m below meth c ls hx hb hr hml hown hts hlocks hP hK hN hl
  have hown : s.vm.findClass RX0 = some m.cls := hown
  have ht := am_ht hts
  have hin_X0 : ∀ w ∈ u_ws RX0 TX0 4, w ∈ wsX0_stops := fun w h => List.mem_cons_of_mem _ (am_inX0 w h)
  have hin_X3 : ∀ w ∈ u_ws RX3 TX3 8, w ∈ wsX0_stops := fun w h => List.mem_cons_of_mem _ (am_inX3 w h)
  have hf_133 := ht 122 (.fieldLink RX0 133 "ApartCost$Found" "any" "Z") rfl
  have hf_136 := ht 130 (.fieldLink RX0 136 "ApartCost$Found" "free" "I") rfl
  have hf_28 := ht 172 (.fieldLink RX0 28 "ApartCost" "found" "LApartCost$Found;") rfl
  refine lv_aload_n hx hb dX0_stops_0 rfl (lv_at hl 0 rfl) ?_
  refine va_get (D := D) (ci := 0) (v := .ref (ad 3)) (C := RX0) (T := TX0) (N := 4) hx hb hts hin_X0 hown hK hP 0 rfl rfl 2 (by decide) hf_28 (fun _ h9 => h9) rfl dX0_stops_1 ?_
  refine va_get (D := D) (ci := 3) (v := .int (fi 3)) (C := RX3) (T := TX3) (N := 8) hx hb hts hin_X3 hown hK hP 3 rfl rfl 0 (by decide) hf_133 (fun _ h9 => h9) rfl dX0_stops_4 ?_
  refine lv_if_eq (tgt := 30) hx hb dX0_stops_7 (by decide) (fun c_7 => ?_) (fun c_7 => ?_)
  · skip
    refine lv_iconst (v := (-1)) hx hb dX0_stops_30 (by decide) ?_
    exact am_iretR hx hb hr hlocks (by first | rfl | (simp only [c_7, if_true, if_false, eq_self, not_true_eq_false, not_false_eq_true, ite_true, ite_false, ↓reduceIte]; done) | (simp [c_7]; done)) dX0_stops_31
  · skip
    refine lv_sipush (v := 4095) hx hb dX0_stops_10 (by decide) ?_
    refine lv_aload_n hx hb dX0_stops_13 rfl (lv_at hl 0 rfl) ?_
    refine va_get (D := D) (ci := 0) (v := .ref (ad 3)) (C := RX0) (T := TX0) (N := 4) hx hb hts hin_X0 hown hK hP 0 rfl rfl 2 (by decide) hf_28 (fun _ h9 => h9) rfl dX0_stops_14 ?_
    refine va_get (D := D) (ci := 3) (v := .int (fi 7)) (C := RX3) (T := TX3) (N := 8) hx hb hts hin_X3 hown hK hP 3 rfl rfl 4 (by decide) hf_136 (fun _ h9 => h9) rfl dX0_stops_17 ?_
    refine lv_iconst (v := (-1)) hx hb dX0_stops_20 (by decide) ?_
    refine lv_ixor hx hb dX0_stops_21 ?_
    refine lv_iand hx hb dX0_stops_22 ?_
    refine lv_iload_n hx hb dX0_stops_23 rfl (lv_at hl 1 rfl) ?_
    refine am_callRi (W.runS (As := [.int (4095 &&& ((fi 7) ^^^ (-1))), .int x]) (rest := []) ⟨hx, hb, hml, hown, hts⟩ (c_X0_member l D _ _ (4095 &&& ((fi 7) ^^^ (-1))) x) (va_cwS 2 hts (am_gS (am_in 359 rfl) (am_in 360 rfl) (am_in 29 rfl) (am_in 361 rfl)) rfl rfl rfl (by decide +kernel) ⟨Nat.le_of_ble_eq_true rfl, Nat.le_of_ble_eq_true rfl⟩) (am_preSR hP hK hN) rfl rfl hl.1 rfl (lv_room (Nat.le_of_ble_eq_true rfl)) dX0_stops_24 ⟨Nat.zero_le _, Nat.zero_le _⟩) ?_
    refine lv_goto (tgt := 31) hx hb dX0_stops_27 (by decide) ?_
    exact am_iretR hx hb hr hlocks (by first | rfl | (simp only [c_7, if_true, if_false, eq_self, not_true_eq_false, not_false_eq_true, ite_true, ite_false, ↓reduceIte]; done) | (simp [c_7]; done)) dX0_stops_31

set_option maxHeartbeats 4000000 in
set_option maxRecDepth 100000 in
theorem c_X0_other (l : Launch) (D : va_G) (ad : Nat → Nat) (cI cL : ClassId) (fi : Nat → Int32) (fl : Nat → Int64) (ai : Nat → Nat → Int32) (al : Nat → Nat → Int64) (x : Int32) : Met l yX0_other wsX0_other (am_rm 2 44) (va_Pc [.ref (ad 0), .int x] (am_R nwL vwCl D (ac_w ad cI cL fi fl ai al) [(cI, .int), (cL, .long)])) (vp_Si (fun r => r = if (fi 3) = 0 then -1 else ac_mem (ac_all (fi 0) &&& ((fi 6) ^^^ (-1))) x 12 0 0)) 0 0 am_No := by
  refine am_startR (cc := cX0_other) (maxL := 2) (ret := (some .int)) (by decide) rfl (Nat.le_of_ble_eq_true rfl) [(0, .ref (ad 0)), (1, .int x)] rfl ?_
  intro p e s m below meth c ls hx hb hr hml hown hts hlocks hP hK hN hl
  have hown : s.vm.findClass RX0 = some m.cls := hown
  have ht := am_ht hts
  have hin_X0 : ∀ w ∈ u_ws RX0 TX0 4, w ∈ wsX0_other := fun w h => List.mem_cons_of_mem _ (am_inX0 w h)
  have hin_X3 : ∀ w ∈ u_ws RX3 TX3 8, w ∈ wsX0_other := fun w h => List.mem_cons_of_mem _ (am_inX3 w h)
  have hf_12 := ht 170 (.fieldLink RX0 12 "ApartCost" "product" "LApartCost$Product;") rfl
  have hf_133 := ht 122 (.fieldLink RX0 133 "ApartCost$Found" "any" "Z") rfl
  have hf_147 := ht 128 (.fieldLink RX0 147 "ApartCost$Found" "set" "I") rfl
  have hf_28 := ht 172 (.fieldLink RX0 28 "ApartCost" "found" "LApartCost$Found;") rfl
  refine lv_aload_n hx hb dX0_other_0 rfl (lv_at hl 0 rfl) ?_
  refine va_get (D := D) (ci := 0) (v := .ref (ad 3)) (C := RX0) (T := TX0) (N := 4) hx hb hts hin_X0 hown hK hP 0 rfl rfl 2 (by decide) hf_28 (fun _ h9 => h9) rfl dX0_other_1 ?_
  refine va_get (D := D) (ci := 3) (v := .int (fi 3)) (C := RX3) (T := TX3) (N := 8) hx hb hts hin_X3 hown hK hP 3 rfl rfl 0 (by decide) hf_133 (fun _ h9 => h9) rfl dX0_other_4 ?_
  refine lv_if_eq (tgt := 34) hx hb dX0_other_7 (by decide) (fun c_7 => ?_) (fun c_7 => ?_)
  · skip
    refine lv_iconst (v := (-1)) hx hb dX0_other_34 (by decide) ?_
    exact am_iretR hx hb hr hlocks (by first | rfl | (simp only [c_7, if_true, if_false, eq_self, not_true_eq_false, not_false_eq_true, ite_true, ite_false, ↓reduceIte]; done) | (simp [c_7]; done)) dX0_other_35
  · skip
    refine lv_aload_n hx hb dX0_other_10 rfl (lv_at hl 0 rfl) ?_
    refine va_get (D := D) (ci := 0) (v := .ref (ad 1)) (C := RX0) (T := TX0) (N := 4) hx hb hts hin_X0 hown hK hP 0 rfl rfl 0 (by decide) hf_12 (fun _ h9 => h9) rfl dX0_other_11 ?_
    refine am_callRi (W.runV (As := []) (rest := []) ⟨hx, hb, hml, hown, hts⟩ (c_X1_allActs l D ad cI cL fi fl ai al) (cwV 0 hts (am_gV (am_in 366 rfl) (am_in 261 rfl) (am_in 262 rfl) (am_in 30 rfl) (am_in 263 rfl)) rfl rfl rfl (by decide +kernel) ⟨Nat.le_of_ble_eq_true rfl, Nat.le_of_ble_eq_true rfl⟩) (am_preVR 1 1 rfl rfl rfl hP hK hN) rfl rfl hl.1 rfl (lv_room (Nat.le_of_ble_eq_true rfl)) dX0_other_14 ⟨Nat.zero_le _, Nat.zero_le _⟩) ?_
    refine lv_aload_n hx hb dX0_other_17 rfl (lv_at hl 0 rfl) ?_
    refine va_get (D := D) (ci := 0) (v := .ref (ad 3)) (C := RX0) (T := TX0) (N := 4) hx hb hts hin_X0 hown hK hP 0 rfl rfl 2 (by decide) hf_28 (fun _ h9 => h9) rfl dX0_other_18 ?_
    refine va_get (D := D) (ci := 3) (v := .int (fi 6)) (C := RX3) (T := TX3) (N := 8) hx hb hts hin_X3 hown hK hP 3 rfl rfl 3 (by decide) hf_147 (fun _ h9 => h9) rfl dX0_other_21 ?_
    refine lv_iconst (v := (-1)) hx hb dX0_other_24 (by decide) ?_
    refine lv_ixor hx hb dX0_other_25 ?_
    refine lv_iand hx hb dX0_other_26 ?_
    refine lv_iload_n hx hb dX0_other_27 rfl (lv_at hl 1 rfl) ?_
    refine am_callRi (W.runS (As := [.int ((ac_all (fi 0)) &&& ((fi 6) ^^^ (-1))), .int x]) (rest := []) ⟨hx, hb, hml, hown, hts⟩ (c_X0_member l D _ _ ((ac_all (fi 0)) &&& ((fi 6) ^^^ (-1))) x) (va_cwS 2 hts (am_gS (am_in 359 rfl) (am_in 360 rfl) (am_in 29 rfl) (am_in 361 rfl)) rfl rfl rfl (by decide +kernel) ⟨Nat.le_of_ble_eq_true rfl, Nat.le_of_ble_eq_true rfl⟩) (am_preSR hP hK hN) rfl rfl hl.1 rfl (lv_room (Nat.le_of_ble_eq_true rfl)) dX0_other_28 ⟨Nat.zero_le _, Nat.zero_le _⟩) ?_
    refine lv_goto (tgt := 35) hx hb dX0_other_31 (by decide) ?_
    exact am_iretR hx hb hr hlocks (by first | rfl | (simp only [c_7, if_true, if_false, eq_self, not_true_eq_false, not_false_eq_true, ite_true, ite_false, ↓reduceIte]; done) | (simp [c_7]; done)) dX0_other_35

set_option maxHeartbeats 4000000 in
set_option maxRecDepth 100000 in
theorem c_X0_gain (l : Launch) (D : va_G) (ad : Nat → Nat) (cI cL : ClassId) (fi : Nat → Int32) (fl : Nat → Int64) (ai : Nat → Nat → Int32) (al : Nat → Nat → Int64) (x : Int32) : Met l yX0_gain wsX0_gain (am_rm 1 20) (va_Pc [.ref (ad 0), .int x] (am_R nwL vwCl D (ac_w ad cI cL fi fl ai al) [(cI, .int), (cL, .long)])) (vp_Sl (fun r => r = ac_gain (fl 0) (al 20) x)) 0 0 am_No := by
  refine am_startR (cc := cX0_gain) (maxL := 2) (ret := (some .long)) (by decide) rfl (Nat.le_of_ble_eq_true rfl) [(0, .ref (ad 0)), (1, .int x)] rfl ?_
  intro p e s m below meth c ls hx hb hr hml hown hts hlocks hP hK hN hl
  have hown : s.vm.findClass RX0 = some m.cls := hown
  have ht := am_ht hts
  have hin_X0 : ∀ w ∈ u_ws RX0 TX0 4, w ∈ wsX0_gain := fun w h => List.mem_cons_of_mem _ (am_inX0 w h)
  have hin_X3 : ∀ w ∈ u_ws RX3 TX3 8, w ∈ wsX0_gain := fun w h => List.mem_cons_of_mem _ (am_inX3 w h)
  have hf_119 := ht 131 (.fieldLink RX0 119 "ApartCost$Found" "total" "J") rfl
  have hf_150 := ht 135 (.fieldLink RX0 150 "ApartCost$Found" "brought" "[J") rfl
  have hf_28 := ht 172 (.fieldLink RX0 28 "ApartCost" "found" "LApartCost$Found;") rfl
  refine lv_iload_n hx hb dX0_gain_0 rfl (lv_at hl 1 rfl) ?_
  refine lv_iconst (v := (-1)) hx hb dX0_gain_1 (by decide) ?_
  refine lv_icmp_ne (tgt := 13) hx hb dX0_gain_2 (by decide) (fun c_2 => ?_) (fun c_2 => ?_)
  · skip
    refine lv_iload_n hx hb dX0_gain_13 rfl (lv_at hl 1 rfl) ?_
    refine am_callRi (W.runS (As := [.int x]) (rest := []) ⟨hx, hb, hml, hown, hts⟩ (c_X0_isPart l D _ _ x) (va_cwS 1 hts (am_gS (am_in 182 rfl) (am_in 183 rfl) (am_in 29 rfl) (am_in 184 rfl)) rfl rfl rfl (by decide +kernel) ⟨Nat.le_of_ble_eq_true rfl, Nat.le_of_ble_eq_true rfl⟩) (am_preSR hP hK hN) rfl rfl hl.1 rfl (lv_room (Nat.le_of_ble_eq_true rfl)) dX0_gain_14 ⟨Nat.zero_le _, Nat.zero_le _⟩) ?_
    refine lv_if_eq (tgt := 32) hx hb dX0_gain_17 (by decide) (fun c_17 => ?_) (fun c_17 => ?_)
    · skip
      refine lv_lconst (v := 0) hx hb dX0_gain_32 (by decide) ?_
      exact am_lretR hx hb hr hlocks (by simp [ac_gain, c_2, c_17]) dX0_gain_33
    · skip
      obtain ⟨a, hq_a, ea⟩ : ∃ z, z < 12 ∧ x = nI z := am_isPart c_17
      have nn_a : x.toNatClampNeg = a := by rw [ea]; exact nI_clamp (by omega)
      have mm_a : (nI a).toNatClampNeg = a := nI_clamp (by omega)
      refine lv_aload_n hx hb dX0_gain_20 rfl (lv_at hl 0 rfl) ?_
      refine va_get (D := D) (ci := 0) (v := .ref (ad 3)) (C := RX0) (T := TX0) (N := 4) hx hb hts hin_X0 hown hK hP 0 rfl rfl 2 (by decide) hf_28 (fun _ h9 => h9) rfl dX0_gain_21 ?_
      refine va_get (D := D) (ci := 3) (v := .ref (ad 20)) (C := RX3) (T := TX3) (N := 8) hx hb hts hin_X3 hown hK hP 3 rfl rfl 7 (by decide) hf_150 (fun _ h9 => h9) rfl dX0_gain_24 ?_
      refine lv_iload_n hx hb dX0_gain_27 rfl (lv_at hl 1 rfl) ?_
      refine am_lald hx hb hK hP 20 1 rfl rfl a ea (by omega) (by decide) dX0_gain_28 ?_
      refine lv_goto (tgt := 33) hx hb dX0_gain_29 (by decide) ?_
      exact am_lretR hx hb hr hlocks (by simp [ac_gain, c_2, c_17, nn_a]) dX0_gain_33
  · skip
    refine lv_aload_n hx hb dX0_gain_5 rfl (lv_at hl 0 rfl) ?_
    refine va_get (D := D) (ci := 0) (v := .ref (ad 3)) (C := RX0) (T := TX0) (N := 4) hx hb hts hin_X0 hown hK hP 0 rfl rfl 2 (by decide) hf_28 (fun _ h9 => h9) rfl dX0_gain_6 ?_
    refine va_get (D := D) (ci := 3) (v := .long (fl 0)) (C := RX3) (T := TX3) (N := 8) hx hb hts hin_X3 hown hK hP 3 rfl rfl 5 (by decide) hf_119 (fun _ h9 => h9) rfl dX0_gain_9 ?_
    exact am_lretR hx hb hr hlocks (by first | rfl | (simp only [ac_gain, c_2, if_true, if_false, eq_self, not_true_eq_false, not_false_eq_true, ite_true, ite_false, ↓reduceIte]; done) | (simp [ac_gain, c_2]; done)) dX0_gain_12

set_option maxHeartbeats 4000000 in
set_option maxRecDepth 100000 in
theorem c_X0_proved (l : Launch) (D : va_G) (ad : Nat → Nat) (cI cL : ClassId) (fi : Nat → Int32) (fl : Nat → Int64) (ai : Nat → Nat → Int32) (al : Nat → Nat → Int64) : Met l yX0_proved wsX0_proved (am_rm 0 0) (va_Pc [.ref (ad 0)] (am_R nwL vwCl D (ac_w ad cI cL fi fl ai al) [(cI, .int), (cL, .long)])) (vp_Si (fun r => r = if (fi 3) = 0 then 0 else if (fi 4) = 0 then 0 else 1)) 0 0 am_No := by
  refine am_startR (cc := cX0_proved) (maxL := 1) (ret := (some .boolean)) (by decide) rfl (Nat.le_of_ble_eq_true rfl) [(0, .ref (ad 0))] rfl ?_
  intro p e s m below meth c ls hx hb hr hml hown hts hlocks hP hK hN hl
  have hown : s.vm.findClass RX0 = some m.cls := hown
  have ht := am_ht hts
  have hin_X0 : ∀ w ∈ u_ws RX0 TX0 4, w ∈ wsX0_proved := fun w h => List.mem_cons_of_mem _ (am_inX0 w h)
  have hin_X3 : ∀ w ∈ u_ws RX3 TX3 8, w ∈ wsX0_proved := fun w h => List.mem_cons_of_mem _ (am_inX3 w h)
  have hf_133 := ht 122 (.fieldLink RX0 133 "ApartCost$Found" "any" "Z") rfl
  have hf_28 := ht 172 (.fieldLink RX0 28 "ApartCost" "found" "LApartCost$Found;") rfl
  have hf_54 := ht 123 (.fieldLink RX0 54 "ApartCost$Found" "upToDate" "Z") rfl
  refine lv_aload_n hx hb dX0_proved_0 rfl (lv_at hl 0 rfl) ?_
  refine va_get (D := D) (ci := 0) (v := .ref (ad 3)) (C := RX0) (T := TX0) (N := 4) hx hb hts hin_X0 hown hK hP 0 rfl rfl 2 (by decide) hf_28 (fun _ h9 => h9) rfl dX0_proved_1 ?_
  refine va_get (D := D) (ci := 3) (v := .int (fi 3)) (C := RX3) (T := TX3) (N := 8) hx hb hts hin_X3 hown hK hP 3 rfl rfl 0 (by decide) hf_133 (fun _ h9 => h9) rfl dX0_proved_4 ?_
  refine lv_if_eq (tgt := 24) hx hb dX0_proved_7 (by decide) (fun c_7 => ?_) (fun c_7 => ?_)
  · skip
    refine lv_iconst (v := 0) hx hb dX0_proved_24 (by decide) ?_
    exact am_zretR hx hb hr hlocks (Or.inl rfl) (by first | rfl | (simp only [c_7, if_true, if_false, eq_self, not_true_eq_false, not_false_eq_true, ite_true, ite_false, ↓reduceIte]; done) | (simp [c_7]; done)) dX0_proved_25
  · skip
    refine lv_aload_n hx hb dX0_proved_10 rfl (lv_at hl 0 rfl) ?_
    refine va_get (D := D) (ci := 0) (v := .ref (ad 3)) (C := RX0) (T := TX0) (N := 4) hx hb hts hin_X0 hown hK hP 0 rfl rfl 2 (by decide) hf_28 (fun _ h9 => h9) rfl dX0_proved_11 ?_
    refine va_get (D := D) (ci := 3) (v := .int (fi 4)) (C := RX3) (T := TX3) (N := 8) hx hb hts hin_X3 hown hK hP 3 rfl rfl 1 (by decide) hf_54 (fun _ h9 => h9) rfl dX0_proved_14 ?_
    refine lv_if_eq (tgt := 24) hx hb dX0_proved_17 (by decide) (fun c_17 => ?_) (fun c_17 => ?_)
    · skip
      refine lv_iconst (v := 0) hx hb dX0_proved_24 (by decide) ?_
      exact am_zretR hx hb hr hlocks (Or.inl rfl) (by first | rfl | (simp only [c_7, c_17, if_true, if_false, eq_self, not_true_eq_false, not_false_eq_true, ite_true, ite_false, ↓reduceIte]; done) | (simp [c_7, c_17]; done)) dX0_proved_25
    · skip
      refine lv_iconst (v := 1) hx hb dX0_proved_20 (by decide) ?_
      refine lv_goto (tgt := 25) hx hb dX0_proved_21 (by decide) ?_
      exact am_zretR hx hb hr hlocks (Or.inr rfl) (by first | rfl | (simp only [c_7, c_17, if_true, if_false, eq_self, not_true_eq_false, not_false_eq_true, ite_true, ite_false, ↓reduceIte]; done) | (simp [c_7, c_17]; done)) dX0_proved_25

set_option maxHeartbeats 4000000 in
set_option maxRecDepth 100000 in
theorem c_X0_bound (l : Launch) (D : va_G) (ad : Nat → Nat) (cI cL : ClassId) (fi : Nat → Int32) (fl : Nat → Int64) (ai : Nat → Nat → Int32) (al : Nat → Nat → Int64) (nr : Nat) (hnr : fi 2 = nI nr) (hnrl : nr ≤ 16) : Met l yX0_bound wsX0_bound (am_rm 1 21) (va_Pc [.ref (ad 0)] (am_R nwL vwCl D (ac_w ad cI cL fi fl ai al) [(cI, .int), (cL, .long)])) (vp_Sl (fun r => r = ac_bnd2 (al 12) (al 13) (ac_bnd1 (al 15) nr) 12)) 0 0 am_No := by
  refine am_startR (cc := cX0_bound) (maxL := 4) (ret := (some .long)) (by decide) rfl (Nat.le_of_ble_eq_true rfl) [(0, .ref (ad 0))] rfl ?_
  intro p e s m below meth c ls hx hb hr hml hown hts hlocks hP hK hN hl
  have hown : s.vm.findClass RX0 = some m.cls := hown
  have ht := am_ht hts
  have hin_X0 : ∀ w ∈ u_ws RX0 TX0 4, w ∈ wsX0_bound := fun w h => List.mem_cons_of_mem _ (am_inX0 w h)
  have hin_X1 : ∀ w ∈ u_ws RX1 TX1 14, w ∈ wsX0_bound := fun w h => List.mem_cons_of_mem _ (am_inX1 w h)
  have hf_12 := ht 170 (.fieldLink RX0 12 "ApartCost" "product" "LApartCost$Product;") rfl
  have hf_153 := ht 80 (.fieldLink RX0 153 "ApartCost$Product" "rests" "I") rfl
  have hf_156 := ht 83 (.fieldLink RX0 156 "ApartCost$Product" "restCents" "[J") rfl
  refine lv_lconst (v := 0) hx hb dX0_bound_0 (by decide) ?_
  refine lv_lstore_n (lv' := [(1, .long 0), (0, .ref (ad 0))]) hx hb dX0_bound_1 rfl hl (by decide) rfl (fun ls hl => ?_)
  refine lv_iconst (v := 0) hx hb dX0_bound_2 (by decide) ?_
  refine lv_istore_n (lv' := [(3, .int 0), (1, .long 0), (0, .ref (ad 0))]) hx hb dX0_bound_3 rfl hl (by decide) rfl (fun ls hl => ?_)
  refine am_loopR (σ := Nat) (fun q n9 ls => n9 = nr - q ∧ q ≤ nr ∧ lv_has ls 4 [(0, .ref (ad 0)), (1, .long (ac_bnd1 (al 15) q)), (3, .int (nI q))]) ?_ 0 (nr - 0) ls ⟨rfl, (by omega), lv_sub hl [2, 1, 0] rfl⟩
  rintro k n9 ls ⟨hn_4, hk, hl⟩ ih_4
  refine lv_iload_n hx hb dX0_bound_4 rfl (lv_at hl 2 rfl) ?_
  refine lv_aload_n hx hb dX0_bound_5 rfl (lv_at hl 0 rfl) ?_
  refine va_get (D := D) (ci := 0) (v := .ref (ad 1)) (C := RX0) (T := TX0) (N := 4) hx hb hts hin_X0 hown hK hP 0 rfl rfl 0 (by decide) hf_12 (fun _ h9 => h9) rfl dX0_bound_6 ?_
  refine va_get (D := D) (ci := 1) (v := .int (fi 2)) (C := RX1) (T := TX1) (N := 14) hx hb hts hin_X1 hown hK hP 1 rfl rfl 11 (by decide) hf_153 (fun _ h9 => h9) rfl dX0_bound_9 ?_
  refine lv_icmp_ge (tgt := 39) hx hb dX0_bound_12 (by decide) (fun c_12 => ?_) (fun c_12 => ?_)
  · skip
    have hke_12 : nr ≤ k := (am_ge hnr (by omega) (by omega)).mp c_12
    have hkq_12 : nr = k := by omega
    subst hkq_12
    refine lv_iconst (v := 0) hx hb dX0_bound_39 (by decide) ?_
    refine lv_istore_n (lv' := [(3, .int 0), (0, .ref (ad 0)), (1, .long (ac_bnd1 (al 15) nr))]) hx hb dX0_bound_40 rfl hl (by decide) rfl (fun ls hl => ?_)
    refine am_loopR (σ := Nat) (fun q n9 ls => n9 = 12 - q ∧ q ≤ 12 ∧ lv_has ls 4 [(0, .ref (ad 0)), (1, .long (ac_bnd2 (al 12) (al 13) (ac_bnd1 (al 15) nr) q)), (3, .int (nI q))]) ?_ 0 (12 - 0) ls ⟨rfl, (by omega), lv_sub hl [1, 2, 0] rfl⟩
    rintro h n9 ls ⟨hn_41, hh, hl⟩ ih_41
    refine lv_iload_n hx hb dX0_bound_41 rfl (lv_at hl 2 rfl) ?_
    refine lv_bipush (v := 12) hx hb dX0_bound_42 (by decide) ?_
    refine lv_icmp_ge (tgt := 68) hx hb dX0_bound_44 (by decide) (fun c_44 => ?_) (fun c_44 => ?_)
    · skip
      have hke_44 : 12 ≤ h := (am_ge (rfl : (12 : Int32) = nI 12) (by decide) (by omega)).mp c_44
      have hkq_44 : h = 12 := by omega
      subst hkq_44
      refine lv_lload_n hx hb dX0_bound_68 rfl (lv_at hl 1 rfl) ?_
      exact am_lretR hx hb hr hlocks (by first | rfl | (simp only [c_44, if_true, if_false, eq_self, not_true_eq_false, not_false_eq_true, ite_true, ite_false, ↓reduceIte]; done) | (simp [c_44]; done)) dX0_bound_69
    · skip
      have hkl_44 : h < 12 := Nat.lt_of_not_le (fun z => c_44 ((am_ge (rfl : (12 : Int32) = nI 12) (by decide) (by omega)).mpr z))
      refine lv_lload_n hx hb dX0_bound_47 rfl (lv_at hl 1 rfl) ?_
      refine lv_lconst (v := 0) hx hb dX0_bound_48 (by decide) ?_
      refine lv_aload_n hx hb dX0_bound_49 rfl (lv_at hl 0 rfl) ?_
      refine va_get (D := D) (ci := 0) (v := .ref (ad 1)) (C := RX0) (T := TX0) (N := 4) hx hb hts hin_X0 hown hK hP 0 rfl rfl 0 (by decide) hf_12 (fun _ h9 => h9) rfl dX0_bound_50 ?_
      refine lv_iload_n hx hb dX0_bound_53 rfl (lv_at hl 2 rfl) ?_
      refine am_callRl (W.runV (As := [.int (nI h)]) (rest := [.long 0, .long (ac_bnd2 (al 12) (al 13) (ac_bnd1 (al 15) nr) h)]) ⟨hx, hb, hml, hown, hts⟩ (c_X1_valueOf l D ad cI cL fi fl ai al h (by omega)) (cwV 1 hts (am_gV (am_in 380 rfl) (am_in 286 rfl) (am_in 287 rfl) (am_in 30 rfl) (am_in 288 rfl)) rfl rfl rfl (by decide +kernel) ⟨Nat.le_of_ble_eq_true rfl, Nat.le_of_ble_eq_true rfl⟩) (am_preVR 1 1 rfl rfl rfl hP hK hN) rfl rfl hl.1 rfl (lv_room (Nat.le_of_ble_eq_true rfl)) dX0_bound_54 ⟨Nat.zero_le _, Nat.zero_le _⟩) ?_
      refine va_mmax_long hx hb (hml.trans hl.1.symm) hown (ht 379 _ rfl) (ht 336 _ rfl) (ht 37 _ rfl) (ht 337 _ rfl) (Nat.le_of_ble_eq_true rfl) (Nat.le_of_ble_eq_true rfl) (Nat.zero_le _) (Nat.zero_le _) dX0_bound_57 ?_
      refine am_topl (y := ac_max 0 ((al 12) h * (al 13) h)) rfl ?_
      refine lv_ladd hx hb dX0_bound_60 ?_
      refine lv_lstore_n (lv' := [(1, .long ((ac_bnd2 (al 12) (al 13) (ac_bnd1 (al 15) nr) h) + (ac_max 0 ((al 12) h * (al 13) h)))), (0, .ref (ad 0)), (3, .int (nI h))]) hx hb dX0_bound_61 rfl hl (by decide) rfl (fun ls hl => ?_)
      refine lv_iinc (v := nI (h + 1)) (lv' := [(3, .int (nI (h + 1))), (1, .long ((ac_bnd2 (al 12) (al 13) (ac_bnd1 (al 15) nr) h) + (ac_max 0 ((al 12) h * (al 13) h)))), (0, .ref (ad 0))]) hx hb dX0_bound_62 hl (k := 2) rfl (nI_1 h) (by decide) rfl (fun ls hl => ?_)
      refine lv_goto (tgt := 41) hx hb dX0_bound_65 (by decide) ?_
      have e_41_0 : ac_bnd2 (al 12) (al 13) (ac_bnd1 (al 15) nr) (h + 1) = (ac_bnd2 (al 12) (al 13) (ac_bnd1 (al 15) nr) h) + (ac_max 0 ((al 12) h * (al 13) h)) := by first | rfl | (simp only [ac_bnd2, c_44, if_true, if_false, eq_self, not_true_eq_false, not_false_eq_true, ite_true, ite_false, ↓reduceIte]; done) | (simp [ac_bnd2, c_44]; done)
      refine ih_41 (h + 1) (12 - (h + 1)) ls (by omega) ⟨rfl, (by omega), ?_⟩
      try dsimp only
      rw [e_41_0]
      exact lv_sub hl [2, 1, 0] rfl
  · skip
    have hkl_12 : k < nr := Nat.lt_of_not_le (fun z => c_12 ((am_ge hnr (by omega) (by omega)).mpr z))
    refine lv_lload_n hx hb dX0_bound_15 rfl (lv_at hl 1 rfl) ?_
    refine lv_aload_n hx hb dX0_bound_16 rfl (lv_at hl 0 rfl) ?_
    refine va_get (D := D) (ci := 0) (v := .ref (ad 1)) (C := RX0) (T := TX0) (N := 4) hx hb hts hin_X0 hown hK hP 0 rfl rfl 0 (by decide) hf_12 (fun _ h9 => h9) rfl dX0_bound_17 ?_
    refine va_get (D := D) (ci := 1) (v := .ref (ad 15)) (C := RX1) (T := TX1) (N := 14) hx hb hts hin_X1 hown hK hP 1 rfl rfl 13 (by decide) hf_156 (fun _ h9 => h9) rfl dX0_bound_20 ?_
    refine lv_iload_n hx hb dX0_bound_23 rfl (lv_at hl 2 rfl) ?_
    refine am_lald hx hb hK hP 15 1 rfl rfl k rfl (by omega) (by decide) dX0_bound_24 ?_
    refine lv_ldc2 (v := 27720) hx hb hown (ht 251 _ rfl) dX0_bound_25 ?_
    refine lv_lmul hx hb dX0_bound_28 ?_
    refine va_mmax_long hx hb (hml.trans hl.1.symm) hown (ht 379 _ rfl) (ht 336 _ rfl) (ht 37 _ rfl) (ht 337 _ rfl) (Nat.le_of_ble_eq_true rfl) (Nat.le_of_ble_eq_true rfl) (Nat.zero_le _) (Nat.zero_le _) dX0_bound_29 ?_
    refine am_topl (y := ac_max (ac_bnd1 (al 15) k) (((al 15) k) * 27720)) rfl ?_
    refine lv_lstore_n (lv' := [(1, .long (ac_max (ac_bnd1 (al 15) k) (((al 15) k) * 27720))), (0, .ref (ad 0)), (3, .int (nI k))]) hx hb dX0_bound_32 rfl hl (by decide) rfl (fun ls hl => ?_)
    refine lv_iinc (v := nI (k + 1)) (lv' := [(3, .int (nI (k + 1))), (1, .long (ac_max (ac_bnd1 (al 15) k) (((al 15) k) * 27720))), (0, .ref (ad 0))]) hx hb dX0_bound_33 hl (k := 2) rfl (nI_1 k) (by decide) rfl (fun ls hl => ?_)
    refine lv_goto (tgt := 4) hx hb dX0_bound_36 (by decide) ?_
    have e_4_0 : ac_bnd1 (al 15) (k + 1) = ac_max (ac_bnd1 (al 15) k) (((al 15) k) * 27720) := by first | rfl | (simp only [ac_bnd1, c_12, if_true, if_false, eq_self, not_true_eq_false, not_false_eq_true, ite_true, ite_false, ↓reduceIte]; done) | (simp [ac_bnd1, c_12]; done)
    refine ih_4 (k + 1) (nr - (k + 1)) ls (by omega) ⟨rfl, (by omega), ?_⟩
    try dsimp only
    rw [e_4_0]
    exact lv_sub hl [2, 1, 0] rfl

set_option maxHeartbeats 4000000 in
set_option maxRecDepth 100000 in
theorem c_X0_station (l : Launch) (D : va_G) (ad : Nat → Nat) (cI cL : ClassId) (fi : Nat → Int32) (fl : Nat → Int64) (ai : Nat → Nat → Int32) (al : Nat → Nat → Int64) (x : Int32) : Met l yX0_station wsX0_station (am_rm 0 0) (va_Pc [.ref (ad 0), .int x] (am_R nwL vwCl D (ac_w ad cI cL fi fl ai al) [(cI, .int), (cL, .long)])) (vp_Si (fun r => r = ac_stn (ai 21) x)) 0 0 am_No := by
  refine am_startR (cc := cX0_station) (maxL := 2) (ret := (some .int)) (by decide) rfl (Nat.le_of_ble_eq_true rfl) [(0, .ref (ad 0)), (1, .int x)] rfl ?_
  intro p e s m below meth c ls hx hb hr hml hown hts hlocks hP hK hN hl
  have hown : s.vm.findClass RX0 = some m.cls := hown
  have ht := am_ht hts
  have hin_X0 : ∀ w ∈ u_ws RX0 TX0 4, w ∈ wsX0_station := fun w h => List.mem_cons_of_mem _ (am_inX0 w h)
  have hin_X4 : ∀ w ∈ u_ws RX4 TX4 8, w ∈ wsX0_station := fun w h => List.mem_cons_of_mem _ (am_inX4 w h)
  have hf_177 := ht 154 (.fieldLink RX0 177 "ApartCost$Line" "told" "[I") rfl
  have hf_35 := ht 173 (.fieldLink RX0 35 "ApartCost" "line" "LApartCost$Line;") rfl
  refine lv_iload_n hx hb dX0_station_0 rfl (lv_at hl 1 rfl) ?_
  refine lv_if_lt (tgt := 22) hx hb dX0_station_1 (by decide) (fun c_1 => ?_) (fun c_1 => ?_)
  · skip
    refine lv_iconst (v := (-1)) hx hb dX0_station_22 (by decide) ?_
    exact am_iretR hx hb hr hlocks (by simp [ac_stn, c_1]) dX0_station_23
  · skip
    refine lv_iload_n hx hb dX0_station_4 rfl (lv_at hl 1 rfl) ?_
    refine lv_bipush (v := 10) hx hb dX0_station_5 (by decide) ?_
    refine lv_icmp_ge (tgt := 22) hx hb dX0_station_7 (by decide) (fun c_7 => ?_) (fun c_7 => ?_)
    · skip
      refine lv_iconst (v := (-1)) hx hb dX0_station_22 (by decide) ?_
      exact am_iretR hx hb hr hlocks (by simp [ac_stn, c_1, c_7]) dX0_station_23
    · skip
      obtain ⟨a, hq_a, ea⟩ : ∃ z, z < 10 ∧ x = nI z := am_rng (rfl : (10 : Int32) = nI 10) (by decide) c_1 c_7
      have nn_a : x.toNatClampNeg = a := by rw [ea]; exact nI_clamp (by omega)
      have mm_a : (nI a).toNatClampNeg = a := nI_clamp (by omega)
      refine lv_aload_n hx hb dX0_station_10 rfl (lv_at hl 0 rfl) ?_
      refine va_get (D := D) (ci := 0) (v := .ref (ad 4)) (C := RX0) (T := TX0) (N := 4) hx hb hts hin_X0 hown hK hP 0 rfl rfl 3 (by decide) hf_35 (fun _ h9 => h9) rfl dX0_station_11 ?_
      refine va_get (D := D) (ci := 4) (v := .ref (ad 21)) (C := RX4) (T := TX4) (N := 8) hx hb hts hin_X4 hown hK hP 4 rfl rfl 0 (by decide) hf_177 (fun _ h9 => h9) rfl dX0_station_14 ?_
      refine lv_iload_n hx hb dX0_station_17 rfl (lv_at hl 1 rfl) ?_
      refine am_iald hx hb hK hP 21 0 rfl rfl a ea (by omega) (by decide) dX0_station_18 ?_
      refine lv_goto (tgt := 23) hx hb dX0_station_19 (by decide) ?_
      exact am_iretR hx hb hr hlocks (by simp [ac_stn, c_1, c_7, nn_a]) dX0_station_23
set_option maxHeartbeats 4000000 in
set_option maxRecDepth 100000 in
theorem c_X0_act (l : Launch) (D : va_G) (ad : Nat → Nat) (cI cL : ClassId) (fi : Nat → Int32) (fl : Nat → Int64) (ai : Nat → Nat → Int32) (al : Nat → Nat → Int64) (A : Nat → Prop) (x : Int32) (t : Int32) (d : Int32) (z : Int64) (na : Nat) (hna : fi 0 = nI na) (hnl : na ≤ 10) : Met l yX0_act wsX0_act (am_rm 1 26) (va_Pc [.ref (ad 0), .int x, .int t, .int d, .long z] (am_M nwL vwCl D A (ac_w ad cI cL fi fl ai al) [(cI, .int), (cL, .long)])) (am_Mi vwCl D (if ac_actOk (fi 0) x t d z then (fi 0) else (-1)) (ac_w ad cI cL (upd (upd fi 0 (if ac_actOk (fi 0) x t d z then (fi 0) + 1 else (fi 0))) 4 (if ac_actOk (fi 0) x t d z then 0 else (fi 4))) fl (va_up (va_up (va_up ai 5 (if ac_actOk (fi 0) x t d z then upd (ai 5) na x else (ai 5))) 6 (if ac_actOk (fi 0) x t d z then upd (ai 6) na t else (ai 6))) 7 (if ac_actOk (fi 0) x t d z then upd (ai 7) na d else (ai 7))) (va_up al 8 (if ac_actOk (fi 0) x t d z then vp_updL (al 8) na z else (al 8)))) A) 0 0 A := by
  refine am_startM (cc := cX0_act) (maxL := 7) (ret := (some .int)) (by decide) rfl (Nat.le_of_ble_eq_true rfl) [(0, .ref (ad 0)), (1, .int x), (2, .int t), (3, .int d), (4, .long z)] rfl ?_
  intro p e s m below meth c ls hx hb hr hml hown hts hlocks hK hN hD H locs hP hS hl
  have hown : s.vm.findClass RX0 = some m.cls := hown
  have ht := am_ht hts
  have hin_X0 : ∀ w ∈ u_ws RX0 TX0 4, w ∈ wsX0_act := fun w h => List.mem_cons_of_mem _ (am_inX0 w h)
  have hin_X3 : ∀ w ∈ u_ws RX3 TX3 8, w ∈ wsX0_act := fun w h => List.mem_cons_of_mem _ (am_inX3 w h)
  have hin_X1 : ∀ w ∈ u_ws RX1 TX1 14, w ∈ wsX0_act := fun w h => List.mem_cons_of_mem _ (am_inX1 w h)
  have hf_12 := ht 170 (.fieldLink RX0 12 "ApartCost" "product" "LApartCost$Product;") rfl
  have hf_28 := ht 172 (.fieldLink RX0 28 "ApartCost" "found" "LApartCost$Found;") rfl
  have hf_43 := ht 57 (.fieldLink RX0 43 "ApartCost$Product" "acts" "I") rfl
  have hf_54 := ht 123 (.fieldLink RX0 54 "ApartCost$Found" "upToDate" "Z") rfl
  refine lv_iload_n hx hb dX0_act_0 rfl (lv_at hl 1 rfl) ?_
  refine lv_iconst (v := (-1)) hx hb dX0_act_1 (by decide) ?_
  refine lv_icmp_eq (tgt := 12) hx hb dX0_act_2 (by decide) (fun c_2 => ?_) (fun c_2 => ?_)
  · skip
    refine lv_iconst (v := 1) hx hb dX0_act_12 (by decide) ?_
    refine lv_goto (tgt := 17) hx hb dX0_act_13 (by decide) ?_
    refine lv_istore (lv' := [(6, .int 1), (0, .ref (ad 0)), (1, .int x), (2, .int t), (3, .int d), (4, .long z)]) hx hb dX0_act_17 hl (by decide) rfl (fun ls hl => ?_)
    refine lv_aload_n hx hb dX0_act_19 rfl (lv_at hl 1 rfl) ?_
    refine va_get (D := D) (ci := 0) (v := .ref (ad 1)) (C := RX0) (T := TX0) (N := 4) hx hb hts hin_X0 hown hK hP 0 rfl rfl 0 (by decide) hf_12 (fun _ h9 => h9) rfl dX0_act_20 ?_
    refine va_get (D := D) (ci := 1) (v := .int (fi 0)) (C := RX1) (T := TX1) (N := 14) hx hb hts hin_X1 hown hK hP 1 rfl rfl 0 (by decide) hf_43 (fun _ h9 => h9) rfl dX0_act_23 ?_
    refine lv_bipush (v := 10) hx hb dX0_act_26 (by decide) ?_
    refine lv_icmp_ge (tgt := 58) hx hb dX0_act_28 (by decide) (fun c_28 => ?_) (fun c_28 => ?_)
    · skip
      refine lv_iconst (v := (-1)) hx hb dX0_act_58 (by decide) ?_
      have hok : ¬ (ac_actOk (fi 0) x t d z) := by simp [ac_actOk, c_2, c_28]
      exact am_iretM hx hb hr hlocks (by simp only [if_neg hok]; exact hP) hS (by rw [if_neg hok]; first | done | rfl) dX0_act_59
    · skip
      have hlt : na < 10 := Nat.lt_of_not_le (fun z => c_28 (by rw [hna, show (10 : Int32) = nI 10 from rfl, nI_leI (by omega) (by omega)]; exact z))
      refine lv_iload hx hb dX0_act_31 (lv_at hl 0 rfl) ?_
      refine lv_if_eq (tgt := 58) hx hb dX0_act_33 (by decide) (fun c_33 => ?_) (fun c_33 => ?_)
      · skip
        exact absurd c_33 (by decide)
      · skip
        refine lv_iload_n hx hb dX0_act_36 rfl (lv_at hl 3 rfl) ?_
        refine am_callRi (W.runS (As := [.int t]) (rest := []) ⟨hx, hb, hml, hown, hts⟩ (c_X0_isKind l D _ _ t) (va_cwS 1 hts (am_gS (am_in 185 rfl) (am_in 186 rfl) (am_in 29 rfl) (am_in 187 rfl)) rfl rfl rfl (by decide +kernel) ⟨Nat.le_of_ble_eq_true rfl, Nat.le_of_ble_eq_true rfl⟩) (am_preSR hP hK hN) rfl rfl hl.1 rfl (lv_room (Nat.le_of_ble_eq_true rfl)) dX0_act_37 ⟨Nat.zero_le _, Nat.zero_le _⟩) ?_
        refine lv_if_eq (tgt := 58) hx hb dX0_act_40 (by decide) (fun c_40 => ?_) (fun c_40 => ?_)
        · skip
          refine lv_iconst (v := (-1)) hx hb dX0_act_58 (by decide) ?_
          have hok : ¬ (ac_actOk (fi 0) x t d z) := by simp [ac_actOk, c_2, c_28, c_40]
          exact am_iretM hx hb hr hlocks (by simp only [if_neg hok]; exact hP) hS (by rw [if_neg hok]; first | done | rfl) dX0_act_59
        · skip
          refine lv_iload_n hx hb dX0_act_43 rfl (lv_at hl 4 rfl) ?_
          refine am_callRi (W.runS (As := [.int d]) (rest := []) ⟨hx, hb, hml, hown, hts⟩ (c_X0_isKind l D _ _ d) (va_cwS 1 hts (am_gS (am_in 185 rfl) (am_in 186 rfl) (am_in 29 rfl) (am_in 187 rfl)) rfl rfl rfl (by decide +kernel) ⟨Nat.le_of_ble_eq_true rfl, Nat.le_of_ble_eq_true rfl⟩) (am_preSR hP hK hN) rfl rfl hl.1 rfl (lv_room (Nat.le_of_ble_eq_true rfl)) dX0_act_44 ⟨Nat.zero_le _, Nat.zero_le _⟩) ?_
          refine lv_if_eq (tgt := 58) hx hb dX0_act_47 (by decide) (fun c_47 => ?_) (fun c_47 => ?_)
          · skip
            refine lv_iconst (v := (-1)) hx hb dX0_act_58 (by decide) ?_
            have hok : ¬ (ac_actOk (fi 0) x t d z) := by simp [ac_actOk, c_2, c_28, c_40, c_47]
            exact am_iretM hx hb hr hlocks (by simp only [if_neg hok]; exact hP) hS (by rw [if_neg hok]; first | done | rfl) dX0_act_59
          · skip
            refine lv_lload hx hb dX0_act_50 (lv_at hl 5 rfl) ?_
            refine am_callRi (W.runS (As := [.long z]) (rest := []) ⟨hx, hb, hml, hown, hts⟩ (c_X0_isPrice l D _ _ z) (va_cwS 1 hts (am_gS (am_in 188 rfl) (am_in 189 rfl) (am_in 29 rfl) (am_in 190 rfl)) rfl rfl rfl (by decide +kernel) ⟨Nat.le_of_ble_eq_true rfl, Nat.le_of_ble_eq_true rfl⟩) (am_preSR hP hK hN) rfl rfl hl.1 rfl (lv_room (Nat.le_of_ble_eq_true rfl)) dX0_act_52 ⟨Nat.zero_le _, Nat.zero_le _⟩) ?_
            refine lv_if_ne (tgt := 60) hx hb dX0_act_55 (by decide) (fun c_55 => ?_) (fun c_55 => ?_)
            · skip
              refine lv_aload_n hx hb dX0_act_60 rfl (lv_at hl 1 rfl) ?_
              refine va_get (D := D) (ci := 0) (v := .ref (ad 3)) (C := RX0) (T := TX0) (N := 4) hx hb hts hin_X0 hown hK hP 0 rfl rfl 2 (by decide) hf_28 (fun _ h9 => h9) rfl dX0_act_61 ?_
              refine lv_iconst (v := 0) hx hb dX0_act_64 (by decide) ?_
              refine va_put (D := D) (ci := 3) (v := .int 0) (ty := .boolean) (C := RX3) (T := TX3) (N := 8) hx hb hts hin_X3 tyX3 tyX3_ok nmX3 hown hK hP hD hS 3 rfl rfl 1 (by decide) hf_54 (fun _ h9 => h9) rfl (by decide +kernel) rfl rfl (Nat.le_of_ble_eq_true rfl) dX0_act_65 (fun H locs hP hD hS => ?_)
              have hP : va_P D vwCl (ac_w ad cI cL (upd fi 4 0) fl ai al) H := hP
              have hD : va_D A (ac_w ad cI cL (upd fi 4 0) fl ai al) := am_D hD rfl
              refine lv_aload_n hx hb dX0_act_68 rfl (lv_at hl 1 rfl) ?_
              refine va_get (D := D) (ci := 0) (v := .ref (ad 1)) (C := RX0) (T := TX0) (N := 4) hx hb hts hin_X0 hown hK hP 0 rfl rfl 0 (by decide) hf_12 (fun _ h9 => h9) rfl dX0_act_69 ?_
              refine lv_iload_n hx hb dX0_act_72 rfl (lv_at hl 2 rfl) ?_
              refine lv_iload_n hx hb dX0_act_73 rfl (lv_at hl 3 rfl) ?_
              refine lv_iload_n hx hb dX0_act_74 rfl (lv_at hl 4 rfl) ?_
              refine lv_lload hx hb dX0_act_75 (lv_at hl 5 rfl) ?_
              refine am_callMi (va_runV (As := [.int x, .int t, .int d, .long z]) (rest := []) ⟨hx, hb, hml, hown, hts⟩ (c_X1_addAct l D ad cI cL (upd fi 4 0) fl ai al A x t d z na hna hlt) (cwV 4 hts (am_gV (am_in 192 rfl) (am_in 193 rfl) (am_in 194 rfl) (am_in 30 rfl) (am_in 195 rfl)) rfl rfl rfl (by decide +kernel) ⟨Nat.le_of_ble_eq_true rfl, Nat.le_of_ble_eq_true rfl⟩) (am_preVM 1 1 rfl rfl rfl hP hK hN hD) rfl rfl hl.1 rfl (lv_room (Nat.le_of_ble_eq_true rfl)) dX0_act_77 ⟨Nat.zero_le _, Nat.zero_le _⟩) hS (fun H locs hP hS => ?_)
              have hP : va_P D vwCl (ac_w ad cI cL (upd (upd fi 0 ((fi 0) + 1)) 4 0) fl (va_up (va_up (va_up ai 5 (upd (ai 5) na x)) 6 (upd (ai 6) na t)) 7 (upd (ai 7) na d)) (va_up al 8 (vp_updL (al 8) na z))) H := hP
              have hD : va_D A (ac_w ad cI cL (upd (upd fi 0 ((fi 0) + 1)) 4 0) fl (va_up (va_up (va_up ai 5 (upd (ai 5) na x)) 6 (upd (ai 6) na t)) 7 (upd (ai 7) na d)) (va_up al 8 (vp_updL (al 8) na z))) := am_D hD rfl
              have hok : ac_actOk (fi 0) x t d z := by simp [ac_actOk, c_2, c_28, c_40, c_47, c_55]
              exact am_iretM hx hb hr hlocks (by simp only [if_pos hok]; exact hP) hS (by rw [if_pos hok]; first | done | rfl) dX0_act_80
            · skip
              refine lv_iconst (v := (-1)) hx hb dX0_act_58 (by decide) ?_
              have hok : ¬ (ac_actOk (fi 0) x t d z) := by simp [ac_actOk, c_2, c_28, c_40, c_47, c_55]
              exact am_iretM hx hb hr hlocks (by simp only [if_neg hok]; exact hP) hS (by rw [if_neg hok]; first | done | rfl) dX0_act_59
  · skip
    refine lv_iload_n hx hb dX0_act_5 rfl (lv_at hl 1 rfl) ?_
    refine am_callRi (W.runS (As := [.int x]) (rest := []) ⟨hx, hb, hml, hown, hts⟩ (c_X0_isPart l D _ _ x) (va_cwS 1 hts (am_gS (am_in 182 rfl) (am_in 183 rfl) (am_in 29 rfl) (am_in 184 rfl)) rfl rfl rfl (by decide +kernel) ⟨Nat.le_of_ble_eq_true rfl, Nat.le_of_ble_eq_true rfl⟩) (am_preSR hP hK hN) rfl rfl hl.1 rfl (lv_room (Nat.le_of_ble_eq_true rfl)) dX0_act_6 ⟨Nat.zero_le _, Nat.zero_le _⟩) ?_
    refine lv_if_eq (tgt := 16) hx hb dX0_act_9 (by decide) (fun c_9 => ?_) (fun c_9 => ?_)
    · skip
      refine lv_iconst (v := 0) hx hb dX0_act_16 (by decide) ?_
      refine lv_istore (lv' := [(6, .int 0), (0, .ref (ad 0)), (1, .int x), (2, .int t), (3, .int d), (4, .long z)]) hx hb dX0_act_17 hl (by decide) rfl (fun ls hl => ?_)
      refine lv_aload_n hx hb dX0_act_19 rfl (lv_at hl 1 rfl) ?_
      refine va_get (D := D) (ci := 0) (v := .ref (ad 1)) (C := RX0) (T := TX0) (N := 4) hx hb hts hin_X0 hown hK hP 0 rfl rfl 0 (by decide) hf_12 (fun _ h9 => h9) rfl dX0_act_20 ?_
      refine va_get (D := D) (ci := 1) (v := .int (fi 0)) (C := RX1) (T := TX1) (N := 14) hx hb hts hin_X1 hown hK hP 1 rfl rfl 0 (by decide) hf_43 (fun _ h9 => h9) rfl dX0_act_23 ?_
      refine lv_bipush (v := 10) hx hb dX0_act_26 (by decide) ?_
      refine lv_icmp_ge (tgt := 58) hx hb dX0_act_28 (by decide) (fun c_28 => ?_) (fun c_28 => ?_)
      · skip
        refine lv_iconst (v := (-1)) hx hb dX0_act_58 (by decide) ?_
        have hok : ¬ (ac_actOk (fi 0) x t d z) := by simp [ac_actOk, c_2, c_9, c_28]
        exact am_iretM hx hb hr hlocks (by simp only [if_neg hok]; exact hP) hS (by rw [if_neg hok]; first | done | rfl) dX0_act_59
      · skip
        have hlt : na < 10 := Nat.lt_of_not_le (fun z => c_28 (by rw [hna, show (10 : Int32) = nI 10 from rfl, nI_leI (by omega) (by omega)]; exact z))
        refine lv_iload hx hb dX0_act_31 (lv_at hl 0 rfl) ?_
        refine lv_if_eq (tgt := 58) hx hb dX0_act_33 (by decide) (fun c_33 => ?_) (fun c_33 => ?_)
        · skip
          refine lv_iconst (v := (-1)) hx hb dX0_act_58 (by decide) ?_
          have hok : ¬ (ac_actOk (fi 0) x t d z) := by simp [ac_actOk, c_2, c_9, c_28]
          exact am_iretM hx hb hr hlocks (by simp only [if_neg hok]; exact hP) hS (by rw [if_neg hok]; first | done | rfl) dX0_act_59
        · skip
          exact absurd c_33 (by decide)
    · skip
      refine lv_iconst (v := 1) hx hb dX0_act_12 (by decide) ?_
      refine lv_goto (tgt := 17) hx hb dX0_act_13 (by decide) ?_
      refine lv_istore (lv' := [(6, .int 1), (0, .ref (ad 0)), (1, .int x), (2, .int t), (3, .int d), (4, .long z)]) hx hb dX0_act_17 hl (by decide) rfl (fun ls hl => ?_)
      refine lv_aload_n hx hb dX0_act_19 rfl (lv_at hl 1 rfl) ?_
      refine va_get (D := D) (ci := 0) (v := .ref (ad 1)) (C := RX0) (T := TX0) (N := 4) hx hb hts hin_X0 hown hK hP 0 rfl rfl 0 (by decide) hf_12 (fun _ h9 => h9) rfl dX0_act_20 ?_
      refine va_get (D := D) (ci := 1) (v := .int (fi 0)) (C := RX1) (T := TX1) (N := 14) hx hb hts hin_X1 hown hK hP 1 rfl rfl 0 (by decide) hf_43 (fun _ h9 => h9) rfl dX0_act_23 ?_
      refine lv_bipush (v := 10) hx hb dX0_act_26 (by decide) ?_
      refine lv_icmp_ge (tgt := 58) hx hb dX0_act_28 (by decide) (fun c_28 => ?_) (fun c_28 => ?_)
      · skip
        refine lv_iconst (v := (-1)) hx hb dX0_act_58 (by decide) ?_
        have hok : ¬ (ac_actOk (fi 0) x t d z) := by simp [ac_actOk, c_2, c_9, c_28]
        exact am_iretM hx hb hr hlocks (by simp only [if_neg hok]; exact hP) hS (by rw [if_neg hok]; first | done | rfl) dX0_act_59
      · skip
        have hlt : na < 10 := Nat.lt_of_not_le (fun z => c_28 (by rw [hna, show (10 : Int32) = nI 10 from rfl, nI_leI (by omega) (by omega)]; exact z))
        refine lv_iload hx hb dX0_act_31 (lv_at hl 0 rfl) ?_
        refine lv_if_eq (tgt := 58) hx hb dX0_act_33 (by decide) (fun c_33 => ?_) (fun c_33 => ?_)
        · skip
          exact absurd c_33 (by decide)
        · skip
          refine lv_iload_n hx hb dX0_act_36 rfl (lv_at hl 3 rfl) ?_
          refine am_callRi (W.runS (As := [.int t]) (rest := []) ⟨hx, hb, hml, hown, hts⟩ (c_X0_isKind l D _ _ t) (va_cwS 1 hts (am_gS (am_in 185 rfl) (am_in 186 rfl) (am_in 29 rfl) (am_in 187 rfl)) rfl rfl rfl (by decide +kernel) ⟨Nat.le_of_ble_eq_true rfl, Nat.le_of_ble_eq_true rfl⟩) (am_preSR hP hK hN) rfl rfl hl.1 rfl (lv_room (Nat.le_of_ble_eq_true rfl)) dX0_act_37 ⟨Nat.zero_le _, Nat.zero_le _⟩) ?_
          refine lv_if_eq (tgt := 58) hx hb dX0_act_40 (by decide) (fun c_40 => ?_) (fun c_40 => ?_)
          · skip
            refine lv_iconst (v := (-1)) hx hb dX0_act_58 (by decide) ?_
            have hok : ¬ (ac_actOk (fi 0) x t d z) := by simp [ac_actOk, c_2, c_9, c_28, c_40]
            exact am_iretM hx hb hr hlocks (by simp only [if_neg hok]; exact hP) hS (by rw [if_neg hok]; first | done | rfl) dX0_act_59
          · skip
            refine lv_iload_n hx hb dX0_act_43 rfl (lv_at hl 4 rfl) ?_
            refine am_callRi (W.runS (As := [.int d]) (rest := []) ⟨hx, hb, hml, hown, hts⟩ (c_X0_isKind l D _ _ d) (va_cwS 1 hts (am_gS (am_in 185 rfl) (am_in 186 rfl) (am_in 29 rfl) (am_in 187 rfl)) rfl rfl rfl (by decide +kernel) ⟨Nat.le_of_ble_eq_true rfl, Nat.le_of_ble_eq_true rfl⟩) (am_preSR hP hK hN) rfl rfl hl.1 rfl (lv_room (Nat.le_of_ble_eq_true rfl)) dX0_act_44 ⟨Nat.zero_le _, Nat.zero_le _⟩) ?_
            refine lv_if_eq (tgt := 58) hx hb dX0_act_47 (by decide) (fun c_47 => ?_) (fun c_47 => ?_)
            · skip
              refine lv_iconst (v := (-1)) hx hb dX0_act_58 (by decide) ?_
              have hok : ¬ (ac_actOk (fi 0) x t d z) := by simp [ac_actOk, c_2, c_9, c_28, c_40, c_47]
              exact am_iretM hx hb hr hlocks (by simp only [if_neg hok]; exact hP) hS (by rw [if_neg hok]; first | done | rfl) dX0_act_59
            · skip
              refine lv_lload hx hb dX0_act_50 (lv_at hl 5 rfl) ?_
              refine am_callRi (W.runS (As := [.long z]) (rest := []) ⟨hx, hb, hml, hown, hts⟩ (c_X0_isPrice l D _ _ z) (va_cwS 1 hts (am_gS (am_in 188 rfl) (am_in 189 rfl) (am_in 29 rfl) (am_in 190 rfl)) rfl rfl rfl (by decide +kernel) ⟨Nat.le_of_ble_eq_true rfl, Nat.le_of_ble_eq_true rfl⟩) (am_preSR hP hK hN) rfl rfl hl.1 rfl (lv_room (Nat.le_of_ble_eq_true rfl)) dX0_act_52 ⟨Nat.zero_le _, Nat.zero_le _⟩) ?_
              refine lv_if_ne (tgt := 60) hx hb dX0_act_55 (by decide) (fun c_55 => ?_) (fun c_55 => ?_)
              · skip
                refine lv_aload_n hx hb dX0_act_60 rfl (lv_at hl 1 rfl) ?_
                refine va_get (D := D) (ci := 0) (v := .ref (ad 3)) (C := RX0) (T := TX0) (N := 4) hx hb hts hin_X0 hown hK hP 0 rfl rfl 2 (by decide) hf_28 (fun _ h9 => h9) rfl dX0_act_61 ?_
                refine lv_iconst (v := 0) hx hb dX0_act_64 (by decide) ?_
                refine va_put (D := D) (ci := 3) (v := .int 0) (ty := .boolean) (C := RX3) (T := TX3) (N := 8) hx hb hts hin_X3 tyX3 tyX3_ok nmX3 hown hK hP hD hS 3 rfl rfl 1 (by decide) hf_54 (fun _ h9 => h9) rfl (by decide +kernel) rfl rfl (Nat.le_of_ble_eq_true rfl) dX0_act_65 (fun H locs hP hD hS => ?_)
                have hP : va_P D vwCl (ac_w ad cI cL (upd fi 4 0) fl ai al) H := hP
                have hD : va_D A (ac_w ad cI cL (upd fi 4 0) fl ai al) := am_D hD rfl
                refine lv_aload_n hx hb dX0_act_68 rfl (lv_at hl 1 rfl) ?_
                refine va_get (D := D) (ci := 0) (v := .ref (ad 1)) (C := RX0) (T := TX0) (N := 4) hx hb hts hin_X0 hown hK hP 0 rfl rfl 0 (by decide) hf_12 (fun _ h9 => h9) rfl dX0_act_69 ?_
                refine lv_iload_n hx hb dX0_act_72 rfl (lv_at hl 2 rfl) ?_
                refine lv_iload_n hx hb dX0_act_73 rfl (lv_at hl 3 rfl) ?_
                refine lv_iload_n hx hb dX0_act_74 rfl (lv_at hl 4 rfl) ?_
                refine lv_lload hx hb dX0_act_75 (lv_at hl 5 rfl) ?_
                refine am_callMi (va_runV (As := [.int x, .int t, .int d, .long z]) (rest := []) ⟨hx, hb, hml, hown, hts⟩ (c_X1_addAct l D ad cI cL (upd fi 4 0) fl ai al A x t d z na hna hlt) (cwV 4 hts (am_gV (am_in 192 rfl) (am_in 193 rfl) (am_in 194 rfl) (am_in 30 rfl) (am_in 195 rfl)) rfl rfl rfl (by decide +kernel) ⟨Nat.le_of_ble_eq_true rfl, Nat.le_of_ble_eq_true rfl⟩) (am_preVM 1 1 rfl rfl rfl hP hK hN hD) rfl rfl hl.1 rfl (lv_room (Nat.le_of_ble_eq_true rfl)) dX0_act_77 ⟨Nat.zero_le _, Nat.zero_le _⟩) hS (fun H locs hP hS => ?_)
                have hP : va_P D vwCl (ac_w ad cI cL (upd (upd fi 0 ((fi 0) + 1)) 4 0) fl (va_up (va_up (va_up ai 5 (upd (ai 5) na x)) 6 (upd (ai 6) na t)) 7 (upd (ai 7) na d)) (va_up al 8 (vp_updL (al 8) na z))) H := hP
                have hD : va_D A (ac_w ad cI cL (upd (upd fi 0 ((fi 0) + 1)) 4 0) fl (va_up (va_up (va_up ai 5 (upd (ai 5) na x)) 6 (upd (ai 6) na t)) 7 (upd (ai 7) na d)) (va_up al 8 (vp_updL (al 8) na z))) := am_D hD rfl
                have hok : ac_actOk (fi 0) x t d z := by simp [ac_actOk, c_2, c_9, c_28, c_40, c_47, c_55]
                exact am_iretM hx hb hr hlocks (by simp only [if_pos hok]; exact hP) hS (by rw [if_pos hok]; first | done | rfl) dX0_act_80
              · skip
                refine lv_iconst (v := (-1)) hx hb dX0_act_58 (by decide) ?_
                have hok : ¬ (ac_actOk (fi 0) x t d z) := by simp [ac_actOk, c_2, c_9, c_28, c_40, c_47, c_55]
                exact am_iretM hx hb hr hlocks (by simp only [if_neg hok]; exact hP) hS (by rw [if_neg hok]; first | done | rfl) dX0_act_59

set_option maxHeartbeats 4000000 in
set_option maxRecDepth 100000 in
theorem c_X0_before (l : Launch) (D : va_G) (ad : Nat → Nat) (cI cL : ClassId) (fi : Nat → Int32) (fl : Nat → Int64) (ai : Nat → Nat → Int32) (al : Nat → Nat → Int64) (A : Nat → Prop) (x : Int32) (y : Int32) (na : Nat) (hna : fi 0 = nI na) (hnl : na ≤ 10) : Met l yX0_before wsX0_before (am_rm 2 45) (va_Pc [.ref (ad 0), .int x, .int y] (am_M nwL vwCl D A (ac_w ad cI cL fi fl ai al) [(cI, .int), (cL, .long)])) (am_Mi vwCl D (if ac_befOk (fi 0) (ai 9) x y then 1 else 0) (ac_w ad cI cL (upd fi 4 (if ac_befOk (fi 0) (ai 9) x y then 0 else (fi 4))) fl (va_up ai 9 (if ac_befOk (fi 0) (ai 9) x y then ac_addNeed ((ai 9) x.toNatClampNeg ||| ((1 : Int32) <<< (x &&& 31))) y (ai 9) na else (ai 9))) al) A) 0 0 A := by
  refine am_startM (cc := cX0_before) (maxL := 3) (ret := (some .boolean)) (by decide) rfl (Nat.le_of_ble_eq_true rfl) [(0, .ref (ad 0)), (1, .int x), (2, .int y)] rfl ?_
  intro p e s m below meth c ls hx hb hr hml hown hts hlocks hK hN hD H locs hP hS hl
  have hown : s.vm.findClass RX0 = some m.cls := hown
  have ht := am_ht hts
  have hin_X0 : ∀ w ∈ u_ws RX0 TX0 4, w ∈ wsX0_before := fun w h => List.mem_cons_of_mem _ (am_inX0 w h)
  have hin_X3 : ∀ w ∈ u_ws RX3 TX3 8, w ∈ wsX0_before := fun w h => List.mem_cons_of_mem _ (am_inX3 w h)
  have hin_X1 : ∀ w ∈ u_ws RX1 TX1 14, w ∈ wsX0_before := fun w h => List.mem_cons_of_mem _ (am_inX1 w h)
  have hf_12 := ht 170 (.fieldLink RX0 12 "ApartCost" "product" "LApartCost$Product;") rfl
  have hf_28 := ht 172 (.fieldLink RX0 28 "ApartCost" "found" "LApartCost$Found;") rfl
  have hf_54 := ht 123 (.fieldLink RX0 54 "ApartCost$Found" "upToDate" "Z") rfl
  have hf_65 := ht 66 (.fieldLink RX0 65 "ApartCost$Product" "needs" "[I") rfl
  refine lv_aload_n hx hb dX0_before_0 rfl (lv_at hl 0 rfl) ?_
  refine va_get (D := D) (ci := 0) (v := .ref (ad 1)) (C := RX0) (T := TX0) (N := 4) hx hb hts hin_X0 hown hK hP 0 rfl rfl 0 (by decide) hf_12 (fun _ h9 => h9) rfl dX0_before_1 ?_
  refine lv_iload_n hx hb dX0_before_4 rfl (lv_at hl 1 rfl) ?_
  refine am_callRi (W.runV (As := [.int x]) (rest := []) ⟨hx, hb, hml, hown, hts⟩ (c_X1_hasAct l D ad cI cL fi fl ai al x) (cwV 1 hts (am_gV (am_in 200 rfl) (am_in 201 rfl) (am_in 202 rfl) (am_in 30 rfl) (am_in 203 rfl)) rfl rfl rfl (by decide +kernel) ⟨Nat.le_of_ble_eq_true rfl, Nat.le_of_ble_eq_true rfl⟩) (am_preVR 1 1 rfl rfl rfl hP hK hN) rfl rfl hl.1 rfl (lv_room (Nat.le_of_ble_eq_true rfl)) dX0_before_5 ⟨Nat.zero_le _, Nat.zero_le _⟩) ?_
  refine lv_if_eq (tgt := 43) hx hb dX0_before_8 (by decide) (fun c_8 => ?_) (fun c_8 => ?_)
  · skip
    refine lv_iconst (v := 0) hx hb dX0_before_43 (by decide) ?_
    have hok : ¬ (ac_befOk (fi 0) (ai 9) x y) := by first | rfl | (simp only [ac_befOk, c_8, if_true, if_false, eq_self, not_true_eq_false, not_false_eq_true, ite_true, ite_false, ↓reduceIte]; done) | (simp [ac_befOk, c_8]; done)
    exact am_zretM hx hb hr hlocks (Or.inl rfl) (by simp only [if_neg hok]; exact hP) hS (by rw [if_neg hok]; first | done | rfl) dX0_before_44
  · skip
    obtain ⟨a, hq_a, ea⟩ : ∃ z, z < na ∧ x = nI z := am_hasAct hna (by omega) c_8
    have nn_a : x.toNatClampNeg = a := by rw [ea]; exact nI_clamp (by omega)
    have mm_a : (nI a).toNatClampNeg = a := nI_clamp (by omega)
    refine lv_aload_n hx hb dX0_before_11 rfl (lv_at hl 0 rfl) ?_
    refine va_get (D := D) (ci := 0) (v := .ref (ad 1)) (C := RX0) (T := TX0) (N := 4) hx hb hts hin_X0 hown hK hP 0 rfl rfl 0 (by decide) hf_12 (fun _ h9 => h9) rfl dX0_before_12 ?_
    refine lv_iload_n hx hb dX0_before_15 rfl (lv_at hl 2 rfl) ?_
    refine am_callRi (W.runV (As := [.int y]) (rest := []) ⟨hx, hb, hml, hown, hts⟩ (c_X1_hasAct l D ad cI cL fi fl ai al y) (cwV 1 hts (am_gV (am_in 200 rfl) (am_in 201 rfl) (am_in 202 rfl) (am_in 30 rfl) (am_in 203 rfl)) rfl rfl rfl (by decide +kernel) ⟨Nat.le_of_ble_eq_true rfl, Nat.le_of_ble_eq_true rfl⟩) (am_preVR 1 1 rfl rfl rfl hP hK hN) rfl rfl hl.1 rfl (lv_room (Nat.le_of_ble_eq_true rfl)) dX0_before_16 ⟨Nat.zero_le _, Nat.zero_le _⟩) ?_
    refine lv_if_eq (tgt := 43) hx hb dX0_before_19 (by decide) (fun c_19 => ?_) (fun c_19 => ?_)
    · skip
      refine lv_iconst (v := 0) hx hb dX0_before_43 (by decide) ?_
      have hok : ¬ (ac_befOk (fi 0) (ai 9) x y) := by first | rfl | (simp only [ac_befOk, c_8, c_19, nn_a, if_true, if_false, eq_self, not_true_eq_false, not_false_eq_true, ite_true, ite_false, ↓reduceIte]; done) | (simp [ac_befOk, c_8, c_19, nn_a]; done)
      exact am_zretM hx hb hr hlocks (Or.inl rfl) (by simp only [if_neg hok]; exact hP) hS (by rw [if_neg hok]; first | done | rfl) dX0_before_44
    · skip
      obtain ⟨b, hq_b, eb⟩ : ∃ z, z < na ∧ y = nI z := am_hasAct hna (by omega) c_19
      have nn_b : y.toNatClampNeg = b := by rw [eb]; exact nI_clamp (by omega)
      have mm_b : (nI b).toNatClampNeg = b := nI_clamp (by omega)
      refine lv_iload_n hx hb dX0_before_22 rfl (lv_at hl 1 rfl) ?_
      refine lv_iload_n hx hb dX0_before_23 rfl (lv_at hl 2 rfl) ?_
      refine lv_icmp_eq (tgt := 43) hx hb dX0_before_24 (by decide) (fun c_24 => ?_) (fun c_24 => ?_)
      · skip
        refine lv_iconst (v := 0) hx hb dX0_before_43 (by decide) ?_
        have hok : ¬ (ac_befOk (fi 0) (ai 9) x y) := by first | rfl | (simp only [ac_befOk, c_8, c_19, c_24, nn_a, nn_b, if_true, if_false, eq_self, not_true_eq_false, not_false_eq_true, ite_true, ite_false, ↓reduceIte]; done) | (simp [ac_befOk, c_8, c_19, c_24, nn_a, nn_b]; done)
        exact am_zretM hx hb hr hlocks (Or.inl rfl) (by simp only [if_neg hok]; exact hP) hS (by rw [if_neg hok]; first | done | rfl) dX0_before_44
      · skip
        refine lv_aload_n hx hb dX0_before_27 rfl (lv_at hl 0 rfl) ?_
        refine va_get (D := D) (ci := 0) (v := .ref (ad 1)) (C := RX0) (T := TX0) (N := 4) hx hb hts hin_X0 hown hK hP 0 rfl rfl 0 (by decide) hf_12 (fun _ h9 => h9) rfl dX0_before_28 ?_
        refine va_get (D := D) (ci := 1) (v := .ref (ad 9)) (C := RX1) (T := TX1) (N := 14) hx hb hts hin_X1 hown hK hP 1 rfl rfl 5 (by decide) hf_65 (fun _ h9 => h9) rfl dX0_before_31 ?_
        refine lv_iload_n hx hb dX0_before_34 rfl (lv_at hl 1 rfl) ?_
        refine am_iald hx hb hK hP 9 0 rfl rfl a ea (by omega) (by decide) dX0_before_35 ?_
        refine lv_iload_n hx hb dX0_before_36 rfl (lv_at hl 2 rfl) ?_
        refine am_callRi (W.runS (As := [.int ((ai 9) a), .int y]) (rest := []) ⟨hx, hb, hml, hown, hts⟩ (c_X0_has l D _ _ ((ai 9) a) y) (va_cwS 2 hts (am_gS (am_in 204 rfl) (am_in 205 rfl) (am_in 29 rfl) (am_in 206 rfl)) rfl rfl rfl (by decide +kernel) ⟨Nat.le_of_ble_eq_true rfl, Nat.le_of_ble_eq_true rfl⟩) (am_preSR hP hK hN) rfl rfl hl.1 rfl (lv_room (Nat.le_of_ble_eq_true rfl)) dX0_before_37 ⟨Nat.zero_le _, Nat.zero_le _⟩) ?_
        refine lv_if_eq (tgt := 45) hx hb dX0_before_40 (by decide) (fun c_40 => ?_) (fun c_40 => ?_)
        · skip
          refine lv_aload_n hx hb dX0_before_45 rfl (lv_at hl 0 rfl) ?_
          refine va_get (D := D) (ci := 0) (v := .ref (ad 1)) (C := RX0) (T := TX0) (N := 4) hx hb hts hin_X0 hown hK hP 0 rfl rfl 0 (by decide) hf_12 (fun _ h9 => h9) rfl dX0_before_46 ?_
          refine lv_iload_n hx hb dX0_before_49 rfl (lv_at hl 1 rfl) ?_
          refine am_topi ea ?_
          refine lv_iload_n hx hb dX0_before_50 rfl (lv_at hl 2 rfl) ?_
          refine am_topi eb ?_
          refine am_callMv (va_runV (As := [.int (nI a), .int (nI b)]) (rest := []) ⟨hx, hb, hml, hown, hts⟩ (c_X1_addNeed l D ad cI cL fi fl ai al A a b na hna hnl hq_a hq_b) (cwV 2 hts (am_gV (am_in 207 rfl) (am_in 208 rfl) (am_in 209 rfl) (am_in 30 rfl) (am_in 210 rfl)) rfl rfl rfl (by decide +kernel) ⟨Nat.le_of_ble_eq_true rfl, Nat.le_of_ble_eq_true rfl⟩) (am_preVM 1 1 rfl rfl rfl hP hK hN hD) rfl rfl hl.1 rfl (lv_room (Nat.le_of_ble_eq_true rfl)) dX0_before_51 ⟨Nat.zero_le _, Nat.zero_le _⟩) hS (fun H locs hP hS => ?_)
          have hP : va_P D vwCl (ac_w ad cI cL fi fl (va_up ai 9 (ac_addNeed ((ai 9) a ||| ((1 : Int32) <<< (nI a &&& 31))) (nI b) (ai 9) na)) al) H := hP
          have hD : va_D A (ac_w ad cI cL fi fl (va_up ai 9 (ac_addNeed ((ai 9) a ||| ((1 : Int32) <<< (nI a &&& 31))) (nI b) (ai 9) na)) al) := am_D hD rfl
          refine lv_aload_n hx hb dX0_before_54 rfl (lv_at hl 0 rfl) ?_
          refine va_get (D := D) (ci := 0) (v := .ref (ad 3)) (C := RX0) (T := TX0) (N := 4) hx hb hts hin_X0 hown hK hP 0 rfl rfl 2 (by decide) hf_28 (fun _ h9 => h9) rfl dX0_before_55 ?_
          refine lv_iconst (v := 0) hx hb dX0_before_58 (by decide) ?_
          refine va_put (D := D) (ci := 3) (v := .int 0) (ty := .boolean) (C := RX3) (T := TX3) (N := 8) hx hb hts hin_X3 tyX3 tyX3_ok nmX3 hown hK hP hD hS 3 rfl rfl 1 (by decide) hf_54 (fun _ h9 => h9) rfl (by decide +kernel) rfl rfl (Nat.le_of_ble_eq_true rfl) dX0_before_59 (fun H locs hP hD hS => ?_)
          have hP : va_P D vwCl (ac_w ad cI cL (upd fi 4 0) fl (va_up ai 9 (ac_addNeed ((ai 9) a ||| ((1 : Int32) <<< (nI a &&& 31))) (nI b) (ai 9) na)) al) H := hP
          have hD : va_D A (ac_w ad cI cL (upd fi 4 0) fl (va_up ai 9 (ac_addNeed ((ai 9) a ||| ((1 : Int32) <<< (nI a &&& 31))) (nI b) (ai 9) na)) al) := am_D hD rfl
          refine lv_iconst (v := 1) hx hb dX0_before_62 (by decide) ?_
          have hok : ac_befOk (fi 0) (ai 9) x y := by first | rfl | (simp only [ac_befOk, c_8, c_19, c_24, c_40, nn_a, nn_b, if_true, if_false, eq_self, not_true_eq_false, not_false_eq_true, ite_true, ite_false, ↓reduceIte]; done) | (simp [ac_befOk, c_8, c_19, c_24, c_40, nn_a, nn_b]; done)
          exact am_zretM hx hb hr hlocks (Or.inr rfl) (by simp only [if_pos hok]; simp only [ea, eb, mm_a, mm_b]; exact hP) hS (by rw [if_pos hok]; first | done | rfl) dX0_before_63
        · skip
          refine lv_iconst (v := 0) hx hb dX0_before_43 (by decide) ?_
          have hok : ¬ (ac_befOk (fi 0) (ai 9) x y) := by first | rfl | (simp only [ac_befOk, c_8, c_19, c_24, c_40, nn_a, nn_b, if_true, if_false, eq_self, not_true_eq_false, not_false_eq_true, ite_true, ite_false, ↓reduceIte]; done) | (simp [ac_befOk, c_8, c_19, c_24, c_40, nn_a, nn_b]; done)
          exact am_zretM hx hb hr hlocks (Or.inl rfl) (by simp only [if_neg hok]; exact hP) hS (by rw [if_neg hok]; first | done | rfl) dX0_before_44

set_option maxHeartbeats 4000000 in
set_option maxRecDepth 100000 in
theorem c_X0_change (l : Launch) (D : va_G) (ad : Nat → Nat) (cI cL : ClassId) (fi : Nat → Int32) (fl : Nat → Int64) (ai : Nat → Nat → Int32) (al : Nat → Nat → Int64) (A : Nat → Prop) (x : Int32) (y : Int32) (z : Int64) : Met l yX0_change wsX0_change (am_rm 2 41) (va_Pc [.ref (ad 0), .int x, .int y, .long z] (am_M nwL vwCl D A (ac_w ad cI cL fi fl ai al) [(cI, .int), (cL, .long)])) (am_Mi vwCl D (if ac_movOk x y z then 1 else 0) (ac_w ad cI cL (upd fi 4 (if ac_movOk x y z then 0 else (fi 4))) fl ai (va_up al 10 (if ac_movOk x y z then vp_updL (al 10) ((x * 6 + y).toNatClampNeg) z else (al 10)))) A) 0 0 A := by
  refine am_startM (cc := cX0_change) (maxL := 5) (ret := (some .boolean)) (by decide) rfl (Nat.le_of_ble_eq_true rfl) [(0, .ref (ad 0)), (1, .int x), (2, .int y), (3, .long z)] rfl ?_
  intro p e s m below meth c ls hx hb hr hml hown hts hlocks hK hN hD H locs hP hS hl
  have hown : s.vm.findClass RX0 = some m.cls := hown
  have ht := am_ht hts
  have hin_X0 : ∀ w ∈ u_ws RX0 TX0 4, w ∈ wsX0_change := fun w h => List.mem_cons_of_mem _ (am_inX0 w h)
  have hin_X3 : ∀ w ∈ u_ws RX3 TX3 8, w ∈ wsX0_change := fun w h => List.mem_cons_of_mem _ (am_inX3 w h)
  have hin_X1 : ∀ w ∈ u_ws RX1 TX1 14, w ∈ wsX0_change := fun w h => List.mem_cons_of_mem _ (am_inX1 w h)
  have hf_12 := ht 170 (.fieldLink RX0 12 "ApartCost" "product" "LApartCost$Product;") rfl
  have hf_28 := ht 172 (.fieldLink RX0 28 "ApartCost" "found" "LApartCost$Found;") rfl
  have hf_54 := ht 123 (.fieldLink RX0 54 "ApartCost$Found" "upToDate" "Z") rfl
  have hf_80 := ht 71 (.fieldLink RX0 80 "ApartCost$Product" "changes" "[J") rfl
  refine lv_iload_n hx hb dX0_change_0 rfl (lv_at hl 1 rfl) ?_
  refine lv_iload_n hx hb dX0_change_1 rfl (lv_at hl 2 rfl) ?_
  refine am_callRi (W.runS (As := [.int x, .int y]) (rest := []) ⟨hx, hb, hml, hown, hts⟩ (c_X0_isMove l D _ _ x y) (va_cwS 2 hts (am_gS (am_in 215 rfl) (am_in 216 rfl) (am_in 29 rfl) (am_in 217 rfl)) rfl rfl rfl (by decide +kernel) ⟨Nat.le_of_ble_eq_true rfl, Nat.le_of_ble_eq_true rfl⟩) (am_preSR hP hK hN) rfl rfl hl.1 rfl (lv_room (Nat.le_of_ble_eq_true rfl)) dX0_change_2 ⟨Nat.zero_le _, Nat.zero_le _⟩) ?_
  refine lv_if_eq (tgt := 15) hx hb dX0_change_5 (by decide) (fun c_5 => ?_) (fun c_5 => ?_)
  · skip
    refine lv_iconst (v := 0) hx hb dX0_change_15 (by decide) ?_
    have hok : ¬ (ac_movOk x y z) := by first | rfl | (simp only [ac_movOk, c_5, if_true, if_false, eq_self, not_true_eq_false, not_false_eq_true, ite_true, ite_false, ↓reduceIte]; done) | (simp [ac_movOk, c_5]; done)
    exact am_zretM hx hb hr hlocks (Or.inl rfl) (by simp only [if_neg hok]; exact hP) hS (by rw [if_neg hok]; first | done | rfl) dX0_change_16
  · skip
    have hmv := am_isMove c_5
    refine lv_lload_n hx hb dX0_change_8 rfl (lv_at hl 3 rfl) ?_
    refine am_callRi (W.runS (As := [.long z]) (rest := []) ⟨hx, hb, hml, hown, hts⟩ (c_X0_isPrice l D _ _ z) (va_cwS 1 hts (am_gS (am_in 188 rfl) (am_in 189 rfl) (am_in 29 rfl) (am_in 190 rfl)) rfl rfl rfl (by decide +kernel) ⟨Nat.le_of_ble_eq_true rfl, Nat.le_of_ble_eq_true rfl⟩) (am_preSR hP hK hN) rfl rfl hl.1 rfl (lv_room (Nat.le_of_ble_eq_true rfl)) dX0_change_9 ⟨Nat.zero_le _, Nat.zero_le _⟩) ?_
    refine lv_if_ne (tgt := 17) hx hb dX0_change_12 (by decide) (fun c_12 => ?_) (fun c_12 => ?_)
    · skip
      refine lv_aload_n hx hb dX0_change_17 rfl (lv_at hl 0 rfl) ?_
      refine va_get (D := D) (ci := 0) (v := .ref (ad 1)) (C := RX0) (T := TX0) (N := 4) hx hb hts hin_X0 hown hK hP 0 rfl rfl 0 (by decide) hf_12 (fun _ h9 => h9) rfl dX0_change_18 ?_
      refine va_get (D := D) (ci := 1) (v := .ref (ad 10)) (C := RX1) (T := TX1) (N := 14) hx hb hts hin_X1 hown hK hP 1 rfl rfl 7 (by decide) hf_80 (fun _ h9 => h9) rfl dX0_change_21 ?_
      refine lv_iload_n hx hb dX0_change_24 rfl (lv_at hl 1 rfl) ?_
      refine lv_bipush (v := 6) hx hb dX0_change_25 (by decide) ?_
      refine lv_imul hx hb dX0_change_27 ?_
      refine lv_iload_n hx hb dX0_change_28 rfl (lv_at hl 2 rfl) ?_
      refine lv_iadd hx hb dX0_change_29 ?_
      refine lv_lload_n hx hb dX0_change_30 rfl (lv_at hl 3 rfl) ?_
      refine am_last hx hb hK hP hD hS 10 1 rfl rfl ((x * 6 + y).toNatClampNeg) (am_ix6 hmv.1 hmv.2).1 (am_ix6 hmv.1 hmv.2).2 (by decide) (ac_w ad cI cL fi fl ai (va_up al 10 (vp_updL (al 10) ((x * 6 + y).toNatClampNeg) z))) rfl dX0_change_31 (fun H locs hP hD hS => ?_)
      refine lv_aload_n hx hb dX0_change_32 rfl (lv_at hl 0 rfl) ?_
      refine va_get (D := D) (ci := 0) (v := .ref (ad 3)) (C := RX0) (T := TX0) (N := 4) hx hb hts hin_X0 hown hK hP 0 rfl rfl 2 (by decide) hf_28 (fun _ h9 => h9) rfl dX0_change_33 ?_
      refine lv_iconst (v := 0) hx hb dX0_change_36 (by decide) ?_
      refine va_put (D := D) (ci := 3) (v := .int 0) (ty := .boolean) (C := RX3) (T := TX3) (N := 8) hx hb hts hin_X3 tyX3 tyX3_ok nmX3 hown hK hP hD hS 3 rfl rfl 1 (by decide) hf_54 (fun _ h9 => h9) rfl (by decide +kernel) rfl rfl (Nat.le_of_ble_eq_true rfl) dX0_change_37 (fun H locs hP hD hS => ?_)
      have hP : va_P D vwCl (ac_w ad cI cL (upd fi 4 0) fl ai (va_up al 10 (vp_updL (al 10) ((x * 6 + y).toNatClampNeg) z))) H := hP
      have hD : va_D A (ac_w ad cI cL (upd fi 4 0) fl ai (va_up al 10 (vp_updL (al 10) ((x * 6 + y).toNatClampNeg) z))) := am_D hD rfl
      refine lv_iconst (v := 1) hx hb dX0_change_40 (by decide) ?_
      have hok : ac_movOk x y z := by first | rfl | (simp only [ac_movOk, c_5, c_12, if_true, if_false, eq_self, not_true_eq_false, not_false_eq_true, ite_true, ite_false, ↓reduceIte]; done) | (simp [ac_movOk, c_5, c_12]; done)
      exact am_zretM hx hb hr hlocks (Or.inr rfl) (by simp only [if_pos hok]; exact hP) hS (by rw [if_pos hok]; first | done | rfl) dX0_change_41
    · skip
      refine lv_iconst (v := 0) hx hb dX0_change_15 (by decide) ?_
      have hok : ¬ (ac_movOk x y z) := by first | rfl | (simp only [ac_movOk, c_5, c_12, if_true, if_false, eq_self, not_true_eq_false, not_false_eq_true, ite_true, ite_false, ↓reduceIte]; done) | (simp [ac_movOk, c_5, c_12]; done)
      exact am_zretM hx hb hr hlocks (Or.inl rfl) (by simp only [if_neg hok]; exact hP) hS (by rw [if_neg hok]; first | done | rfl) dX0_change_16

set_option maxHeartbeats 4000000 in
set_option maxRecDepth 100000 in
theorem c_X0_turn (l : Launch) (D : va_G) (ad : Nat → Nat) (cI cL : ClassId) (fi : Nat → Int32) (fl : Nat → Int64) (ai : Nat → Nat → Int32) (al : Nat → Nat → Int64) (A : Nat → Prop) (x : Int32) (y : Int32) (z : Int64) : Met l yX0_turn wsX0_turn (am_rm 2 41) (va_Pc [.ref (ad 0), .int x, .int y, .long z] (am_M nwL vwCl D A (ac_w ad cI cL fi fl ai al) [(cI, .int), (cL, .long)])) (am_Mi vwCl D (if ac_movOk x y z then 1 else 0) (ac_w ad cI cL (upd fi 4 (if ac_movOk x y z then 0 else (fi 4))) fl ai (va_up al 11 (if ac_movOk x y z then vp_updL (al 11) ((x * 6 + y).toNatClampNeg) z else (al 11)))) A) 0 0 A := by
  refine am_startM (cc := cX0_turn) (maxL := 5) (ret := (some .boolean)) (by decide) rfl (Nat.le_of_ble_eq_true rfl) [(0, .ref (ad 0)), (1, .int x), (2, .int y), (3, .long z)] rfl ?_
  intro p e s m below meth c ls hx hb hr hml hown hts hlocks hK hN hD H locs hP hS hl
  have hown : s.vm.findClass RX0 = some m.cls := hown
  have ht := am_ht hts
  have hin_X0 : ∀ w ∈ u_ws RX0 TX0 4, w ∈ wsX0_turn := fun w h => List.mem_cons_of_mem _ (am_inX0 w h)
  have hin_X3 : ∀ w ∈ u_ws RX3 TX3 8, w ∈ wsX0_turn := fun w h => List.mem_cons_of_mem _ (am_inX3 w h)
  have hin_X1 : ∀ w ∈ u_ws RX1 TX1 14, w ∈ wsX0_turn := fun w h => List.mem_cons_of_mem _ (am_inX1 w h)
  have hf_12 := ht 170 (.fieldLink RX0 12 "ApartCost" "product" "LApartCost$Product;") rfl
  have hf_28 := ht 172 (.fieldLink RX0 28 "ApartCost" "found" "LApartCost$Found;") rfl
  have hf_54 := ht 123 (.fieldLink RX0 54 "ApartCost$Found" "upToDate" "Z") rfl
  have hf_84 := ht 73 (.fieldLink RX0 84 "ApartCost$Product" "turns" "[J") rfl
  refine lv_iload_n hx hb dX0_turn_0 rfl (lv_at hl 1 rfl) ?_
  refine lv_iload_n hx hb dX0_turn_1 rfl (lv_at hl 2 rfl) ?_
  refine am_callRi (W.runS (As := [.int x, .int y]) (rest := []) ⟨hx, hb, hml, hown, hts⟩ (c_X0_isMove l D _ _ x y) (va_cwS 2 hts (am_gS (am_in 215 rfl) (am_in 216 rfl) (am_in 29 rfl) (am_in 217 rfl)) rfl rfl rfl (by decide +kernel) ⟨Nat.le_of_ble_eq_true rfl, Nat.le_of_ble_eq_true rfl⟩) (am_preSR hP hK hN) rfl rfl hl.1 rfl (lv_room (Nat.le_of_ble_eq_true rfl)) dX0_turn_2 ⟨Nat.zero_le _, Nat.zero_le _⟩) ?_
  refine lv_if_eq (tgt := 15) hx hb dX0_turn_5 (by decide) (fun c_5 => ?_) (fun c_5 => ?_)
  · skip
    refine lv_iconst (v := 0) hx hb dX0_turn_15 (by decide) ?_
    have hok : ¬ (ac_movOk x y z) := by first | rfl | (simp only [ac_movOk, c_5, if_true, if_false, eq_self, not_true_eq_false, not_false_eq_true, ite_true, ite_false, ↓reduceIte]; done) | (simp [ac_movOk, c_5]; done)
    exact am_zretM hx hb hr hlocks (Or.inl rfl) (by simp only [if_neg hok]; exact hP) hS (by rw [if_neg hok]; first | done | rfl) dX0_turn_16
  · skip
    have hmv := am_isMove c_5
    refine lv_lload_n hx hb dX0_turn_8 rfl (lv_at hl 3 rfl) ?_
    refine am_callRi (W.runS (As := [.long z]) (rest := []) ⟨hx, hb, hml, hown, hts⟩ (c_X0_isPrice l D _ _ z) (va_cwS 1 hts (am_gS (am_in 188 rfl) (am_in 189 rfl) (am_in 29 rfl) (am_in 190 rfl)) rfl rfl rfl (by decide +kernel) ⟨Nat.le_of_ble_eq_true rfl, Nat.le_of_ble_eq_true rfl⟩) (am_preSR hP hK hN) rfl rfl hl.1 rfl (lv_room (Nat.le_of_ble_eq_true rfl)) dX0_turn_9 ⟨Nat.zero_le _, Nat.zero_le _⟩) ?_
    refine lv_if_ne (tgt := 17) hx hb dX0_turn_12 (by decide) (fun c_12 => ?_) (fun c_12 => ?_)
    · skip
      refine lv_aload_n hx hb dX0_turn_17 rfl (lv_at hl 0 rfl) ?_
      refine va_get (D := D) (ci := 0) (v := .ref (ad 1)) (C := RX0) (T := TX0) (N := 4) hx hb hts hin_X0 hown hK hP 0 rfl rfl 0 (by decide) hf_12 (fun _ h9 => h9) rfl dX0_turn_18 ?_
      refine va_get (D := D) (ci := 1) (v := .ref (ad 11)) (C := RX1) (T := TX1) (N := 14) hx hb hts hin_X1 hown hK hP 1 rfl rfl 8 (by decide) hf_84 (fun _ h9 => h9) rfl dX0_turn_21 ?_
      refine lv_iload_n hx hb dX0_turn_24 rfl (lv_at hl 1 rfl) ?_
      refine lv_bipush (v := 6) hx hb dX0_turn_25 (by decide) ?_
      refine lv_imul hx hb dX0_turn_27 ?_
      refine lv_iload_n hx hb dX0_turn_28 rfl (lv_at hl 2 rfl) ?_
      refine lv_iadd hx hb dX0_turn_29 ?_
      refine lv_lload_n hx hb dX0_turn_30 rfl (lv_at hl 3 rfl) ?_
      refine am_last hx hb hK hP hD hS 11 1 rfl rfl ((x * 6 + y).toNatClampNeg) (am_ix6 hmv.1 hmv.2).1 (am_ix6 hmv.1 hmv.2).2 (by decide) (ac_w ad cI cL fi fl ai (va_up al 11 (vp_updL (al 11) ((x * 6 + y).toNatClampNeg) z))) rfl dX0_turn_31 (fun H locs hP hD hS => ?_)
      refine lv_aload_n hx hb dX0_turn_32 rfl (lv_at hl 0 rfl) ?_
      refine va_get (D := D) (ci := 0) (v := .ref (ad 3)) (C := RX0) (T := TX0) (N := 4) hx hb hts hin_X0 hown hK hP 0 rfl rfl 2 (by decide) hf_28 (fun _ h9 => h9) rfl dX0_turn_33 ?_
      refine lv_iconst (v := 0) hx hb dX0_turn_36 (by decide) ?_
      refine va_put (D := D) (ci := 3) (v := .int 0) (ty := .boolean) (C := RX3) (T := TX3) (N := 8) hx hb hts hin_X3 tyX3 tyX3_ok nmX3 hown hK hP hD hS 3 rfl rfl 1 (by decide) hf_54 (fun _ h9 => h9) rfl (by decide +kernel) rfl rfl (Nat.le_of_ble_eq_true rfl) dX0_turn_37 (fun H locs hP hD hS => ?_)
      have hP : va_P D vwCl (ac_w ad cI cL (upd fi 4 0) fl ai (va_up al 11 (vp_updL (al 11) ((x * 6 + y).toNatClampNeg) z))) H := hP
      have hD : va_D A (ac_w ad cI cL (upd fi 4 0) fl ai (va_up al 11 (vp_updL (al 11) ((x * 6 + y).toNatClampNeg) z))) := am_D hD rfl
      refine lv_iconst (v := 1) hx hb dX0_turn_40 (by decide) ?_
      have hok : ac_movOk x y z := by first | rfl | (simp only [ac_movOk, c_5, c_12, if_true, if_false, eq_self, not_true_eq_false, not_false_eq_true, ite_true, ite_false, ↓reduceIte]; done) | (simp [ac_movOk, c_5, c_12]; done)
      exact am_zretM hx hb hr hlocks (Or.inr rfl) (by simp only [if_pos hok]; exact hP) hS (by rw [if_pos hok]; first | done | rfl) dX0_turn_41
    · skip
      refine lv_iconst (v := 0) hx hb dX0_turn_15 (by decide) ?_
      have hok : ¬ (ac_movOk x y z) := by first | rfl | (simp only [ac_movOk, c_5, c_12, if_true, if_false, eq_self, not_true_eq_false, not_false_eq_true, ite_true, ite_false, ↓reduceIte]; done) | (simp [ac_movOk, c_5, c_12]; done)
      exact am_zretM hx hb hr hlocks (Or.inl rfl) (by simp only [if_neg hok]; exact hP) hS (by rw [if_neg hok]; first | done | rfl) dX0_turn_16

set_option maxHeartbeats 4000000 in
set_option maxRecDepth 100000 in
theorem c_X0_worth (l : Launch) (D : va_G) (ad : Nat → Nat) (cI cL : ClassId) (fi : Nat → Int32) (fl : Nat → Int64) (ai : Nat → Nat → Int32) (al : Nat → Nat → Int64) (A : Nat → Prop) (x : Int32) (z : Int64) : Met l yX0_worth wsX0_worth (am_rm 1 21) (va_Pc [.ref (ad 0), .int x, .long z] (am_M nwL vwCl D A (ac_w ad cI cL fi fl ai al) [(cI, .int), (cL, .long)])) (am_Mi vwCl D (if ac_worOk x z then 1 else 0) (ac_w ad cI cL (upd fi 4 (if ac_worOk x z then 0 else (fi 4))) fl ai (va_up al 12 (if ac_worOk x z then vp_updL (al 12) x.toNatClampNeg z else (al 12)))) A) 0 0 A := by
  refine am_startM (cc := cX0_worth) (maxL := 4) (ret := (some .boolean)) (by decide) rfl (Nat.le_of_ble_eq_true rfl) [(0, .ref (ad 0)), (1, .int x), (2, .long z)] rfl ?_
  intro p e s m below meth c ls hx hb hr hml hown hts hlocks hK hN hD H locs hP hS hl
  have hown : s.vm.findClass RX0 = some m.cls := hown
  have ht := am_ht hts
  have hin_X0 : ∀ w ∈ u_ws RX0 TX0 4, w ∈ wsX0_worth := fun w h => List.mem_cons_of_mem _ (am_inX0 w h)
  have hin_X3 : ∀ w ∈ u_ws RX3 TX3 8, w ∈ wsX0_worth := fun w h => List.mem_cons_of_mem _ (am_inX3 w h)
  have hin_X1 : ∀ w ∈ u_ws RX1 TX1 14, w ∈ wsX0_worth := fun w h => List.mem_cons_of_mem _ (am_inX1 w h)
  have hf_12 := ht 170 (.fieldLink RX0 12 "ApartCost" "product" "LApartCost$Product;") rfl
  have hf_28 := ht 172 (.fieldLink RX0 28 "ApartCost" "found" "LApartCost$Found;") rfl
  have hf_54 := ht 123 (.fieldLink RX0 54 "ApartCost$Found" "upToDate" "Z") rfl
  have hf_90 := ht 76 (.fieldLink RX0 90 "ApartCost$Product" "worths" "[J") rfl
  refine lv_iload_n hx hb dX0_worth_0 rfl (lv_at hl 1 rfl) ?_
  refine am_callRi (W.runS (As := [.int x]) (rest := []) ⟨hx, hb, hml, hown, hts⟩ (c_X0_isPart l D _ _ x) (va_cwS 1 hts (am_gS (am_in 182 rfl) (am_in 183 rfl) (am_in 29 rfl) (am_in 184 rfl)) rfl rfl rfl (by decide +kernel) ⟨Nat.le_of_ble_eq_true rfl, Nat.le_of_ble_eq_true rfl⟩) (am_preSR hP hK hN) rfl rfl hl.1 rfl (lv_room (Nat.le_of_ble_eq_true rfl)) dX0_worth_1 ⟨Nat.zero_le _, Nat.zero_le _⟩) ?_
  refine lv_if_eq (tgt := 14) hx hb dX0_worth_4 (by decide) (fun c_4 => ?_) (fun c_4 => ?_)
  · skip
    refine lv_iconst (v := 0) hx hb dX0_worth_14 (by decide) ?_
    have hok : ¬ (ac_worOk x z) := by first | rfl | (simp only [ac_worOk, c_4, if_true, if_false, eq_self, not_true_eq_false, not_false_eq_true, ite_true, ite_false, ↓reduceIte]; done) | (simp [ac_worOk, c_4]; done)
    exact am_zretM hx hb hr hlocks (Or.inl rfl) (by simp only [if_neg hok]; exact hP) hS (by rw [if_neg hok]; first | done | rfl) dX0_worth_15
  · skip
    obtain ⟨a, hq_a, ea⟩ : ∃ z, z < 12 ∧ x = nI z := am_isPart c_4
    have nn_a : x.toNatClampNeg = a := by rw [ea]; exact nI_clamp (by omega)
    have mm_a : (nI a).toNatClampNeg = a := nI_clamp (by omega)
    refine lv_lload_n hx hb dX0_worth_7 rfl (lv_at hl 2 rfl) ?_
    refine am_callRi (W.runS (As := [.long z]) (rest := []) ⟨hx, hb, hml, hown, hts⟩ (c_X0_isWorth l D _ _ z) (va_cwS 1 hts (am_gS (am_in 226 rfl) (am_in 227 rfl) (am_in 29 rfl) (am_in 228 rfl)) rfl rfl rfl (by decide +kernel) ⟨Nat.le_of_ble_eq_true rfl, Nat.le_of_ble_eq_true rfl⟩) (am_preSR hP hK hN) rfl rfl hl.1 rfl (lv_room (Nat.le_of_ble_eq_true rfl)) dX0_worth_8 ⟨Nat.zero_le _, Nat.zero_le _⟩) ?_
    refine lv_if_ne (tgt := 16) hx hb dX0_worth_11 (by decide) (fun c_11 => ?_) (fun c_11 => ?_)
    · skip
      refine lv_aload_n hx hb dX0_worth_16 rfl (lv_at hl 0 rfl) ?_
      refine va_get (D := D) (ci := 0) (v := .ref (ad 1)) (C := RX0) (T := TX0) (N := 4) hx hb hts hin_X0 hown hK hP 0 rfl rfl 0 (by decide) hf_12 (fun _ h9 => h9) rfl dX0_worth_17 ?_
      refine va_get (D := D) (ci := 1) (v := .ref (ad 12)) (C := RX1) (T := TX1) (N := 14) hx hb hts hin_X1 hown hK hP 1 rfl rfl 9 (by decide) hf_90 (fun _ h9 => h9) rfl dX0_worth_20 ?_
      refine lv_iload_n hx hb dX0_worth_23 rfl (lv_at hl 1 rfl) ?_
      refine lv_lload_n hx hb dX0_worth_24 rfl (lv_at hl 2 rfl) ?_
      refine am_last hx hb hK hP hD hS 12 1 rfl rfl a ea (by omega) (by decide) (ac_w ad cI cL fi fl ai (va_up al 12 (vp_updL (al 12) a z))) rfl dX0_worth_25 (fun H locs hP hD hS => ?_)
      refine lv_aload_n hx hb dX0_worth_26 rfl (lv_at hl 0 rfl) ?_
      refine va_get (D := D) (ci := 0) (v := .ref (ad 3)) (C := RX0) (T := TX0) (N := 4) hx hb hts hin_X0 hown hK hP 0 rfl rfl 2 (by decide) hf_28 (fun _ h9 => h9) rfl dX0_worth_27 ?_
      refine lv_iconst (v := 0) hx hb dX0_worth_30 (by decide) ?_
      refine va_put (D := D) (ci := 3) (v := .int 0) (ty := .boolean) (C := RX3) (T := TX3) (N := 8) hx hb hts hin_X3 tyX3 tyX3_ok nmX3 hown hK hP hD hS 3 rfl rfl 1 (by decide) hf_54 (fun _ h9 => h9) rfl (by decide +kernel) rfl rfl (Nat.le_of_ble_eq_true rfl) dX0_worth_31 (fun H locs hP hD hS => ?_)
      have hP : va_P D vwCl (ac_w ad cI cL (upd fi 4 0) fl ai (va_up al 12 (vp_updL (al 12) a z))) H := hP
      have hD : va_D A (ac_w ad cI cL (upd fi 4 0) fl ai (va_up al 12 (vp_updL (al 12) a z))) := am_D hD rfl
      refine lv_iconst (v := 1) hx hb dX0_worth_34 (by decide) ?_
      have hok : ac_worOk x z := by first | rfl | (simp only [ac_worOk, c_4, c_11, nn_a, if_true, if_false, eq_self, not_true_eq_false, not_false_eq_true, ite_true, ite_false, ↓reduceIte]; done) | (simp [ac_worOk, c_4, c_11, nn_a]; done)
      exact am_zretM hx hb hr hlocks (Or.inr rfl) (by simp only [if_pos hok, nn_a]; exact hP) hS (by rw [if_pos hok]; first | done | rfl) dX0_worth_35
    · skip
      refine lv_iconst (v := 0) hx hb dX0_worth_14 (by decide) ?_
      have hok : ¬ (ac_worOk x z) := by first | rfl | (simp only [ac_worOk, c_4, c_11, nn_a, if_true, if_false, eq_self, not_true_eq_false, not_false_eq_true, ite_true, ite_false, ↓reduceIte]; done) | (simp [ac_worOk, c_4, c_11, nn_a]; done)
      exact am_zretM hx hb hr hlocks (Or.inl rfl) (by simp only [if_neg hok]; exact hP) hS (by rw [if_neg hok]; first | done | rfl) dX0_worth_15

set_option maxHeartbeats 4000000 in
set_option maxRecDepth 100000 in
theorem c_X0_rest (l : Launch) (D : va_G) (ad : Nat → Nat) (cI cL : ClassId) (fi : Nat → Int32) (fl : Nat → Int64) (ai : Nat → Nat → Int32) (al : Nat → Nat → Int64) (A : Nat → Prop) (v : Int64) (z : Int64) (nr : Nat) (hnr : fi 2 = nI nr) (hnrl : nr ≤ 16) : Met l yX0_rest wsX0_rest (am_rm 2 46) (va_Pc [.ref (ad 0), .long v, .long z] (am_M nwL vwCl D A (ac_w ad cI cL fi fl ai al) [(cI, .int), (cL, .long)])) (am_Mi vwCl D (if ac_rstOk v z (ac_place (ai 14) v.toInt32 nr 0) then 1 else 0) (ac_w ad cI cL (upd (upd fi 2 (if ac_rstOk v z (ac_place (ai 14) v.toInt32 nr 0) then if ac_place (ai 14) v.toInt32 nr 0 = nr then (fi 2) + 1 else (fi 2) else (fi 2))) 4 (if ac_rstOk v z (ac_place (ai 14) v.toInt32 nr 0) then 0 else (fi 4))) fl (va_up ai 14 (if ac_rstOk v z (ac_place (ai 14) v.toInt32 nr 0) then upd (ai 14) (ac_place (ai 14) v.toInt32 nr 0) v.toInt32 else (ai 14))) (va_up al 15 (if ac_rstOk v z (ac_place (ai 14) v.toInt32 nr 0) then vp_updL (al 15) (ac_place (ai 14) v.toInt32 nr 0) z else (al 15)))) A) 0 0 A := by
  refine am_startM (cc := cX0_rest) (maxL := 5) (ret := (some .boolean)) (by decide) rfl (Nat.le_of_ble_eq_true rfl) [(0, .ref (ad 0)), (1, .long v), (3, .long z)] rfl ?_
  intro p e s m below meth c ls hx hb hr hml hown hts hlocks hK hN hD H locs hP hS hl
  have hown : s.vm.findClass RX0 = some m.cls := hown
  have ht := am_ht hts
  have hin_X0 : ∀ w ∈ u_ws RX0 TX0 4, w ∈ wsX0_rest := fun w h => List.mem_cons_of_mem _ (am_inX0 w h)
  have hin_X3 : ∀ w ∈ u_ws RX3 TX3 8, w ∈ wsX0_rest := fun w h => List.mem_cons_of_mem _ (am_inX3 w h)
  have hf_12 := ht 170 (.fieldLink RX0 12 "ApartCost" "product" "LApartCost$Product;") rfl
  have hf_28 := ht 172 (.fieldLink RX0 28 "ApartCost" "found" "LApartCost$Found;") rfl
  have hf_54 := ht 123 (.fieldLink RX0 54 "ApartCost$Found" "upToDate" "Z") rfl
  refine lv_lload_n hx hb dX0_rest_0 rfl (lv_at hl 1 rfl) ?_
  refine lv_lconst (v := 0) hx hb dX0_rest_1 (by decide) ?_
  refine W.lcmp hx hb dX0_rest_2 ?_
  refine lv_if_lt (tgt := 34) hx hb dX0_rest_3 (by decide) (fun c_3 => ?_) (fun c_3 => ?_)
  · skip
    have c_3 : v < 0 := (lg_cmp_lt _ _).mp c_3
    refine lv_iconst (v := 0) hx hb dX0_rest_34 (by decide) ?_
    have hok : ¬ (ac_rstOk v z (ac_place (ai 14) v.toInt32 nr 0)) := by first | rfl | (simp only [ac_rstOk, c_3, if_true, if_false, eq_self, not_true_eq_false, not_false_eq_true, ite_true, ite_false, ↓reduceIte]; done) | (simp [ac_rstOk, c_3]; done)
    exact am_zretM hx hb hr hlocks (Or.inl rfl) (by simp only [if_neg hok]; exact hP) hS (by rw [if_neg hok]; first | done | rfl) dX0_rest_35
  · skip
    have c_3 : ¬ (v < 0) := (fun z => c_3 ((lg_cmp_lt _ _).mpr z))
    refine lv_lload_n hx hb dX0_rest_6 rfl (lv_at hl 1 rfl) ?_
    refine lv_ldc2 (v := 4095) hx hb hown (ht 234 _ rfl) dX0_rest_7 ?_
    refine W.lcmp hx hb dX0_rest_10 ?_
    refine lv_if_gt (tgt := 34) hx hb dX0_rest_11 (by decide) (fun c_11 => ?_) (fun c_11 => ?_)
    · skip
      have c_11 : 4095 < v := (lg_cmp_gt _ _).mp c_11
      refine lv_iconst (v := 0) hx hb dX0_rest_34 (by decide) ?_
      have hok : ¬ (ac_rstOk v z (ac_place (ai 14) v.toInt32 nr 0)) := by first | rfl | (simp only [ac_rstOk, c_3, c_11, if_true, if_false, eq_self, not_true_eq_false, not_false_eq_true, ite_true, ite_false, ↓reduceIte]; done) | (simp [ac_rstOk, c_3, c_11]; done)
      exact am_zretM hx hb hr hlocks (Or.inl rfl) (by simp only [if_neg hok]; exact hP) hS (by rw [if_neg hok]; first | done | rfl) dX0_rest_35
    · skip
      have c_11 : ¬ (4095 < v) := (fun z => c_11 ((lg_cmp_gt _ _).mpr z))
      refine lv_lload_n hx hb dX0_rest_14 rfl (lv_at hl 2 rfl) ?_
      refine am_callRi (W.runS (As := [.long z]) (rest := []) ⟨hx, hb, hml, hown, hts⟩ (c_X0_isWorth l D _ _ z) (va_cwS 1 hts (am_gS (am_in 226 rfl) (am_in 227 rfl) (am_in 29 rfl) (am_in 228 rfl)) rfl rfl rfl (by decide +kernel) ⟨Nat.le_of_ble_eq_true rfl, Nat.le_of_ble_eq_true rfl⟩) (am_preSR hP hK hN) rfl rfl hl.1 rfl (lv_room (Nat.le_of_ble_eq_true rfl)) dX0_rest_15 ⟨Nat.zero_le _, Nat.zero_le _⟩) ?_
      refine lv_if_eq (tgt := 34) hx hb dX0_rest_18 (by decide) (fun c_18 => ?_) (fun c_18 => ?_)
      · skip
        refine lv_iconst (v := 0) hx hb dX0_rest_34 (by decide) ?_
        have hok : ¬ (ac_rstOk v z (ac_place (ai 14) v.toInt32 nr 0)) := by first | rfl | (simp only [ac_rstOk, c_3, c_11, c_18, if_true, if_false, eq_self, not_true_eq_false, not_false_eq_true, ite_true, ite_false, ↓reduceIte]; done) | (simp [ac_rstOk, c_3, c_11, c_18]; done)
        exact am_zretM hx hb hr hlocks (Or.inl rfl) (by simp only [if_neg hok]; exact hP) hS (by rw [if_neg hok]; first | done | rfl) dX0_rest_35
      · skip
        refine lv_aload_n hx hb dX0_rest_21 rfl (lv_at hl 0 rfl) ?_
        refine va_get (D := D) (ci := 0) (v := .ref (ad 1)) (C := RX0) (T := TX0) (N := 4) hx hb hts hin_X0 hown hK hP 0 rfl rfl 0 (by decide) hf_12 (fun _ h9 => h9) rfl dX0_rest_22 ?_
        refine lv_lload_n hx hb dX0_rest_25 rfl (lv_at hl 1 rfl) ?_
        refine lv_l2i (v := v.toInt32) hx hb dX0_rest_26 rfl ?_
        refine lv_lload_n hx hb dX0_rest_27 rfl (lv_at hl 2 rfl) ?_
        refine am_callMi (va_runV (As := [.int v.toInt32, .long z]) (rest := []) ⟨hx, hb, hml, hown, hts⟩ (c_X1_tellRest l D ad cI cL fi fl ai al A v.toInt32 z nr hnr hnrl) (cwV 2 hts (am_gV (am_in 235 rfl) (am_in 236 rfl) (am_in 237 rfl) (am_in 30 rfl) (am_in 238 rfl)) rfl rfl rfl (by decide +kernel) ⟨Nat.le_of_ble_eq_true rfl, Nat.le_of_ble_eq_true rfl⟩) (am_preVM 1 1 rfl rfl rfl hP hK hN hD) rfl rfl hl.1 rfl (lv_room (Nat.le_of_ble_eq_true rfl)) dX0_rest_28 ⟨Nat.zero_le _, Nat.zero_le _⟩) hS (fun H locs hP hS => ?_)
        have hP : va_P D vwCl (ac_w ad cI cL (upd fi 2 (if ac_place (ai 14) v.toInt32 nr 0 < 16 then (if ac_place (ai 14) v.toInt32 nr 0 = nr then (fi 2) + 1 else (fi 2)) else (fi 2))) fl (va_up ai 14 (if ac_place (ai 14) v.toInt32 nr 0 < 16 then upd (ai 14) (ac_place (ai 14) v.toInt32 nr 0) v.toInt32 else (ai 14))) (va_up al 15 (if ac_place (ai 14) v.toInt32 nr 0 < 16 then vp_updL (al 15) (ac_place (ai 14) v.toInt32 nr 0) z else (al 15)))) H := hP
        have hD : va_D A (ac_w ad cI cL (upd fi 2 (if ac_place (ai 14) v.toInt32 nr 0 < 16 then (if ac_place (ai 14) v.toInt32 nr 0 = nr then (fi 2) + 1 else (fi 2)) else (fi 2))) fl (va_up ai 14 (if ac_place (ai 14) v.toInt32 nr 0 < 16 then upd (ai 14) (ac_place (ai 14) v.toInt32 nr 0) v.toInt32 else (ai 14))) (va_up al 15 (if ac_place (ai 14) v.toInt32 nr 0 < 16 then vp_updL (al 15) (ac_place (ai 14) v.toInt32 nr 0) z else (al 15)))) := am_D hD rfl
        refine lv_if_ne (tgt := 36) hx hb dX0_rest_31 (by decide) (fun c_31 => ?_) (fun c_31 => ?_)
        · skip
          have hp6 : ac_place (ai 14) v.toInt32 nr 0 < 16 := Classical.byContradiction (fun h => c_31 (if_neg h))
          simp only [if_pos hp6] at hP hD
          have hP : va_P D vwCl (ac_w ad cI cL (upd fi 2 (if ac_place (ai 14) v.toInt32 nr 0 = nr then (fi 2) + 1 else (fi 2))) fl (va_up ai 14 (upd (ai 14) (ac_place (ai 14) v.toInt32 nr 0) v.toInt32)) (va_up al 15 (vp_updL (al 15) (ac_place (ai 14) v.toInt32 nr 0) z))) H := hP
          have hD : va_D A (ac_w ad cI cL (upd fi 2 (if ac_place (ai 14) v.toInt32 nr 0 = nr then (fi 2) + 1 else (fi 2))) fl (va_up ai 14 (upd (ai 14) (ac_place (ai 14) v.toInt32 nr 0) v.toInt32)) (va_up al 15 (vp_updL (al 15) (ac_place (ai 14) v.toInt32 nr 0) z))) := am_D hD rfl
          refine lv_aload_n hx hb dX0_rest_36 rfl (lv_at hl 0 rfl) ?_
          refine va_get (D := D) (ci := 0) (v := .ref (ad 3)) (C := RX0) (T := TX0) (N := 4) hx hb hts hin_X0 hown hK hP 0 rfl rfl 2 (by decide) hf_28 (fun _ h9 => h9) rfl dX0_rest_37 ?_
          refine lv_iconst (v := 0) hx hb dX0_rest_40 (by decide) ?_
          refine va_put (D := D) (ci := 3) (v := .int 0) (ty := .boolean) (C := RX3) (T := TX3) (N := 8) hx hb hts hin_X3 tyX3 tyX3_ok nmX3 hown hK hP hD hS 3 rfl rfl 1 (by decide) hf_54 (fun _ h9 => h9) rfl (by decide +kernel) rfl rfl (Nat.le_of_ble_eq_true rfl) dX0_rest_41 (fun H locs hP hD hS => ?_)
          have hP : va_P D vwCl (ac_w ad cI cL (upd (upd fi 2 (if ac_place (ai 14) v.toInt32 nr 0 = nr then (fi 2) + 1 else (fi 2))) 4 0) fl (va_up ai 14 (upd (ai 14) (ac_place (ai 14) v.toInt32 nr 0) v.toInt32)) (va_up al 15 (vp_updL (al 15) (ac_place (ai 14) v.toInt32 nr 0) z))) H := hP
          have hD : va_D A (ac_w ad cI cL (upd (upd fi 2 (if ac_place (ai 14) v.toInt32 nr 0 = nr then (fi 2) + 1 else (fi 2))) 4 0) fl (va_up ai 14 (upd (ai 14) (ac_place (ai 14) v.toInt32 nr 0) v.toInt32)) (va_up al 15 (vp_updL (al 15) (ac_place (ai 14) v.toInt32 nr 0) z))) := am_D hD rfl
          refine lv_iconst (v := 1) hx hb dX0_rest_44 (by decide) ?_
          have hok : ac_rstOk v z (ac_place (ai 14) v.toInt32 nr 0) := by first | rfl | (simp only [ac_rstOk, c_3, c_11, c_18, hp6, if_true, if_false, eq_self, not_true_eq_false, not_false_eq_true, ite_true, ite_false, ↓reduceIte]; done) | (simp [ac_rstOk, c_3, c_11, c_18, hp6]; done)
          exact am_zretM hx hb hr hlocks (Or.inr rfl) (by simp only [if_pos hok]; exact hP) hS (by rw [if_pos hok]; first | done | rfl) dX0_rest_45
        · skip
          have hp6 : ¬ ac_place (ai 14) v.toInt32 nr 0 < 16 := fun h => absurd (c_31.symm.trans (if_pos h)) (by decide)
          simp only [if_neg hp6] at hP hD
          have hP : va_P D vwCl (ac_w ad cI cL fi fl ai al) H := hP
          have hD : va_D A (ac_w ad cI cL fi fl ai al) := am_D hD rfl
          refine lv_iconst (v := 0) hx hb dX0_rest_34 (by decide) ?_
          have hok : ¬ (ac_rstOk v z (ac_place (ai 14) v.toInt32 nr 0)) := by first | rfl | (simp only [ac_rstOk, c_3, c_11, c_18, hp6, if_true, if_false, eq_self, not_true_eq_false, not_false_eq_true, ite_true, ite_false, ↓reduceIte]; done) | (simp [ac_rstOk, c_3, c_11, c_18, hp6]; done)
          exact am_zretM hx hb hr hlocks (Or.inl rfl) (by simp only [if_neg hok]; exact hP) hS (by rw [if_neg hok]; first | done | rfl) dX0_rest_35

set_option maxHeartbeats 4000000 in
set_option maxRecDepth 100000 in
theorem c_X0_breaks (l : Launch) (D : va_G) (ad : Nat → Nat) (cI cL : ClassId) (fi : Nat → Int32) (fl : Nat → Int64) (ai : Nat → Nat → Int32) (al : Nat → Nat → Int64) (A : Nat → Prop) (x : Int32) : Met l yX0_breaks wsX0_breaks (am_rm 1 21) (va_Pc [.ref (ad 0), .int x] (am_M nwL vwCl D A (ac_w ad cI cL fi fl ai al) [(cI, .int), (cL, .long)])) (am_Mi vwCl D (if ac_brkOk (fi 0) (fi 1) x then 1 else 0) (ac_w ad cI cL (upd (upd fi 1 (if ac_brkOk (fi 0) (fi 1) x then (fi 1) ||| ((1 : Int32) <<< (x &&& 31)) else (fi 1))) 4 (if ac_brkOk (fi 0) (fi 1) x then 0 else (fi 4))) fl ai al) A) 0 0 A := by
  refine am_startM (cc := cX0_breaks) (maxL := 2) (ret := (some .boolean)) (by decide) rfl (Nat.le_of_ble_eq_true rfl) [(0, .ref (ad 0)), (1, .int x)] rfl ?_
  intro p e s m below meth c ls hx hb hr hml hown hts hlocks hK hN hD H locs hP hS hl
  have hown : s.vm.findClass RX0 = some m.cls := hown
  have ht := am_ht hts
  have hin_X0 : ∀ w ∈ u_ws RX0 TX0 4, w ∈ wsX0_breaks := fun w h => List.mem_cons_of_mem _ (am_inX0 w h)
  have hin_X3 : ∀ w ∈ u_ws RX3 TX3 8, w ∈ wsX0_breaks := fun w h => List.mem_cons_of_mem _ (am_inX3 w h)
  have hin_X1 : ∀ w ∈ u_ws RX1 TX1 14, w ∈ wsX0_breaks := fun w h => List.mem_cons_of_mem _ (am_inX1 w h)
  have hf_12 := ht 170 (.fieldLink RX0 12 "ApartCost" "product" "LApartCost$Product;") rfl
  have hf_28 := ht 172 (.fieldLink RX0 28 "ApartCost" "found" "LApartCost$Found;") rfl
  have hf_54 := ht 123 (.fieldLink RX0 54 "ApartCost$Found" "upToDate" "Z") rfl
  have hf_99 := ht 68 (.fieldLink RX0 99 "ApartCost$Product" "breaking" "I") rfl
  refine lv_aload_n hx hb dX0_breaks_0 rfl (lv_at hl 0 rfl) ?_
  refine va_get (D := D) (ci := 0) (v := .ref (ad 1)) (C := RX0) (T := TX0) (N := 4) hx hb hts hin_X0 hown hK hP 0 rfl rfl 0 (by decide) hf_12 (fun _ h9 => h9) rfl dX0_breaks_1 ?_
  refine lv_iload_n hx hb dX0_breaks_4 rfl (lv_at hl 1 rfl) ?_
  refine am_callRi (W.runV (As := [.int x]) (rest := []) ⟨hx, hb, hml, hown, hts⟩ (c_X1_hasAct l D ad cI cL fi fl ai al x) (cwV 1 hts (am_gV (am_in 200 rfl) (am_in 201 rfl) (am_in 202 rfl) (am_in 30 rfl) (am_in 203 rfl)) rfl rfl rfl (by decide +kernel) ⟨Nat.le_of_ble_eq_true rfl, Nat.le_of_ble_eq_true rfl⟩) (am_preVR 1 1 rfl rfl rfl hP hK hN) rfl rfl hl.1 rfl (lv_room (Nat.le_of_ble_eq_true rfl)) dX0_breaks_5 ⟨Nat.zero_le _, Nat.zero_le _⟩) ?_
  refine lv_if_eq (tgt := 25) hx hb dX0_breaks_8 (by decide) (fun c_8 => ?_) (fun c_8 => ?_)
  · skip
    refine lv_iconst (v := 0) hx hb dX0_breaks_25 (by decide) ?_
    have hok : ¬ (ac_brkOk (fi 0) (fi 1) x) := by first | rfl | (simp only [ac_brkOk, c_8, if_true, if_false, eq_self, not_true_eq_false, not_false_eq_true, ite_true, ite_false, ↓reduceIte]; done) | (simp [ac_brkOk, c_8]; done)
    exact am_zretM hx hb hr hlocks (Or.inl rfl) (by simp only [if_neg hok]; exact hP) hS (by rw [if_neg hok]; first | done | rfl) dX0_breaks_26
  · skip
    refine lv_aload_n hx hb dX0_breaks_11 rfl (lv_at hl 0 rfl) ?_
    refine va_get (D := D) (ci := 0) (v := .ref (ad 1)) (C := RX0) (T := TX0) (N := 4) hx hb hts hin_X0 hown hK hP 0 rfl rfl 0 (by decide) hf_12 (fun _ h9 => h9) rfl dX0_breaks_12 ?_
    refine va_get (D := D) (ci := 1) (v := .int (fi 1)) (C := RX1) (T := TX1) (N := 14) hx hb hts hin_X1 hown hK hP 1 rfl rfl 6 (by decide) hf_99 (fun _ h9 => h9) rfl dX0_breaks_15 ?_
    refine lv_iload_n hx hb dX0_breaks_18 rfl (lv_at hl 1 rfl) ?_
    refine am_callRi (W.runS (As := [.int (fi 1), .int x]) (rest := []) ⟨hx, hb, hml, hown, hts⟩ (c_X0_has l D _ _ (fi 1) x) (va_cwS 2 hts (am_gS (am_in 204 rfl) (am_in 205 rfl) (am_in 29 rfl) (am_in 206 rfl)) rfl rfl rfl (by decide +kernel) ⟨Nat.le_of_ble_eq_true rfl, Nat.le_of_ble_eq_true rfl⟩) (am_preSR hP hK hN) rfl rfl hl.1 rfl (lv_room (Nat.le_of_ble_eq_true rfl)) dX0_breaks_19 ⟨Nat.zero_le _, Nat.zero_le _⟩) ?_
    refine lv_if_eq (tgt := 27) hx hb dX0_breaks_22 (by decide) (fun c_22 => ?_) (fun c_22 => ?_)
    · skip
      refine lv_aload_n hx hb dX0_breaks_27 rfl (lv_at hl 0 rfl) ?_
      refine va_get (D := D) (ci := 0) (v := .ref (ad 1)) (C := RX0) (T := TX0) (N := 4) hx hb hts hin_X0 hown hK hP 0 rfl rfl 0 (by decide) hf_12 (fun _ h9 => h9) rfl dX0_breaks_28 ?_
      refine lv_dup hx hb dX0_breaks_31 rfl ?_
      refine va_get (D := D) (ci := 1) (v := .int (fi 1)) (C := RX1) (T := TX1) (N := 14) hx hb hts hin_X1 hown hK hP 1 rfl rfl 6 (by decide) hf_99 (fun _ h9 => h9) rfl dX0_breaks_32 ?_
      refine lv_iconst (v := 1) hx hb dX0_breaks_35 (by decide) ?_
      refine lv_iload_n hx hb dX0_breaks_36 rfl (lv_at hl 1 rfl) ?_
      refine lv_ishl hx hb dX0_breaks_37 ?_
      refine lv_ior hx hb dX0_breaks_38 ?_
      refine va_put (D := D) (ci := 1) (v := .int ((fi 1) ||| ((1 : Int32) <<< (x &&& 31)))) (ty := .int) (C := RX1) (T := TX1) (N := 14) hx hb hts hin_X1 tyX1 tyX1_ok nmX1 hown hK hP hD hS 1 rfl rfl 6 (by decide) hf_99 (fun _ h9 => h9) rfl (by decide +kernel) rfl rfl (Nat.le_of_ble_eq_true rfl) dX0_breaks_39 (fun H locs hP hD hS => ?_)
      have hP : va_P D vwCl (ac_w ad cI cL (upd fi 1 ((fi 1) ||| ((1 : Int32) <<< (x &&& 31)))) fl ai al) H := hP
      have hD : va_D A (ac_w ad cI cL (upd fi 1 ((fi 1) ||| ((1 : Int32) <<< (x &&& 31)))) fl ai al) := am_D hD rfl
      refine lv_aload_n hx hb dX0_breaks_42 rfl (lv_at hl 0 rfl) ?_
      refine va_get (D := D) (ci := 0) (v := .ref (ad 3)) (C := RX0) (T := TX0) (N := 4) hx hb hts hin_X0 hown hK hP 0 rfl rfl 2 (by decide) hf_28 (fun _ h9 => h9) rfl dX0_breaks_43 ?_
      refine lv_iconst (v := 0) hx hb dX0_breaks_46 (by decide) ?_
      refine va_put (D := D) (ci := 3) (v := .int 0) (ty := .boolean) (C := RX3) (T := TX3) (N := 8) hx hb hts hin_X3 tyX3 tyX3_ok nmX3 hown hK hP hD hS 3 rfl rfl 1 (by decide) hf_54 (fun _ h9 => h9) rfl (by decide +kernel) rfl rfl (Nat.le_of_ble_eq_true rfl) dX0_breaks_47 (fun H locs hP hD hS => ?_)
      have hP : va_P D vwCl (ac_w ad cI cL (upd (upd fi 1 ((fi 1) ||| ((1 : Int32) <<< (x &&& 31)))) 4 0) fl ai al) H := hP
      have hD : va_D A (ac_w ad cI cL (upd (upd fi 1 ((fi 1) ||| ((1 : Int32) <<< (x &&& 31)))) 4 0) fl ai al) := am_D hD rfl
      refine lv_iconst (v := 1) hx hb dX0_breaks_50 (by decide) ?_
      have hok : ac_brkOk (fi 0) (fi 1) x := by first | rfl | (simp only [ac_brkOk, c_8, c_22, if_true, if_false, eq_self, not_true_eq_false, not_false_eq_true, ite_true, ite_false, ↓reduceIte]; done) | (simp [ac_brkOk, c_8, c_22]; done)
      exact am_zretM hx hb hr hlocks (Or.inr rfl) (by simp only [if_pos hok]; exact hP) hS (by rw [if_pos hok]; first | done | rfl) dX0_breaks_51
    · skip
      refine lv_iconst (v := 0) hx hb dX0_breaks_25 (by decide) ?_
      have hok : ¬ (ac_brkOk (fi 0) (fi 1) x) := by first | rfl | (simp only [ac_brkOk, c_8, c_22, if_true, if_false, eq_self, not_true_eq_false, not_false_eq_true, ite_true, ite_false, ↓reduceIte]; done) | (simp [ac_brkOk, c_8, c_22]; done)
      exact am_zretM hx hb hr hlocks (Or.inl rfl) (by simp only [if_neg hok]; exact hP) hS (by rw [if_neg hok]; first | done | rfl) dX0_breaks_26

set_option maxHeartbeats 4000000 in
set_option maxRecDepth 100000 in
theorem c_X0_sure (l : Launch) (D : va_G) (ad : Nat → Nat) (cI cL : ClassId) (fi : Nat → Int32) (fl : Nat → Int64) (ai : Nat → Nat → Int32) (al : Nat → Nat → Int64) (A : Nat → Prop) (x : Int32) (u : Int64) (v : Int64) : Met l yX0_sure wsX0_sure (am_rm 1 20) (va_Pc [.ref (ad 0), .int x, .long u, .long v] (am_M nwL vwCl D A (ac_w ad cI cL fi fl ai al) [(cI, .int), (cL, .long)])) (am_Mi vwCl D (if ac_surOk x u v then 1 else 0) (ac_w ad cI cL (upd fi 4 (if ac_surOk x u v then 0 else (fi 4))) fl ai (va_up al 13 (if ac_surOk x u v then vp_updL (al 13) x.toNatClampNeg (27720 / v * u) else (al 13)))) A) 0 0 A := by
  refine am_startM (cc := cX0_sure) (maxL := 6) (ret := (some .boolean)) (by decide) rfl (Nat.le_of_ble_eq_true rfl) [(0, .ref (ad 0)), (1, .int x), (2, .long u), (4, .long v)] rfl ?_
  intro p e s m below meth c ls hx hb hr hml hown hts hlocks hK hN hD H locs hP hS hl
  have hown : s.vm.findClass RX0 = some m.cls := hown
  have ht := am_ht hts
  have hin_X0 : ∀ w ∈ u_ws RX0 TX0 4, w ∈ wsX0_sure := fun w h => List.mem_cons_of_mem _ (am_inX0 w h)
  have hin_X3 : ∀ w ∈ u_ws RX3 TX3 8, w ∈ wsX0_sure := fun w h => List.mem_cons_of_mem _ (am_inX3 w h)
  have hin_X1 : ∀ w ∈ u_ws RX1 TX1 14, w ∈ wsX0_sure := fun w h => List.mem_cons_of_mem _ (am_inX1 w h)
  have hf_104 := ht 78 (.fieldLink RX0 104 "ApartCost$Product" "shares" "[J") rfl
  have hf_12 := ht 170 (.fieldLink RX0 12 "ApartCost" "product" "LApartCost$Product;") rfl
  have hf_28 := ht 172 (.fieldLink RX0 28 "ApartCost" "found" "LApartCost$Found;") rfl
  have hf_54 := ht 123 (.fieldLink RX0 54 "ApartCost$Found" "upToDate" "Z") rfl
  refine lv_iload_n hx hb dX0_sure_0 rfl (lv_at hl 1 rfl) ?_
  refine am_callRi (W.runS (As := [.int x]) (rest := []) ⟨hx, hb, hml, hown, hts⟩ (c_X0_isPart l D _ _ x) (va_cwS 1 hts (am_gS (am_in 182 rfl) (am_in 183 rfl) (am_in 29 rfl) (am_in 184 rfl)) rfl rfl rfl (by decide +kernel) ⟨Nat.le_of_ble_eq_true rfl, Nat.le_of_ble_eq_true rfl⟩) (am_preSR hP hK hN) rfl rfl hl.1 rfl (lv_room (Nat.le_of_ble_eq_true rfl)) dX0_sure_1 ⟨Nat.zero_le _, Nat.zero_le _⟩) ?_
  refine lv_if_eq (tgt := 36) hx hb dX0_sure_4 (by decide) (fun c_4 => ?_) (fun c_4 => ?_)
  · skip
    refine lv_iconst (v := 0) hx hb dX0_sure_36 (by decide) ?_
    have hok : ¬ (ac_surOk x u v) := by first | rfl | (simp only [ac_surOk, c_4, if_true, if_false, eq_self, not_true_eq_false, not_false_eq_true, ite_true, ite_false, ↓reduceIte]; done) | (simp [ac_surOk, c_4]; done)
    exact am_zretM hx hb hr hlocks (Or.inl rfl) (by simp only [if_neg hok]; exact hP) hS (by rw [if_neg hok]; first | done | rfl) dX0_sure_37
  · skip
    obtain ⟨a, hq_a, ea⟩ : ∃ z, z < 12 ∧ x = nI z := am_isPart c_4
    have nn_a : x.toNatClampNeg = a := by rw [ea]; exact nI_clamp (by omega)
    have mm_a : (nI a).toNatClampNeg = a := nI_clamp (by omega)
    refine lv_lload hx hb dX0_sure_7 (lv_at hl 3 rfl) ?_
    refine lv_lconst (v := 1) hx hb dX0_sure_9 (by decide) ?_
    refine W.lcmp hx hb dX0_sure_10 ?_
    refine lv_if_lt (tgt := 36) hx hb dX0_sure_11 (by decide) (fun c_11 => ?_) (fun c_11 => ?_)
    · skip
      have c_11 : v < 1 := (lg_cmp_lt _ _).mp c_11
      refine lv_iconst (v := 0) hx hb dX0_sure_36 (by decide) ?_
      have hok : ¬ (ac_surOk x u v) := by first | rfl | (simp only [ac_surOk, c_4, c_11, nn_a, if_true, if_false, eq_self, not_true_eq_false, not_false_eq_true, ite_true, ite_false, ↓reduceIte]; done) | (simp [ac_surOk, c_4, c_11, nn_a]; done)
      exact am_zretM hx hb hr hlocks (Or.inl rfl) (by simp only [if_neg hok]; exact hP) hS (by rw [if_neg hok]; first | done | rfl) dX0_sure_37
    · skip
      have c_11 : ¬ (v < 1) := (fun z => c_11 ((lg_cmp_lt _ _).mpr z))
      refine lv_lload hx hb dX0_sure_14 (lv_at hl 3 rfl) ?_
      refine lv_ldc2 (v := 12) hx hb hown (ht 250 _ rfl) dX0_sure_16 ?_
      refine W.lcmp hx hb dX0_sure_19 ?_
      refine lv_if_gt (tgt := 36) hx hb dX0_sure_20 (by decide) (fun c_20 => ?_) (fun c_20 => ?_)
      · skip
        have c_20 : 12 < v := (lg_cmp_gt _ _).mp c_20
        refine lv_iconst (v := 0) hx hb dX0_sure_36 (by decide) ?_
        have hok : ¬ (ac_surOk x u v) := by first | rfl | (simp only [ac_surOk, c_4, c_11, c_20, nn_a, if_true, if_false, eq_self, not_true_eq_false, not_false_eq_true, ite_true, ite_false, ↓reduceIte]; done) | (simp [ac_surOk, c_4, c_11, c_20, nn_a]; done)
        exact am_zretM hx hb hr hlocks (Or.inl rfl) (by simp only [if_neg hok]; exact hP) hS (by rw [if_neg hok]; first | done | rfl) dX0_sure_37
      · skip
        have c_20 : ¬ (12 < v) := (fun z => c_20 ((lg_cmp_gt _ _).mpr z))
        refine lv_lload_n hx hb dX0_sure_23 rfl (lv_at hl 2 rfl) ?_
        refine lv_lconst (v := 0) hx hb dX0_sure_24 (by decide) ?_
        refine W.lcmp hx hb dX0_sure_25 ?_
        refine lv_if_lt (tgt := 36) hx hb dX0_sure_26 (by decide) (fun c_26 => ?_) (fun c_26 => ?_)
        · skip
          have c_26 : u < 0 := (lg_cmp_lt _ _).mp c_26
          refine lv_iconst (v := 0) hx hb dX0_sure_36 (by decide) ?_
          have hok : ¬ (ac_surOk x u v) := by first | rfl | (simp only [ac_surOk, c_4, c_11, c_20, c_26, nn_a, if_true, if_false, eq_self, not_true_eq_false, not_false_eq_true, ite_true, ite_false, ↓reduceIte]; done) | (simp [ac_surOk, c_4, c_11, c_20, c_26, nn_a]; done)
          exact am_zretM hx hb hr hlocks (Or.inl rfl) (by simp only [if_neg hok]; exact hP) hS (by rw [if_neg hok]; first | done | rfl) dX0_sure_37
        · skip
          have c_26 : ¬ (u < 0) := (fun z => c_26 ((lg_cmp_lt _ _).mpr z))
          refine lv_lload_n hx hb dX0_sure_29 rfl (lv_at hl 2 rfl) ?_
          refine lv_lload hx hb dX0_sure_30 (lv_at hl 3 rfl) ?_
          refine W.lcmp hx hb dX0_sure_32 ?_
          refine lv_if_le (tgt := 38) hx hb dX0_sure_33 (by decide) (fun c_33 => ?_) (fun c_33 => ?_)
          · skip
            have c_33 : u ≤ v := (lg_cmp_le _ _).mp c_33
            refine lv_aload_n hx hb dX0_sure_38 rfl (lv_at hl 0 rfl) ?_
            refine va_get (D := D) (ci := 0) (v := .ref (ad 1)) (C := RX0) (T := TX0) (N := 4) hx hb hts hin_X0 hown hK hP 0 rfl rfl 0 (by decide) hf_12 (fun _ h9 => h9) rfl dX0_sure_39 ?_
            refine va_get (D := D) (ci := 1) (v := .ref (ad 13)) (C := RX1) (T := TX1) (N := 14) hx hb hts hin_X1 hown hK hP 1 rfl rfl 10 (by decide) hf_104 (fun _ h9 => h9) rfl dX0_sure_42 ?_
            refine lv_iload_n hx hb dX0_sure_45 rfl (lv_at hl 1 rfl) ?_
            refine lv_ldc2 (v := 27720) hx hb hown (ht 251 _ rfl) dX0_sure_46 ?_
            refine lv_lload hx hb dX0_sure_49 (lv_at hl 3 rfl) ?_
            refine lv_ldiv hx hb dX0_sure_51 (am_lne0 c_11) ?_
            refine lv_lload_n hx hb dX0_sure_52 rfl (lv_at hl 2 rfl) ?_
            refine lv_lmul hx hb dX0_sure_53 ?_
            refine am_last hx hb hK hP hD hS 13 1 rfl rfl a ea (by omega) (by decide) (ac_w ad cI cL fi fl ai (va_up al 13 (vp_updL (al 13) a ((27720 / v) * u)))) rfl dX0_sure_54 (fun H locs hP hD hS => ?_)
            refine lv_aload_n hx hb dX0_sure_55 rfl (lv_at hl 0 rfl) ?_
            refine va_get (D := D) (ci := 0) (v := .ref (ad 3)) (C := RX0) (T := TX0) (N := 4) hx hb hts hin_X0 hown hK hP 0 rfl rfl 2 (by decide) hf_28 (fun _ h9 => h9) rfl dX0_sure_56 ?_
            refine lv_iconst (v := 0) hx hb dX0_sure_59 (by decide) ?_
            refine va_put (D := D) (ci := 3) (v := .int 0) (ty := .boolean) (C := RX3) (T := TX3) (N := 8) hx hb hts hin_X3 tyX3 tyX3_ok nmX3 hown hK hP hD hS 3 rfl rfl 1 (by decide) hf_54 (fun _ h9 => h9) rfl (by decide +kernel) rfl rfl (Nat.le_of_ble_eq_true rfl) dX0_sure_60 (fun H locs hP hD hS => ?_)
            have hP : va_P D vwCl (ac_w ad cI cL (upd fi 4 0) fl ai (va_up al 13 (vp_updL (al 13) a ((27720 / v) * u)))) H := hP
            have hD : va_D A (ac_w ad cI cL (upd fi 4 0) fl ai (va_up al 13 (vp_updL (al 13) a ((27720 / v) * u)))) := am_D hD rfl
            refine lv_iconst (v := 1) hx hb dX0_sure_63 (by decide) ?_
            have hok : ac_surOk x u v := by first | rfl | (simp only [ac_surOk, c_4, c_11, c_20, c_26, c_33, nn_a, if_true, if_false, eq_self, not_true_eq_false, not_false_eq_true, ite_true, ite_false, ↓reduceIte]; done) | (simp [ac_surOk, c_4, c_11, c_20, c_26, c_33, nn_a]; done)
            exact am_zretM hx hb hr hlocks (Or.inr rfl) (by simp only [if_pos hok, nn_a]; exact hP) hS (by rw [if_pos hok]; first | done | rfl) dX0_sure_64
          · skip
            have c_33 : ¬ (u ≤ v) := (fun z => c_33 ((lg_cmp_le _ _).mpr z))
            refine lv_iconst (v := 0) hx hb dX0_sure_36 (by decide) ?_
            have hok : ¬ (ac_surOk x u v) := by first | rfl | (simp only [ac_surOk, c_4, c_11, c_20, c_26, c_33, nn_a, if_true, if_false, eq_self, not_true_eq_false, not_false_eq_true, ite_true, ite_false, ↓reduceIte]; done) | (simp [ac_surOk, c_4, c_11, c_20, c_26, c_33, nn_a]; done)
            exact am_zretM hx hb hr hlocks (Or.inl rfl) (by simp only [if_neg hok]; exact hP) hS (by rw [if_neg hok]; first | done | rfl) dX0_sure_37
