set_option maxHeartbeats 4000000 in
set_option maxRecDepth 100000 in
theorem c_X0_states (l : Launch) (D : va_G) (ad : Nat → Nat) (cI cL : ClassId) (fi : Nat → Int32) (fl : Nat → Int64) (ai : Nat → Nat → Int32) (al : Nat → Nat → Int64) (na : Nat) (hna : fi 0 = nI na) (hnl : na ≤ 10) : Met l yX0_states wsX0_states (am_rm 4 89) (va_Pc [.ref (ad 0)] (am_R nwL vwCl D (ac_w ad cI cL fi fl ai al) [(cI, .int), (cL, .long)])) (vp_Sl (fun r => r = ac_count (ai 9) na (2 ^ na - 1))) 0 0 am_No := by
  refine am_startR (cc := cX0_states) (maxL := 1) (ret := (some .long)) (by decide) rfl (Nat.le_of_ble_eq_true rfl) [(0, .ref (ad 0))] rfl ?_
  intro p e s m below meth c ls hx hb hr hml hown hts hlocks hP hK hN hl
  have hown : s.vm.findClass RX0 = some m.cls := hown
  have ht := am_ht hts
  have hin_X0 : ∀ w ∈ u_ws RX0 TX0 4, w ∈ wsX0_states := fun w h => List.mem_cons_of_mem _ (am_inX0 w h)
  have hf_12 := ht 170 (.fieldLink RX0 12 "ApartCost" "product" "LApartCost$Product;") rfl
  refine lv_aload_n hx hb dX0_states_0 rfl (lv_at hl 0 rfl) ?_
  refine va_get (D := D) (ci := 0) (v := .ref (ad 1)) (C := RX0) (T := TX0) (N := 4) hx hb hts hin_X0 hown hK hP 0 rfl rfl 0 (by decide) hf_12 (fun _ h9 => h9) rfl dX0_states_1 ?_
  refine am_callRl (W.runV (As := []) (rest := []) ⟨hx, hb, hml, hown, hts⟩ (c_X1_countStates l D ad cI cL fi fl ai al na hna hnl) (cwV 0 hts (am_gV (am_in 256 rfl) (am_in 257 rfl) (am_in 258 rfl) (am_in 30 rfl) (am_in 259 rfl)) rfl rfl rfl (by decide +kernel) ⟨Nat.le_of_ble_eq_true rfl, Nat.le_of_ble_eq_true rfl⟩) (am_preVR 1 1 rfl rfl rfl hP hK hN) rfl rfl hl.1 rfl (lv_room (Nat.le_of_ble_eq_true rfl)) dX0_states_4 ⟨Nat.zero_le _, Nat.zero_le _⟩) ?_
  exact am_lretR hx hb hr hlocks (by rfl) dX0_states_7

set_option maxHeartbeats 4000000 in
set_option maxRecDepth 100000 in
theorem c_X0_step (l : Launch) (D : va_G) (ad : Nat → Nat) (cI cL : ClassId) (fi : Nat → Int32) (fl : Nat → Int64) (ai : Nat → Nat → Int32) (al : Nat → Nat → Int64) (x : Int32) (ln : Nat) (hlen : fi 5 = nI ln) (hln : ln ≤ 10) : Met l yX0_step wsX0_step (am_rm 0 0) (va_Pc [.ref (ad 0), .int x] (am_R nwL vwCl D (ac_w ad cI cL fi fl ai al) [(cI, .int), (cL, .long)])) (vp_Si (fun r => r = ac_step (fi 5) (ai 19) x)) 0 0 am_No := by
  refine am_startR (cc := cX0_step) (maxL := 2) (ret := (some .int)) (by decide) rfl (Nat.le_of_ble_eq_true rfl) [(0, .ref (ad 0)), (1, .int x)] rfl ?_
  intro p e s m below meth c ls hx hb hr hml hown hts hlocks hP hK hN hl
  have hown : s.vm.findClass RX0 = some m.cls := hown
  have ht := am_ht hts
  have hin_X0 : ∀ w ∈ u_ws RX0 TX0 4, w ∈ wsX0_step := fun w h => List.mem_cons_of_mem _ (am_inX0 w h)
  have hin_X3 : ∀ w ∈ u_ws RX3 TX3 8, w ∈ wsX0_step := fun w h => List.mem_cons_of_mem _ (am_inX3 w h)
  have hf_127 := ht 126 (.fieldLink RX0 127 "ApartCost$Found" "length" "I") rfl
  have hf_130 := ht 133 (.fieldLink RX0 130 "ApartCost$Found" "row" "[I") rfl
  have hf_28 := ht 172 (.fieldLink RX0 28 "ApartCost" "found" "LApartCost$Found;") rfl
  refine lv_iload_n hx hb dX0_step_0 rfl (lv_at hl 1 rfl) ?_
  refine lv_if_lt (tgt := 27) hx hb dX0_step_1 (by decide) (fun c_1 => ?_) (fun c_1 => ?_)
  · skip
    refine lv_iconst (v := (-1)) hx hb dX0_step_27 (by decide) ?_
    exact am_iretR hx hb hr hlocks (by simp [ac_step, c_1]) dX0_step_28
  · skip
    refine lv_iload_n hx hb dX0_step_4 rfl (lv_at hl 1 rfl) ?_
    refine lv_aload_n hx hb dX0_step_5 rfl (lv_at hl 0 rfl) ?_
    refine va_get (D := D) (ci := 0) (v := .ref (ad 3)) (C := RX0) (T := TX0) (N := 4) hx hb hts hin_X0 hown hK hP 0 rfl rfl 2 (by decide) hf_28 (fun _ h9 => h9) rfl dX0_step_6 ?_
    refine va_get (D := D) (ci := 3) (v := .int (fi 5)) (C := RX3) (T := TX3) (N := 8) hx hb hts hin_X3 hown hK hP 3 rfl rfl 2 (by decide) hf_127 (fun _ h9 => h9) rfl dX0_step_9 ?_
    refine lv_icmp_ge (tgt := 27) hx hb dX0_step_12 (by decide) (fun c_12 => ?_) (fun c_12 => ?_)
    · skip
      refine lv_iconst (v := (-1)) hx hb dX0_step_27 (by decide) ?_
      exact am_iretR hx hb hr hlocks (by simp [ac_step, c_1, c_12]) dX0_step_28
    · skip
      obtain ⟨a, hq_a, ea⟩ : ∃ z, z < ln ∧ x = nI z := am_rng hlen (by omega) c_1 c_12
      have nn_a : x.toNatClampNeg = a := by rw [ea]; exact nI_clamp (by omega)
      have mm_a : (nI a).toNatClampNeg = a := nI_clamp (by omega)
      refine lv_aload_n hx hb dX0_step_15 rfl (lv_at hl 0 rfl) ?_
      refine va_get (D := D) (ci := 0) (v := .ref (ad 3)) (C := RX0) (T := TX0) (N := 4) hx hb hts hin_X0 hown hK hP 0 rfl rfl 2 (by decide) hf_28 (fun _ h9 => h9) rfl dX0_step_16 ?_
      refine va_get (D := D) (ci := 3) (v := .ref (ad 19)) (C := RX3) (T := TX3) (N := 8) hx hb hts hin_X3 hown hK hP 3 rfl rfl 6 (by decide) hf_130 (fun _ h9 => h9) rfl dX0_step_19 ?_
      refine lv_iload_n hx hb dX0_step_22 rfl (lv_at hl 1 rfl) ?_
      refine am_iald hx hb hK hP 19 0 rfl rfl a ea (by omega) (by decide) dX0_step_23 ?_
      refine lv_goto (tgt := 28) hx hb dX0_step_24 (by decide) ?_
      exact am_iretR hx hb hr hlocks (by simp [ac_step, c_1, c_12, nn_a]) dX0_step_28

set_option maxHeartbeats 4000000 in
set_option maxRecDepth 100000 in
theorem c_X0_stops (l : Launch) (D : va_G) (ad : Nat → Nat) (cI cL : ClassId) (fi : Nat → Int32) (fl : Nat → Int64) (ai : Nat → Nat → Int32) (al : Nat → Nat → Int64) (x : Int32) : Met l yX0_stops wsX0_stops (am_rm 2 44) (va_Pc [.ref (ad 0), .int x] (am_R nwL vwCl D (ac_w ad cI cL fi fl ai al) [(cI, .int), (cL, .long)])) (vp_Si (fun r => r = if (fi 3) = 0 then -1 else ac_mem (4095 &&& ((fi 7) ^^^ (-1))) x 12 0 0)) 0 0 am_No := by
  refine am_startR (cc := cX0_stops) (maxL := 2) (ret := (some .int)) (by decide) rfl (Nat.le_of_ble_eq_true rfl) [(0, .ref (ad 0)), (1, .int x)] rfl ?_
  intro p e s m below meth c ls hx hb hr hml hown hts hlocks hP hK hN hl
  have hown : s.vm.findClass RX0 = some m.cls := hown
  have ht := am_ht hts
  have hin_X0 : ∀ w ∈ u_ws RX0 TX0 4, w ∈ wsX0_stops := fun w h => List.mem_cons_of_mem _ (am_inX0 w h)
  have hin_X3 : ∀ w ∈ u_ws RX3 TX3 8, w ∈ wsX0_stops := fun w h => List.mem_cons_of_mem _ (am_inX3 w h)
  have hf_133 := ht 122 (.fieldLink RX0 133 "ApartCost$Found" "any" "Z") rfl
  have hf_136 := ht 130 (.fieldLink RX0 136 "ApartCost$Found" "free" "I") rfl
  have hf_28 := ht 172 (.fieldLink RX0 28 "ApartCost" "found" "LApartCost$Found;") rfl
  refine lv_aload_n hx hb dX0_stops_0 rfl (lv_at hl 0 rfl) ?_
  refine va_get (D := D) (ci := 0) (v := .ref (ad 3)) (C := RX0) (T := TX0) (N := 4) hx hb hts hin_X0 hown hK hP 0 rfl rfl 2 (by decide) hf_28 (fun _ h9 => h9) rfl dX0_stops_1 ?_
  refine va_get (D := D) (ci := 3) (v := .int (fi 3)) (C := RX3) (T := TX3) (N := 8) hx hb hts hin_X3 hown hK hP 3 rfl rfl 0 (by decide) hf_133 (fun _ h9 => h9) rfl dX0_stops_4 ?_
  refine lv_if_eq (tgt := 30) hx hb dX0_stops_7 (by decide) (fun c_7 => ?_) (fun c_7 => ?_)
  · skip
    refine lv_iconst (v := (-1)) hx hb dX0_stops_30 (by decide) ?_
    exact am_iretR hx hb hr hlocks (by first | rfl | (simp only [c_7, if_true, if_false, eq_self, not_true_eq_false, not_false_eq_true, ite_true, ite_false, ↓reduceIte]; done) | (simp [c_7]; done)) dX0_stops_31
  · skip
    refine lv_sipush (v := 4095) hx hb dX0_stops_10 (by decide) ?_
    refine lv_aload_n hx hb dX0_stops_13 rfl (lv_at hl 0 rfl) ?_
    refine va_get (D := D) (ci := 0) (v := .ref (ad 3)) (C := RX0) (T := TX0) (N := 4) hx hb hts hin_X0 hown hK hP 0 rfl rfl 2 (by decide) hf_28 (fun _ h9 => h9) rfl dX0_stops_14 ?_
    refine va_get (D := D) (ci := 3) (v := .int (fi 7)) (C := RX3) (T := TX3) (N := 8) hx hb hts hin_X3 hown hK hP 3 rfl rfl 4 (by decide) hf_136 (fun _ h9 => h9) rfl dX0_stops_17 ?_
    refine lv_iconst (v := (-1)) hx hb dX0_stops_20 (by decide) ?_
    refine lv_ixor hx hb dX0_stops_21 ?_
    refine lv_iand hx hb dX0_stops_22 ?_
    refine lv_iload_n hx hb dX0_stops_23 rfl (lv_at hl 1 rfl) ?_
    refine am_callRi (W.runS (As := [.int (4095 &&& ((fi 7) ^^^ (-1))), .int x]) (rest := []) ⟨hx, hb, hml, hown, hts⟩ (c_X0_member l D _ _ (4095 &&& ((fi 7) ^^^ (-1))) x) (va_cwS 2 hts (am_gS (am_in 359 rfl) (am_in 360 rfl) (am_in 29 rfl) (am_in 361 rfl)) rfl rfl rfl (by decide +kernel) ⟨Nat.le_of_ble_eq_true rfl, Nat.le_of_ble_eq_true rfl⟩) (am_preSR hP hK hN) rfl rfl hl.1 rfl (lv_room (Nat.le_of_ble_eq_true rfl)) dX0_stops_24 ⟨Nat.zero_le _, Nat.zero_le _⟩) ?_
    refine lv_goto (tgt := 31) hx hb dX0_stops_27 (by decide) ?_
    exact am_iretR hx hb hr hlocks (by first | rfl | (simp only [c_7, if_true, if_false, eq_self, not_true_eq_false, not_false_eq_true, ite_true, ite_false, ↓reduceIte]; done) | (simp [c_7]; done)) dX0_stops_31

set_option maxHeartbeats 4000000 in
set_option maxRecDepth 100000 in
theorem c_X0_other (l : Launch) (D : va_G) (ad : Nat → Nat) (cI cL : ClassId) (fi : Nat → Int32) (fl : Nat → Int64) (ai : Nat → Nat → Int32) (al : Nat → Nat → Int64) (x : Int32) : Met l yX0_other wsX0_other (am_rm 2 44) (va_Pc [.ref (ad 0), .int x] (am_R nwL vwCl D (ac_w ad cI cL fi fl ai al) [(cI, .int), (cL, .long)])) (vp_Si (fun r => r = if (fi 3) = 0 then -1 else ac_mem (ac_all (fi 0) &&& ((fi 6) ^^^ (-1))) x 12 0 0)) 0 0 am_No := by
  refine am_startR (cc := cX0_other) (maxL := 2) (ret := (some .int)) (by decide) rfl (Nat.le_of_ble_eq_true rfl) [(0, .ref (ad 0)), (1, .int x)] rfl ?_
  intro p e s m below meth c ls hx hb hr hml hown hts hlocks hP hK hN hl
  have hown : s.vm.findClass RX0 = some m.cls := hown
  have ht := am_ht hts
  have hin_X0 : ∀ w ∈ u_ws RX0 TX0 4, w ∈ wsX0_other := fun w h => List.mem_cons_of_mem _ (am_inX0 w h)
  have hin_X3 : ∀ w ∈ u_ws RX3 TX3 8, w ∈ wsX0_other := fun w h => List.mem_cons_of_mem _ (am_inX3 w h)
  have hf_12 := ht 170 (.fieldLink RX0 12 "ApartCost" "product" "LApartCost$Product;") rfl
  have hf_133 := ht 122 (.fieldLink RX0 133 "ApartCost$Found" "any" "Z") rfl
  have hf_147 := ht 128 (.fieldLink RX0 147 "ApartCost$Found" "set" "I") rfl
  have hf_28 := ht 172 (.fieldLink RX0 28 "ApartCost" "found" "LApartCost$Found;") rfl
  refine lv_aload_n hx hb dX0_other_0 rfl (lv_at hl 0 rfl) ?_
  refine va_get (D := D) (ci := 0) (v := .ref (ad 3)) (C := RX0) (T := TX0) (N := 4) hx hb hts hin_X0 hown hK hP 0 rfl rfl 2 (by decide) hf_28 (fun _ h9 => h9) rfl dX0_other_1 ?_
  refine va_get (D := D) (ci := 3) (v := .int (fi 3)) (C := RX3) (T := TX3) (N := 8) hx hb hts hin_X3 hown hK hP 3 rfl rfl 0 (by decide) hf_133 (fun _ h9 => h9) rfl dX0_other_4 ?_
  refine lv_if_eq (tgt := 34) hx hb dX0_other_7 (by decide) (fun c_7 => ?_) (fun c_7 => ?_)
  · skip
    refine lv_iconst (v := (-1)) hx hb dX0_other_34 (by decide) ?_
    exact am_iretR hx hb hr hlocks (by first | rfl | (simp only [c_7, if_true, if_false, eq_self, not_true_eq_false, not_false_eq_true, ite_true, ite_false, ↓reduceIte]; done) | (simp [c_7]; done)) dX0_other_35
  · skip
    refine lv_aload_n hx hb dX0_other_10 rfl (lv_at hl 0 rfl) ?_
    refine va_get (D := D) (ci := 0) (v := .ref (ad 1)) (C := RX0) (T := TX0) (N := 4) hx hb hts hin_X0 hown hK hP 0 rfl rfl 0 (by decide) hf_12 (fun _ h9 => h9) rfl dX0_other_11 ?_
    refine am_callRi (W.runV (As := []) (rest := []) ⟨hx, hb, hml, hown, hts⟩ (c_X1_allActs l D ad cI cL fi fl ai al) (cwV 0 hts (am_gV (am_in 366 rfl) (am_in 261 rfl) (am_in 262 rfl) (am_in 30 rfl) (am_in 263 rfl)) rfl rfl rfl (by decide +kernel) ⟨Nat.le_of_ble_eq_true rfl, Nat.le_of_ble_eq_true rfl⟩) (am_preVR 1 1 rfl rfl rfl hP hK hN) rfl rfl hl.1 rfl (lv_room (Nat.le_of_ble_eq_true rfl)) dX0_other_14 ⟨Nat.zero_le _, Nat.zero_le _⟩) ?_
    refine lv_aload_n hx hb dX0_other_17 rfl (lv_at hl 0 rfl) ?_
    refine va_get (D := D) (ci := 0) (v := .ref (ad 3)) (C := RX0) (T := TX0) (N := 4) hx hb hts hin_X0 hown hK hP 0 rfl rfl 2 (by decide) hf_28 (fun _ h9 => h9) rfl dX0_other_18 ?_
    refine va_get (D := D) (ci := 3) (v := .int (fi 6)) (C := RX3) (T := TX3) (N := 8) hx hb hts hin_X3 hown hK hP 3 rfl rfl 3 (by decide) hf_147 (fun _ h9 => h9) rfl dX0_other_21 ?_
    refine lv_iconst (v := (-1)) hx hb dX0_other_24 (by decide) ?_
    refine lv_ixor hx hb dX0_other_25 ?_
    refine lv_iand hx hb dX0_other_26 ?_
    refine lv_iload_n hx hb dX0_other_27 rfl (lv_at hl 1 rfl) ?_
    refine am_callRi (W.runS (As := [.int ((ac_all (fi 0)) &&& ((fi 6) ^^^ (-1))), .int x]) (rest := []) ⟨hx, hb, hml, hown, hts⟩ (c_X0_member l D _ _ ((ac_all (fi 0)) &&& ((fi 6) ^^^ (-1))) x) (va_cwS 2 hts (am_gS (am_in 359 rfl) (am_in 360 rfl) (am_in 29 rfl) (am_in 361 rfl)) rfl rfl rfl (by decide +kernel) ⟨Nat.le_of_ble_eq_true rfl, Nat.le_of_ble_eq_true rfl⟩) (am_preSR hP hK hN) rfl rfl hl.1 rfl (lv_room (Nat.le_of_ble_eq_true rfl)) dX0_other_28 ⟨Nat.zero_le _, Nat.zero_le _⟩) ?_
    refine lv_goto (tgt := 35) hx hb dX0_other_31 (by decide) ?_
    exact am_iretR hx hb hr hlocks (by first | rfl | (simp only [c_7, if_true, if_false, eq_self, not_true_eq_false, not_false_eq_true, ite_true, ite_false, ↓reduceIte]; done) | (simp [c_7]; done)) dX0_other_35

set_option maxHeartbeats 4000000 in
set_option maxRecDepth 100000 in
theorem c_X0_gain (l : Launch) (D : va_G) (ad : Nat → Nat) (cI cL : ClassId) (fi : Nat → Int32) (fl : Nat → Int64) (ai : Nat → Nat → Int32) (al : Nat → Nat → Int64) (x : Int32) : Met l yX0_gain wsX0_gain (am_rm 1 20) (va_Pc [.ref (ad 0), .int x] (am_R nwL vwCl D (ac_w ad cI cL fi fl ai al) [(cI, .int), (cL, .long)])) (vp_Sl (fun r => r = ac_gain (fl 0) (al 20) x)) 0 0 am_No := by
  refine am_startR (cc := cX0_gain) (maxL := 2) (ret := (some .long)) (by decide) rfl (Nat.le_of_ble_eq_true rfl) [(0, .ref (ad 0)), (1, .int x)] rfl ?_
  intro p e s m below meth c ls hx hb hr hml hown hts hlocks hP hK hN hl
  have hown : s.vm.findClass RX0 = some m.cls := hown
  have ht := am_ht hts
  have hin_X0 : ∀ w ∈ u_ws RX0 TX0 4, w ∈ wsX0_gain := fun w h => List.mem_cons_of_mem _ (am_inX0 w h)
  have hin_X3 : ∀ w ∈ u_ws RX3 TX3 8, w ∈ wsX0_gain := fun w h => List.mem_cons_of_mem _ (am_inX3 w h)
  have hf_119 := ht 131 (.fieldLink RX0 119 "ApartCost$Found" "total" "J") rfl
  have hf_150 := ht 135 (.fieldLink RX0 150 "ApartCost$Found" "brought" "[J") rfl
  have hf_28 := ht 172 (.fieldLink RX0 28 "ApartCost" "found" "LApartCost$Found;") rfl
  refine lv_iload_n hx hb dX0_gain_0 rfl (lv_at hl 1 rfl) ?_
  refine lv_iconst (v := (-1)) hx hb dX0_gain_1 (by decide) ?_
  refine lv_icmp_ne (tgt := 13) hx hb dX0_gain_2 (by decide) (fun c_2 => ?_) (fun c_2 => ?_)
  · skip
    refine lv_iload_n hx hb dX0_gain_13 rfl (lv_at hl 1 rfl) ?_
    refine am_callRi (W.runS (As := [.int x]) (rest := []) ⟨hx, hb, hml, hown, hts⟩ (c_X0_isPart l D _ _ x) (va_cwS 1 hts (am_gS (am_in 182 rfl) (am_in 183 rfl) (am_in 29 rfl) (am_in 184 rfl)) rfl rfl rfl (by decide +kernel) ⟨Nat.le_of_ble_eq_true rfl, Nat.le_of_ble_eq_true rfl⟩) (am_preSR hP hK hN) rfl rfl hl.1 rfl (lv_room (Nat.le_of_ble_eq_true rfl)) dX0_gain_14 ⟨Nat.zero_le _, Nat.zero_le _⟩) ?_
    refine lv_if_eq (tgt := 32) hx hb dX0_gain_17 (by decide) (fun c_17 => ?_) (fun c_17 => ?_)
    · skip
      refine lv_lconst (v := 0) hx hb dX0_gain_32 (by decide) ?_
      exact am_lretR hx hb hr hlocks (by simp [ac_gain, c_2, c_17]) dX0_gain_33
    · skip
      obtain ⟨a, hq_a, ea⟩ : ∃ z, z < 12 ∧ x = nI z := am_isPart c_17
      have nn_a : x.toNatClampNeg = a := by rw [ea]; exact nI_clamp (by omega)
      have mm_a : (nI a).toNatClampNeg = a := nI_clamp (by omega)
      refine lv_aload_n hx hb dX0_gain_20 rfl (lv_at hl 0 rfl) ?_
      refine va_get (D := D) (ci := 0) (v := .ref (ad 3)) (C := RX0) (T := TX0) (N := 4) hx hb hts hin_X0 hown hK hP 0 rfl rfl 2 (by decide) hf_28 (fun _ h9 => h9) rfl dX0_gain_21 ?_
      refine va_get (D := D) (ci := 3) (v := .ref (ad 20)) (C := RX3) (T := TX3) (N := 8) hx hb hts hin_X3 hown hK hP 3 rfl rfl 7 (by decide) hf_150 (fun _ h9 => h9) rfl dX0_gain_24 ?_
      refine lv_iload_n hx hb dX0_gain_27 rfl (lv_at hl 1 rfl) ?_
      refine am_lald hx hb hK hP 20 1 rfl rfl a ea (by omega) (by decide) dX0_gain_28 ?_
      refine lv_goto (tgt := 33) hx hb dX0_gain_29 (by decide) ?_
      exact am_lretR hx hb hr hlocks (by simp [ac_gain, c_2, c_17, nn_a]) dX0_gain_33
  · skip
    refine lv_aload_n hx hb dX0_gain_5 rfl (lv_at hl 0 rfl) ?_
    refine va_get (D := D) (ci := 0) (v := .ref (ad 3)) (C := RX0) (T := TX0) (N := 4) hx hb hts hin_X0 hown hK hP 0 rfl rfl 2 (by decide) hf_28 (fun _ h9 => h9) rfl dX0_gain_6 ?_
    refine va_get (D := D) (ci := 3) (v := .long (fl 0)) (C := RX3) (T := TX3) (N := 8) hx hb hts hin_X3 hown hK hP 3 rfl rfl 5 (by decide) hf_119 (fun _ h9 => h9) rfl dX0_gain_9 ?_
    exact am_lretR hx hb hr hlocks (by first | rfl | (simp only [ac_gain, c_2, if_true, if_false, eq_self, not_true_eq_false, not_false_eq_true, ite_true, ite_false, ↓reduceIte]; done) | (simp [ac_gain, c_2]; done)) dX0_gain_12

set_option maxHeartbeats 4000000 in
set_option maxRecDepth 100000 in
theorem c_X0_proved (l : Launch) (D : va_G) (ad : Nat → Nat) (cI cL : ClassId) (fi : Nat → Int32) (fl : Nat → Int64) (ai : Nat → Nat → Int32) (al : Nat → Nat → Int64) : Met l yX0_proved wsX0_proved (am_rm 0 0) (va_Pc [.ref (ad 0)] (am_R nwL vwCl D (ac_w ad cI cL fi fl ai al) [(cI, .int), (cL, .long)])) (vp_Si (fun r => r = if (fi 3) = 0 then 0 else if (fi 4) = 0 then 0 else 1)) 0 0 am_No := by
  refine am_startR (cc := cX0_proved) (maxL := 1) (ret := (some .boolean)) (by decide) rfl (Nat.le_of_ble_eq_true rfl) [(0, .ref (ad 0))] rfl ?_
  intro p e s m below meth c ls hx hb hr hml hown hts hlocks hP hK hN hl
  have hown : s.vm.findClass RX0 = some m.cls := hown
  have ht := am_ht hts
  have hin_X0 : ∀ w ∈ u_ws RX0 TX0 4, w ∈ wsX0_proved := fun w h => List.mem_cons_of_mem _ (am_inX0 w h)
  have hin_X3 : ∀ w ∈ u_ws RX3 TX3 8, w ∈ wsX0_proved := fun w h => List.mem_cons_of_mem _ (am_inX3 w h)
  have hf_133 := ht 122 (.fieldLink RX0 133 "ApartCost$Found" "any" "Z") rfl
  have hf_28 := ht 172 (.fieldLink RX0 28 "ApartCost" "found" "LApartCost$Found;") rfl
  have hf_54 := ht 123 (.fieldLink RX0 54 "ApartCost$Found" "upToDate" "Z") rfl
  refine lv_aload_n hx hb dX0_proved_0 rfl (lv_at hl 0 rfl) ?_
  refine va_get (D := D) (ci := 0) (v := .ref (ad 3)) (C := RX0) (T := TX0) (N := 4) hx hb hts hin_X0 hown hK hP 0 rfl rfl 2 (by decide) hf_28 (fun _ h9 => h9) rfl dX0_proved_1 ?_
  refine va_get (D := D) (ci := 3) (v := .int (fi 3)) (C := RX3) (T := TX3) (N := 8) hx hb hts hin_X3 hown hK hP 3 rfl rfl 0 (by decide) hf_133 (fun _ h9 => h9) rfl dX0_proved_4 ?_
  refine lv_if_eq (tgt := 24) hx hb dX0_proved_7 (by decide) (fun c_7 => ?_) (fun c_7 => ?_)
  · skip
    refine lv_iconst (v := 0) hx hb dX0_proved_24 (by decide) ?_
    exact am_zretR hx hb hr hlocks (Or.inl rfl) (by first | rfl | (simp only [c_7, if_true, if_false, eq_self, not_true_eq_false, not_false_eq_true, ite_true, ite_false, ↓reduceIte]; done) | (simp [c_7]; done)) dX0_proved_25
  · skip
    refine lv_aload_n hx hb dX0_proved_10 rfl (lv_at hl 0 rfl) ?_
    refine va_get (D := D) (ci := 0) (v := .ref (ad 3)) (C := RX0) (T := TX0) (N := 4) hx hb hts hin_X0 hown hK hP 0 rfl rfl 2 (by decide) hf_28 (fun _ h9 => h9) rfl dX0_proved_11 ?_
    refine va_get (D := D) (ci := 3) (v := .int (fi 4)) (C := RX3) (T := TX3) (N := 8) hx hb hts hin_X3 hown hK hP 3 rfl rfl 1 (by decide) hf_54 (fun _ h9 => h9) rfl dX0_proved_14 ?_
    refine lv_if_eq (tgt := 24) hx hb dX0_proved_17 (by decide) (fun c_17 => ?_) (fun c_17 => ?_)
    · skip
      refine lv_iconst (v := 0) hx hb dX0_proved_24 (by decide) ?_
      exact am_zretR hx hb hr hlocks (Or.inl rfl) (by first | rfl | (simp only [c_7, c_17, if_true, if_false, eq_self, not_true_eq_false, not_false_eq_true, ite_true, ite_false, ↓reduceIte]; done) | (simp [c_7, c_17]; done)) dX0_proved_25
    · skip
      refine lv_iconst (v := 1) hx hb dX0_proved_20 (by decide) ?_
      refine lv_goto (tgt := 25) hx hb dX0_proved_21 (by decide) ?_
      exact am_zretR hx hb hr hlocks (Or.inr rfl) (by first | rfl | (simp only [c_7, c_17, if_true, if_false, eq_self, not_true_eq_false, not_false_eq_true, ite_true, ite_false, ↓reduceIte]; done) | (simp [c_7, c_17]; done)) dX0_proved_25

set_option maxHeartbeats 4000000 in
set_option maxRecDepth 100000 in
theorem c_X0_bound (l : Launch) (D : va_G) (ad : Nat → Nat) (cI cL : ClassId) (fi : Nat → Int32) (fl : Nat → Int64) (ai : Nat → Nat → Int32) (al : Nat → Nat → Int64) (nr : Nat) (hnr : fi 2 = nI nr) (hnrl : nr ≤ 16) : Met l yX0_bound wsX0_bound (am_rm 1 21) (va_Pc [.ref (ad 0)] (am_R nwL vwCl D (ac_w ad cI cL fi fl ai al) [(cI, .int), (cL, .long)])) (vp_Sl (fun r => r = ac_bnd2 (al 12) (al 13) (ac_bnd1 (al 15) nr) 12)) 0 0 am_No := by
  refine am_startR (cc := cX0_bound) (maxL := 4) (ret := (some .long)) (by decide) rfl (Nat.le_of_ble_eq_true rfl) [(0, .ref (ad 0))] rfl ?_
  intro p e s m below meth c ls hx hb hr hml hown hts hlocks hP hK hN hl
  have hown : s.vm.findClass RX0 = some m.cls := hown
  have ht := am_ht hts
  have hin_X0 : ∀ w ∈ u_ws RX0 TX0 4, w ∈ wsX0_bound := fun w h => List.mem_cons_of_mem _ (am_inX0 w h)
  have hin_X1 : ∀ w ∈ u_ws RX1 TX1 14, w ∈ wsX0_bound := fun w h => List.mem_cons_of_mem _ (am_inX1 w h)
  have hf_12 := ht 170 (.fieldLink RX0 12 "ApartCost" "product" "LApartCost$Product;") rfl
  have hf_153 := ht 80 (.fieldLink RX0 153 "ApartCost$Product" "rests" "I") rfl
  have hf_156 := ht 83 (.fieldLink RX0 156 "ApartCost$Product" "restCents" "[J") rfl
  refine lv_lconst (v := 0) hx hb dX0_bound_0 (by decide) ?_
  refine lv_lstore_n (lv' := [(1, .long 0), (0, .ref (ad 0))]) hx hb dX0_bound_1 rfl hl (by decide) rfl (fun ls hl => ?_)
  refine lv_iconst (v := 0) hx hb dX0_bound_2 (by decide) ?_
  refine lv_istore_n (lv' := [(3, .int 0), (1, .long 0), (0, .ref (ad 0))]) hx hb dX0_bound_3 rfl hl (by decide) rfl (fun ls hl => ?_)
  refine am_loopR (σ := Nat) (fun q n9 ls => n9 = nr - q ∧ q ≤ nr ∧ lv_has ls 4 [(0, .ref (ad 0)), (1, .long (ac_bnd1 (al 15) q)), (3, .int (nI q))]) ?_ 0 (nr - 0) ls ⟨rfl, (by omega), lv_sub hl [2, 1, 0] rfl⟩
  rintro k n9 ls ⟨hn_4, hk, hl⟩ ih_4
  refine lv_iload_n hx hb dX0_bound_4 rfl (lv_at hl 2 rfl) ?_
  refine lv_aload_n hx hb dX0_bound_5 rfl (lv_at hl 0 rfl) ?_
  refine va_get (D := D) (ci := 0) (v := .ref (ad 1)) (C := RX0) (T := TX0) (N := 4) hx hb hts hin_X0 hown hK hP 0 rfl rfl 0 (by decide) hf_12 (fun _ h9 => h9) rfl dX0_bound_6 ?_
  refine va_get (D := D) (ci := 1) (v := .int (fi 2)) (C := RX1) (T := TX1) (N := 14) hx hb hts hin_X1 hown hK hP 1 rfl rfl 11 (by decide) hf_153 (fun _ h9 => h9) rfl dX0_bound_9 ?_
  refine lv_icmp_ge (tgt := 39) hx hb dX0_bound_12 (by decide) (fun c_12 => ?_) (fun c_12 => ?_)
  · skip
    have hke_12 : nr ≤ k := (am_ge hnr (by omega) (by omega)).mp c_12
    have hkq_12 : nr = k := by omega
    subst hkq_12
    refine lv_iconst (v := 0) hx hb dX0_bound_39 (by decide) ?_
    refine lv_istore_n (lv' := [(3, .int 0), (0, .ref (ad 0)), (1, .long (ac_bnd1 (al 15) nr))]) hx hb dX0_bound_40 rfl hl (by decide) rfl (fun ls hl => ?_)
    refine am_loopR (σ := Nat) (fun q n9 ls => n9 = 12 - q ∧ q ≤ 12 ∧ lv_has ls 4 [(0, .ref (ad 0)), (1, .long (ac_bnd2 (al 12) (al 13) (ac_bnd1 (al 15) nr) q)), (3, .int (nI q))]) ?_ 0 (12 - 0) ls ⟨rfl, (by omega), lv_sub hl [1, 2, 0] rfl⟩
    rintro h n9 ls ⟨hn_41, hh, hl⟩ ih_41
    refine lv_iload_n hx hb dX0_bound_41 rfl (lv_at hl 2 rfl) ?_
    refine lv_bipush (v := 12) hx hb dX0_bound_42 (by decide) ?_
    refine lv_icmp_ge (tgt := 68) hx hb dX0_bound_44 (by decide) (fun c_44 => ?_) (fun c_44 => ?_)
    · skip
      have hke_44 : 12 ≤ h := (am_ge (rfl : (12 : Int32) = nI 12) (by decide) (by omega)).mp c_44
      have hkq_44 : h = 12 := by omega
      subst hkq_44
      refine lv_lload_n hx hb dX0_bound_68 rfl (lv_at hl 1 rfl) ?_
      exact am_lretR hx hb hr hlocks (by first | rfl | (simp only [c_44, if_true, if_false, eq_self, not_true_eq_false, not_false_eq_true, ite_true, ite_false, ↓reduceIte]; done) | (simp [c_44]; done)) dX0_bound_69
    · skip
      have hkl_44 : h < 12 := Nat.lt_of_not_le (fun z => c_44 ((am_ge (rfl : (12 : Int32) = nI 12) (by decide) (by omega)).mpr z))
      refine lv_lload_n hx hb dX0_bound_47 rfl (lv_at hl 1 rfl) ?_
      refine lv_lconst (v := 0) hx hb dX0_bound_48 (by decide) ?_
      refine lv_aload_n hx hb dX0_bound_49 rfl (lv_at hl 0 rfl) ?_
      refine va_get (D := D) (ci := 0) (v := .ref (ad 1)) (C := RX0) (T := TX0) (N := 4) hx hb hts hin_X0 hown hK hP 0 rfl rfl 0 (by decide) hf_12 (fun _ h9 => h9) rfl dX0_bound_50 ?_
      refine lv_iload_n hx hb dX0_bound_53 rfl (lv_at hl 2 rfl) ?_
      refine am_callRl (W.runV (As := [.int (nI h)]) (rest := [.long 0, .long (ac_bnd2 (al 12) (al 13) (ac_bnd1 (al 15) nr) h)]) ⟨hx, hb, hml, hown, hts⟩ (c_X1_valueOf l D ad cI cL fi fl ai al h (by omega)) (cwV 1 hts (am_gV (am_in 380 rfl) (am_in 286 rfl) (am_in 287 rfl) (am_in 30 rfl) (am_in 288 rfl)) rfl rfl rfl (by decide +kernel) ⟨Nat.le_of_ble_eq_true rfl, Nat.le_of_ble_eq_true rfl⟩) (am_preVR 1 1 rfl rfl rfl hP hK hN) rfl rfl hl.1 rfl (lv_room (Nat.le_of_ble_eq_true rfl)) dX0_bound_54 ⟨Nat.zero_le _, Nat.zero_le _⟩) ?_
      refine va_mmax_long hx hb (hml.trans hl.1.symm) hown (ht 379 _ rfl) (ht 336 _ rfl) (ht 37 _ rfl) (ht 337 _ rfl) (Nat.le_of_ble_eq_true rfl) (Nat.le_of_ble_eq_true rfl) (Nat.zero_le _) (Nat.zero_le _) dX0_bound_57 ?_
      refine am_topl (y := ac_max 0 ((al 12) h * (al 13) h)) rfl ?_
      refine lv_ladd hx hb dX0_bound_60 ?_
      refine lv_lstore_n (lv' := [(1, .long ((ac_bnd2 (al 12) (al 13) (ac_bnd1 (al 15) nr) h) + (ac_max 0 ((al 12) h * (al 13) h)))), (0, .ref (ad 0)), (3, .int (nI h))]) hx hb dX0_bound_61 rfl hl (by decide) rfl (fun ls hl => ?_)
      refine lv_iinc (v := nI (h + 1)) (lv' := [(3, .int (nI (h + 1))), (1, .long ((ac_bnd2 (al 12) (al 13) (ac_bnd1 (al 15) nr) h) + (ac_max 0 ((al 12) h * (al 13) h)))), (0, .ref (ad 0))]) hx hb dX0_bound_62 hl (k := 2) rfl (nI_1 h) (by decide) rfl (fun ls hl => ?_)
      refine lv_goto (tgt := 41) hx hb dX0_bound_65 (by decide) ?_
      have e_41_0 : ac_bnd2 (al 12) (al 13) (ac_bnd1 (al 15) nr) (h + 1) = (ac_bnd2 (al 12) (al 13) (ac_bnd1 (al 15) nr) h) + (ac_max 0 ((al 12) h * (al 13) h)) := by first | rfl | (simp only [ac_bnd2, c_44, if_true, if_false, eq_self, not_true_eq_false, not_false_eq_true, ite_true, ite_false, ↓reduceIte]; done) | (simp [ac_bnd2, c_44]; done)
      refine ih_41 (h + 1) (12 - (h + 1)) ls (by omega) ⟨rfl, (by omega), ?_⟩
      try dsimp only
      rw [e_41_0]
      exact lv_sub hl [2, 1, 0] rfl
  · skip
    have hkl_12 : k < nr := Nat.lt_of_not_le (fun z => c_12 ((am_ge hnr (by omega) (by omega)).mpr z))
    refine lv_lload_n hx hb dX0_bound_15 rfl (lv_at hl 1 rfl) ?_
    refine lv_aload_n hx hb dX0_bound_16 rfl (lv_at hl 0 rfl) ?_
    refine va_get (D := D) (ci := 0) (v := .ref (ad 1)) (C := RX0) (T := TX0) (N := 4) hx hb hts hin_X0 hown hK hP 0 rfl rfl 0 (by decide) hf_12 (fun _ h9 => h9) rfl dX0_bound_17 ?_
    refine va_get (D := D) (ci := 1) (v := .ref (ad 15)) (C := RX1) (T := TX1) (N := 14) hx hb hts hin_X1 hown hK hP 1 rfl rfl 13 (by decide) hf_156 (fun _ h9 => h9) rfl dX0_bound_20 ?_
    refine lv_iload_n hx hb dX0_bound_23 rfl (lv_at hl 2 rfl) ?_
    refine am_lald hx hb hK hP 15 1 rfl rfl k rfl (by omega) (by decide) dX0_bound_24 ?_
    refine lv_ldc2 (v := 27720) hx hb hown (ht 251 _ rfl) dX0_bound_25 ?_
    refine lv_lmul hx hb dX0_bound_28 ?_
    refine va_mmax_long hx hb (hml.trans hl.1.symm) hown (ht 379 _ rfl) (ht 336 _ rfl) (ht 37 _ rfl) (ht 337 _ rfl) (Nat.le_of_ble_eq_true rfl) (Nat.le_of_ble_eq_true rfl) (Nat.zero_le _) (Nat.zero_le _) dX0_bound_29 ?_
    refine am_topl (y := ac_max (ac_bnd1 (al 15) k) (((al 15) k) * 27720)) rfl ?_
    refine lv_lstore_n (lv' := [(1, .long (ac_max (ac_bnd1 (al 15) k) (((al 15) k) * 27720))), (0, .ref (ad 0)), (3, .int (nI k))]) hx hb dX0_bound_32 rfl hl (by decide) rfl (fun ls hl => ?_)
    refine lv_iinc (v := nI (k + 1)) (lv' := [(3, .int (nI (k + 1))), (1, .long (ac_max (ac_bnd1 (al 15) k) (((al 15) k) * 27720))), (0, .ref (ad 0))]) hx hb dX0_bound_33 hl (k := 2) rfl (nI_1 k) (by decide) rfl (fun ls hl => ?_)
    refine lv_goto (tgt := 4) hx hb dX0_bound_36 (by decide) ?_
    have e_4_0 : ac_bnd1 (al 15) (k + 1) = ac_max (ac_bnd1 (al 15) k) (((al 15) k) * 27720) := by first | rfl | (simp only [ac_bnd1, c_12, if_true, if_false, eq_self, not_true_eq_false, not_false_eq_true, ite_true, ite_false, ↓reduceIte]; done) | (simp [ac_bnd1, c_12]; done)
    refine ih_4 (k + 1) (nr - (k + 1)) ls (by omega) ⟨rfl, (by omega), ?_⟩
    try dsimp only
    rw [e_4_0]
    exact lv_sub hl [2, 1, 0] rfl

set_option maxHeartbeats 4000000 in
set_option maxRecDepth 100000 in
theorem c_X0_station (l : Launch) (D : va_G) (ad : Nat → Nat) (cI cL : ClassId) (fi : Nat → Int32) (fl : Nat → Int64) (ai : Nat → Nat → Int32) (al : Nat → Nat → Int64) (x : Int32) : Met l yX0_station wsX0_station (am_rm 0 0) (va_Pc [.ref (ad 0), .int x] (am_R nwL vwCl D (ac_w ad cI cL fi fl ai al) [(cI, .int), (cL, .long)])) (vp_Si (fun r => r = ac_stn (ai 21) x)) 0 0 am_No := by
  refine am_startR (cc := cX0_station) (maxL := 2) (ret := (some .int)) (by decide) rfl (Nat.le_of_ble_eq_true rfl) [(0, .ref (ad 0)), (1, .int x)] rfl ?_
  intro p e s m below meth c ls hx hb hr hml hown hts hlocks hP hK hN hl
  have hown : s.vm.findClass RX0 = some m.cls := hown
  have ht := am_ht hts
  have hin_X0 : ∀ w ∈ u_ws RX0 TX0 4, w ∈ wsX0_station := fun w h => List.mem_cons_of_mem _ (am_inX0 w h)
  have hin_X4 : ∀ w ∈ u_ws RX4 TX4 8, w ∈ wsX0_station := fun w h => List.mem_cons_of_mem _ (am_inX4 w h)
  have hf_177 := ht 154 (.fieldLink RX0 177 "ApartCost$Line" "told" "[I") rfl
  have hf_35 := ht 173 (.fieldLink RX0 35 "ApartCost" "line" "LApartCost$Line;") rfl
  refine lv_iload_n hx hb dX0_station_0 rfl (lv_at hl 1 rfl) ?_
  refine lv_if_lt (tgt := 22) hx hb dX0_station_1 (by decide) (fun c_1 => ?_) (fun c_1 => ?_)
  · skip
    refine lv_iconst (v := (-1)) hx hb dX0_station_22 (by decide) ?_
    exact am_iretR hx hb hr hlocks (by simp [ac_stn, c_1]) dX0_station_23
  · skip
    refine lv_iload_n hx hb dX0_station_4 rfl (lv_at hl 1 rfl) ?_
    refine lv_bipush (v := 10) hx hb dX0_station_5 (by decide) ?_
    refine lv_icmp_ge (tgt := 22) hx hb dX0_station_7 (by decide) (fun c_7 => ?_) (fun c_7 => ?_)
    · skip
      refine lv_iconst (v := (-1)) hx hb dX0_station_22 (by decide) ?_
      exact am_iretR hx hb hr hlocks (by simp [ac_stn, c_1, c_7]) dX0_station_23
    · skip
      obtain ⟨a, hq_a, ea⟩ : ∃ z, z < 10 ∧ x = nI z := am_rng (rfl : (10 : Int32) = nI 10) (by decide) c_1 c_7
      have nn_a : x.toNatClampNeg = a := by rw [ea]; exact nI_clamp (by omega)
      have mm_a : (nI a).toNatClampNeg = a := nI_clamp (by omega)
      refine lv_aload_n hx hb dX0_station_10 rfl (lv_at hl 0 rfl) ?_
      refine va_get (D := D) (ci := 0) (v := .ref (ad 4)) (C := RX0) (T := TX0) (N := 4) hx hb hts hin_X0 hown hK hP 0 rfl rfl 3 (by decide) hf_35 (fun _ h9 => h9) rfl dX0_station_11 ?_
      refine va_get (D := D) (ci := 4) (v := .ref (ad 21)) (C := RX4) (T := TX4) (N := 8) hx hb hts hin_X4 hown hK hP 4 rfl rfl 0 (by decide) hf_177 (fun _ h9 => h9) rfl dX0_station_14 ?_
      refine lv_iload_n hx hb dX0_station_17 rfl (lv_at hl 1 rfl) ?_
      refine am_iald hx hb hK hP 21 0 rfl rfl a ea (by omega) (by decide) dX0_station_18 ?_
      refine lv_goto (tgt := 23) hx hb dX0_station_19 (by decide) ?_
      exact am_iretR hx hb hr hlocks (by simp [ac_stn, c_1, c_7, nn_a]) dX0_station_23

