set_option maxHeartbeats 4000000 in
set_option maxRecDepth 100000 in
theorem c_X5_step (l : Launch) (D : va_G) (ad : Nat → Nat) (cI cL cZ : ClassId) (fi : Nat → Int32) (fl : Nat → Int64) (ai : Nat → Nat → Int32) (al : Nat → Nat → Int64) (x : Int32) (ln : Nat) (hlen : fi 2 = nI ln ∨ fi 2 = -1) (hln : ln ≤ 10) : Met l yX5_step wsX5_step (am_rm 0 0) (va_Pc [.ref (ad 0), .int x] (am_R nwL vwCl D (rm_w ad cI cL cZ fi fl ai al) [(cI, .int), (cL, .long), (cZ, .boolean)])) (vp_Si (fun r => r = ac_step (fi 2) (ai 14) x)) 0 0 am_No := by
  refine am_startR (cc := cX5_step) (maxL := 2) (ret := (some .int)) (by decide) rfl (Nat.le_of_ble_eq_true rfl) [(0, .ref (ad 0)), (1, .int x)] rfl ?_
  intro p e s m below meth c ls hx hb hr hml hown hts hlocks hP hK hN hl
  have hown : s.vm.findClass RX5 = some m.cls := hown
  have ht := am_ht hts
  have hin_X5 : ∀ w ∈ u_ws RX5 TX5 31, w ∈ wsX5_step := fun w h => List.mem_cons_of_mem _ (am_inX5 w h)
  have hf_51 := ht 445 (.fieldLink RX5 51 "ApartCostModel" "row" "[I") rfl
  have hf_54 := ht 446 (.fieldLink RX5 54 "ApartCostModel" "length" "I") rfl
  refine lv_iload_n hx hb dX5_step_0 rfl (lv_at hl 1 rfl) ?_
  refine lv_if_lt (tgt := 21) hx hb dX5_step_1 (by decide) (fun c_1 => ?_) (fun c_1 => ?_)
  · skip
    have c_1 : x < 0 := c_1
    refine lv_iconst (v := (-1)) hx hb dX5_step_21 (by decide) ?_
    exact am_iretR hx hb hr hlocks (by simp [ac_step, c_1]) dX5_step_22
  · skip
    have c_1 : ¬ (x < 0) := c_1
    refine lv_iload_n hx hb dX5_step_4 rfl (lv_at hl 1 rfl) ?_
    refine lv_aload_n hx hb dX5_step_5 rfl (lv_at hl 0 rfl) ?_
    refine va_get (D := D) (ci := 5) (v := .int (fi 2)) (C := RX5) (T := TX5) (N := 31) hx hb hts hin_X5 hown hK hP 0 rfl rfl 16 (by decide) hf_54 (fun _ h9 => h9) rfl dX5_step_6 ?_
    refine lv_icmp_ge (tgt := 21) hx hb dX5_step_9 (by decide) (fun c_9 => ?_) (fun c_9 => ?_)
    · skip
      have c_9 : (fi 2) ≤ x := c_9
      refine lv_iconst (v := (-1)) hx hb dX5_step_21 (by decide) ?_
      exact am_iretR hx hb hr hlocks (by simp [ac_step, c_1, c_9]) dX5_step_22
    · skip
      have c_9 : ¬ ((fi 2) ≤ x) := c_9
      have hlen2 : fi 2 = nI ln := by rcases hlen with h | h; exact h; exact absurd (by rw [h]; exact am_m1le c_1) c_9
      obtain ⟨a, hq_a, ea⟩ : ∃ z, z < ln ∧ x = nI z := am_rng hlen2 (by omega) c_1 c_9
      have nn_a : x.toNatClampNeg = a := by rw [ea]; exact nI_clamp (by omega)
      have mm_a : (nI a).toNatClampNeg = a := nI_clamp (by omega)
      refine lv_aload_n hx hb dX5_step_12 rfl (lv_at hl 0 rfl) ?_
      refine va_get (D := D) (ci := 5) (v := .ref (ad 14)) (C := RX5) (T := TX5) (N := 31) hx hb hts hin_X5 hown hK hP 0 rfl rfl 15 (by decide) hf_51 (fun _ h9 => h9) rfl dX5_step_13 ?_
      refine lv_iload_n hx hb dX5_step_16 rfl (lv_at hl 1 rfl) ?_
      refine am_iald hx hb hK hP 14 0 rfl rfl a ea (by omega) (by decide) dX5_step_17 ?_
      refine lv_goto (tgt := 22) hx hb dX5_step_18 (by decide) ?_
      exact am_iretR hx hb hr hlocks (by simp [ac_step, c_1, c_9, nn_a]) dX5_step_22

set_option maxHeartbeats 4000000 in
set_option maxRecDepth 100000 in
theorem c_X5_stops (l : Launch) (D : va_G) (ad : Nat → Nat) (cI cL cZ : ClassId) (fi : Nat → Int32) (fl : Nat → Int64) (ai : Nat → Nat → Int32) (al : Nat → Nat → Int64) (x : Int32) : Met l yX5_stops wsX5_stops (am_rm 1 21) (va_Pc [.ref (ad 0), .int x] (am_R nwL vwCl D (rm_w ad cI cL cZ fi fl ai al) [(cI, .int), (cL, .long), (cZ, .boolean)])) (vp_Si (fun r => r = rc_stops (fi 4) (fi 2) x 12 0 0)) 0 0 am_No := by
  refine am_startR (cc := cX5_stops) (maxL := 4) (ret := (some .int)) (by decide) rfl (Nat.le_of_ble_eq_true rfl) [(0, .ref (ad 0)), (1, .int x)] rfl ?_
  intro p e s m below meth c ls hx hb hr hml hown hts hlocks hP hK hN hl
  have hown : s.vm.findClass RX5 = some m.cls := hown
  have ht := am_ht hts
  have hin_X5 : ∀ w ∈ u_ws RX5 TX5 31, w ∈ wsX5_stops := fun w h => List.mem_cons_of_mem _ (am_inX5 w h)
  have hf_171 := ht 450 (.fieldLink RX5 171 "ApartCostModel" "openParts" "I") rfl
  have hf_54 := ht 446 (.fieldLink RX5 54 "ApartCostModel" "length" "I") rfl
  refine lv_iconst (v := 0) hx hb dX5_stops_0 (by decide) ?_
  refine lv_istore_n (lv' := [(2, .int 0), (0, .ref (ad 0)), (1, .int x)]) hx hb dX5_stops_1 rfl hl (by decide) rfl (fun ls hl => ?_)
  refine lv_iconst (v := 0) hx hb dX5_stops_2 (by decide) ?_
  refine lv_istore_n (lv' := [(3, .int 0), (2, .int 0), (0, .ref (ad 0)), (1, .int x)]) hx hb dX5_stops_3 rfl hl (by decide) rfl (fun ls hl => ?_)
  refine am_loopR (σ := (Nat) × (Int32)) (fun q n9 ls => n9 = 12 - q.1 ∧ q.1 ≤ 12 ∧ rc_stops (fi 4) (fi 2) x 12 0 0 = rc_stops (fi 4) (fi 2) x (12 - q.1) q.1 q.2 ∧ lv_has ls 4 [(0, .ref (ad 0)), (1, .int x), (2, .int q.2), (3, .int (nI q.1))]) ?_ (0, 0) (12 - 0) ls ⟨rfl, (by omega), rfl, lv_sub hl [2, 3, 1, 0] rfl⟩
  rintro ⟨k, cn⟩ n9 ls ⟨hn_4, hk, hm, hl⟩ ih_4
  dsimp only at hn_4 hk hm hl
  refine lv_iload_n hx hb dX5_stops_4 rfl (lv_at hl 3 rfl) ?_
  refine lv_bipush (v := 12) hx hb dX5_stops_5 (by decide) ?_
  refine lv_icmp_ge (tgt := 44) hx hb dX5_stops_7 (by decide) (fun c_7 => ?_) (fun c_7 => ?_)
  · skip
    have c_7 : 12 ≤ (nI k) := c_7
    have hke_7 : 12 ≤ k := (am_ge (rfl : (12 : Int32) = nI 12) (by decide) (by omega)).mp c_7
    have hkq_7 : k = 12 := by omega
    subst hkq_7
    refine lv_iconst (v := (-1)) hx hb dX5_stops_44 (by decide) ?_
    exact am_iretR hx hb hr hlocks (by rw [hm]; rfl) dX5_stops_45
  · skip
    have c_7 : ¬ (12 ≤ (nI k)) := c_7
    have hkl_7 : k < 12 := Nat.lt_of_not_le (fun z => c_7 ((am_ge (rfl : (12 : Int32) = nI 12) (by decide) (by omega)).mpr z))
    refine lv_aload_n hx hb dX5_stops_10 rfl (lv_at hl 0 rfl) ?_
    refine va_get (D := D) (ci := 5) (v := .int (fi 2)) (C := RX5) (T := TX5) (N := 31) hx hb hts hin_X5 hown hK hP 0 rfl rfl 16 (by decide) hf_54 (fun _ h9 => h9) rfl dX5_stops_11 ?_
    refine lv_if_lt (tgt := 44) hx hb dX5_stops_14 (by decide) (fun c_14 => ?_) (fun c_14 => ?_)
    · skip
      have c_14 : (fi 2) < 0 := c_14
      refine lv_iconst (v := (-1)) hx hb dX5_stops_44 (by decide) ?_
      exact am_iretR hx hb hr hlocks (by rw [hm, show 12 - k = (12 - (k + 1)) + 1 by omega]; simp only [rc_stops, c_14, if_true, ↓reduceIte]) dX5_stops_45
    · skip
      have c_14 : ¬ ((fi 2) < 0) := c_14
      refine lv_aload_n hx hb dX5_stops_17 rfl (lv_at hl 0 rfl) ?_
      refine va_get (D := D) (ci := 5) (v := .int (fi 4)) (C := RX5) (T := TX5) (N := 31) hx hb hts hin_X5 hown hK hP 0 rfl rfl 20 (by decide) hf_171 (fun _ h9 => h9) rfl dX5_stops_18 ?_
      refine lv_iload_n hx hb dX5_stops_21 rfl (lv_at hl 3 rfl) ?_
      refine am_callRi (W.runS (As := [.int (fi 4), .int (nI k)]) (rest := []) ⟨hx, hb, hml, hown, hts⟩ (c_X5_has l D _ _ (fi 4) (nI k)) (va_cwS 2 hts (am_gS (am_in 554 rfl) (am_in 555 rfl) (am_in 35 rfl) (am_in 556 rfl)) rfl rfl rfl (by decide +kernel) ⟨Nat.le_of_ble_eq_true rfl, Nat.le_of_ble_eq_true rfl⟩) (am_preSR hP hK hN) rfl rfl hl.1 rfl (lv_room (Nat.le_of_ble_eq_true rfl)) dX5_stops_22 ⟨Nat.zero_le _, Nat.zero_le _⟩) ?_
      refine lv_if_eq (tgt := 38) hx hb dX5_stops_25 (by decide) (fun c_25 => ?_) (fun c_25 => ?_)
      · skip
        have c_25 : (rc_has (fi 4) (nI k)) = 0 := c_25
        refine lv_iinc (v := nI (k + 1)) (lv' := [(3, .int (nI (k + 1))), (0, .ref (ad 0)), (1, .int x), (2, .int cn)]) hx hb dX5_stops_38 hl (k := 3) rfl (nI_1 k) (by decide) rfl (fun ls hl => ?_)
        refine lv_goto (tgt := 4) hx hb dX5_stops_41 (by decide) ?_
        refine ih_4 (k + 1, cn) (12 - (k + 1)) ls (by omega) ⟨rfl, (by omega), (by dsimp only; rw [hm, show 12 - k = (12 - (k + 1)) + 1 by omega]; simp only [rc_stops, c_7, c_14, c_25, if_true, if_false, ↓reduceIte]), ?_⟩
        exact lv_sub hl [1, 2, 3, 0] rfl
      · skip
        have c_25 : ¬ ((rc_has (fi 4) (nI k)) = 0) := c_25
        refine lv_iload_n hx hb dX5_stops_28 rfl (lv_at hl 2 rfl) ?_
        refine lv_iload_n hx hb dX5_stops_29 rfl (lv_at hl 1 rfl) ?_
        refine lv_icmp_ne (tgt := 35) hx hb dX5_stops_30 (by decide) (fun c_30 => ?_) (fun c_30 => ?_)
        · skip
          have c_30 : ¬ cn = x := c_30
          refine lv_iinc (v := cn + 1) (lv' := [(2, .int (cn + 1)), (0, .ref (ad 0)), (1, .int x), (3, .int (nI k))]) hx hb dX5_stops_35 hl (k := 2) rfl rfl (by decide) rfl (fun ls hl => ?_)
          refine lv_iinc (v := nI (k + 1)) (lv' := [(3, .int (nI (k + 1))), (2, .int (cn + 1)), (0, .ref (ad 0)), (1, .int x)]) hx hb dX5_stops_38 hl (k := 3) rfl (nI_1 k) (by decide) rfl (fun ls hl => ?_)
          refine lv_goto (tgt := 4) hx hb dX5_stops_41 (by decide) ?_
          refine ih_4 (k + 1, cn + 1) (12 - (k + 1)) ls (by omega) ⟨rfl, (by omega), (by dsimp only; rw [hm, show 12 - k = (12 - (k + 1)) + 1 by omega]; simp only [rc_stops, c_7, c_14, c_25, c_30, if_true, if_false, ↓reduceIte]), ?_⟩
          exact lv_sub hl [2, 3, 1, 0] rfl
        · skip
          have c_30 : cn = x := c_30
          refine lv_iload_n hx hb dX5_stops_33 rfl (lv_at hl 3 rfl) ?_
          exact am_iretR hx hb hr hlocks (by rw [hm, show 12 - k = (12 - (k + 1)) + 1 by omega]; simp only [rc_stops, c_7, c_14, c_25, c_30, if_true, if_false, ↓reduceIte]) dX5_stops_34

set_option maxHeartbeats 4000000 in
set_option maxRecDepth 100000 in
theorem c_X5_isInRow (l : Launch) (D : va_G) (ad : Nat → Nat) (cI cL cZ : ClassId) (fi : Nat → Int32) (fl : Nat → Int64) (ai : Nat → Nat → Int32) (al : Nat → Nat → Int64) (x : Int32) (ln : Nat) (hlen : fi 2 = nI ln ∨ fi 2 = -1) (hln : ln ≤ 10) : Met l yX5_isInRow wsX5_isInRow (am_rm 0 0) (va_Pc [.ref (ad 0), .int x] (am_R nwL vwCl D (rm_w ad cI cL cZ fi fl ai al) [(cI, .int), (cL, .long), (cZ, .boolean)])) (vp_Si (fun r => r = rc_inrow (ai 14) x (rc_len (fi 2)))) 0 0 am_No := by
  refine am_startR (cc := cX5_isInRow) (maxL := 4) (ret := (some .boolean)) (by decide) rfl (Nat.le_of_ble_eq_true rfl) [(0, .ref (ad 0)), (1, .int x)] rfl ?_
  intro p e s m below meth c ls hx hb hr hml hown hts hlocks hP hK hN hl
  have hown : s.vm.findClass RX5 = some m.cls := hown
  have ht := am_ht hts
  have hin_X5 : ∀ w ∈ u_ws RX5 TX5 31, w ∈ wsX5_isInRow := fun w h => List.mem_cons_of_mem _ (am_inX5 w h)
  have hf_51 := ht 445 (.fieldLink RX5 51 "ApartCostModel" "row" "[I") rfl
  have hf_54 := ht 446 (.fieldLink RX5 54 "ApartCostModel" "length" "I") rfl
  have hrl := am_rclen hlen hln
  refine lv_iconst (v := 0) hx hb dX5_isInRow_0 (by decide) ?_
  refine lv_istore_n (lv' := [(2, .int 0), (0, .ref (ad 0)), (1, .int x)]) hx hb dX5_isInRow_1 rfl hl (by decide) rfl (fun ls hl => ?_)
  refine lv_iconst (v := 0) hx hb dX5_isInRow_2 (by decide) ?_
  refine lv_istore_n (lv' := [(3, .int 0), (2, .int 0), (0, .ref (ad 0)), (1, .int x)]) hx hb dX5_isInRow_3 rfl hl (by decide) rfl (fun ls hl => ?_)
  refine am_loopR (σ := Nat) (fun q n9 ls => n9 = rc_len (fi 2) - q ∧ q ≤ rc_len (fi 2) ∧ lv_has ls 4 [(0, .ref (ad 0)), (1, .int x), (2, .int (rc_inrow (ai 14) x q)), (3, .int (nI q))]) ?_ 0 (rc_len (fi 2) - 0) ls ⟨rfl, (by omega), lv_sub hl [2, 3, 1, 0] rfl⟩
  rintro k n9 ls ⟨hn_4, hk, hl⟩ ih_4
  refine lv_iload_n hx hb dX5_isInRow_4 rfl (lv_at hl 3 rfl) ?_
  refine lv_aload_n hx hb dX5_isInRow_5 rfl (lv_at hl 0 rfl) ?_
  refine va_get (D := D) (ci := 5) (v := .int (fi 2)) (C := RX5) (T := TX5) (N := 31) hx hb hts hin_X5 hown hK hP 0 rfl rfl 16 (by decide) hf_54 (fun _ h9 => h9) rfl dX5_isInRow_6 ?_
  refine lv_icmp_ge (tgt := 38) hx hb dX5_isInRow_9 (by decide) (fun c_9 => ?_) (fun c_9 => ?_)
  · skip
    have c_9 : (fi 2) ≤ (nI k) := c_9
    have hkq : rc_len (fi 2) = k := by have := (hrl.2 k (by omega)).mp c_9; omega
    subst hkq
    refine lv_iload_n hx hb dX5_isInRow_38 rfl (lv_at hl 2 rfl) ?_
    exact am_zretR hx hb hr hlocks (rc_inrow_z _ _ _) (by first | rfl | (simp only [c_9, if_true, if_false, eq_self, not_true_eq_false, not_false_eq_true, ite_true, ite_false, ↓reduceIte]; done) | (simp [c_9]; done)) dX5_isInRow_39
  · skip
    have c_9 : ¬ ((fi 2) ≤ (nI k)) := c_9
    have hkl : k < rc_len (fi 2) := Nat.lt_of_not_le (fun z => c_9 ((hrl.2 k (by omega)).mpr z))
    refine lv_iload_n hx hb dX5_isInRow_12 rfl (lv_at hl 2 rfl) ?_
    refine lv_if_ne (tgt := 26) hx hb dX5_isInRow_13 (by decide) (fun c_13 => ?_) (fun c_13 => ?_)
    · skip
      have c_13 : ¬ (rc_inrow (ai 14) x k) = 0 := c_13
      refine lv_iconst (v := 1) hx hb dX5_isInRow_26 (by decide) ?_
      refine lv_goto (tgt := 31) hx hb dX5_isInRow_27 (by decide) ?_
      refine lv_istore_n (lv' := [(2, .int 1), (0, .ref (ad 0)), (1, .int x), (3, .int (nI k))]) hx hb dX5_isInRow_31 rfl hl (by decide) rfl (fun ls hl => ?_)
      refine lv_iinc (v := nI (k + 1)) (lv' := [(3, .int (nI (k + 1))), (2, .int 1), (0, .ref (ad 0)), (1, .int x)]) hx hb dX5_isInRow_32 hl (k := 3) rfl (nI_1 k) (by decide) rfl (fun ls hl => ?_)
      refine lv_goto (tgt := 4) hx hb dX5_isInRow_35 (by decide) ?_
      have e_4_0 : rc_inrow (ai 14) x (k + 1) = 1 := by first | rfl | (simp only [rc_inrow, c_9, c_13, if_true, if_false, eq_self, not_true_eq_false, not_false_eq_true, ite_true, ite_false, ↓reduceIte]; done) | (simp [rc_inrow, c_9, c_13]; done)
      refine ih_4 (k + 1) (rc_len (fi 2) - (k + 1)) ls (by omega) ⟨rfl, (by omega), ?_⟩
      try dsimp only
      rw [e_4_0]
      exact lv_sub hl [2, 3, 1, 0] rfl
    · skip
      have c_13 : (rc_inrow (ai 14) x k) = 0 := c_13
      refine lv_aload_n hx hb dX5_isInRow_16 rfl (lv_at hl 0 rfl) ?_
      refine va_get (D := D) (ci := 5) (v := .ref (ad 14)) (C := RX5) (T := TX5) (N := 31) hx hb hts hin_X5 hown hK hP 0 rfl rfl 15 (by decide) hf_51 (fun _ h9 => h9) rfl dX5_isInRow_17 ?_
      refine lv_iload_n hx hb dX5_isInRow_20 rfl (lv_at hl 3 rfl) ?_
      refine am_iald hx hb hK hP 14 0 rfl rfl k rfl (by omega) (by decide) dX5_isInRow_21 ?_
      refine lv_iload_n hx hb dX5_isInRow_22 rfl (lv_at hl 1 rfl) ?_
      refine lv_icmp_ne (tgt := 30) hx hb dX5_isInRow_23 (by decide) (fun c_23 => ?_) (fun c_23 => ?_)
      · skip
        have c_23 : ¬ ((ai 14) k) = x := c_23
        refine lv_iconst (v := 0) hx hb dX5_isInRow_30 (by decide) ?_
        refine lv_istore_n (lv' := [(2, .int 0), (0, .ref (ad 0)), (1, .int x), (3, .int (nI k))]) hx hb dX5_isInRow_31 rfl hl (by decide) rfl (fun ls hl => ?_)
        refine lv_iinc (v := nI (k + 1)) (lv' := [(3, .int (nI (k + 1))), (2, .int 0), (0, .ref (ad 0)), (1, .int x)]) hx hb dX5_isInRow_32 hl (k := 3) rfl (nI_1 k) (by decide) rfl (fun ls hl => ?_)
        refine lv_goto (tgt := 4) hx hb dX5_isInRow_35 (by decide) ?_
        have e_4_0 : rc_inrow (ai 14) x (k + 1) = 0 := by first | rfl | (simp only [rc_inrow, c_9, c_13, c_23, if_true, if_false, eq_self, not_true_eq_false, not_false_eq_true, ite_true, ite_false, ↓reduceIte]; done) | (simp [rc_inrow, c_9, c_13, c_23]; done)
        refine ih_4 (k + 1) (rc_len (fi 2) - (k + 1)) ls (by omega) ⟨rfl, (by omega), ?_⟩
        try dsimp only
        rw [e_4_0]
        exact lv_sub hl [2, 3, 1, 0] rfl
      · skip
        have c_23 : ((ai 14) k) = x := c_23
        refine lv_iconst (v := 1) hx hb dX5_isInRow_26 (by decide) ?_
        refine lv_goto (tgt := 31) hx hb dX5_isInRow_27 (by decide) ?_
        refine lv_istore_n (lv' := [(2, .int 1), (0, .ref (ad 0)), (1, .int x), (3, .int (nI k))]) hx hb dX5_isInRow_31 rfl hl (by decide) rfl (fun ls hl => ?_)
        refine lv_iinc (v := nI (k + 1)) (lv' := [(3, .int (nI (k + 1))), (2, .int 1), (0, .ref (ad 0)), (1, .int x)]) hx hb dX5_isInRow_32 hl (k := 3) rfl (nI_1 k) (by decide) rfl (fun ls hl => ?_)
        refine lv_goto (tgt := 4) hx hb dX5_isInRow_35 (by decide) ?_
        have e_4_0 : rc_inrow (ai 14) x (k + 1) = 1 := by first | rfl | (simp only [rc_inrow, c_9, c_13, c_23, if_true, if_false, eq_self, not_true_eq_false, not_false_eq_true, ite_true, ite_false, ↓reduceIte]; done) | (simp [rc_inrow, c_9, c_13, c_23]; done)
        refine ih_4 (k + 1) (rc_len (fi 2) - (k + 1)) ls (by omega) ⟨rfl, (by omega), ?_⟩
        try dsimp only
        rw [e_4_0]
        exact lv_sub hl [2, 3, 1, 0] rfl

set_option maxHeartbeats 4000000 in
set_option maxRecDepth 100000 in
theorem c_X5_other (l : Launch) (D : va_G) (ad : Nat → Nat) (cI cL cZ : ClassId) (fi : Nat → Int32) (fl : Nat → Int64) (ai : Nat → Nat → Int32) (al : Nat → Nat → Int64) (x : Int32) (ln : Nat) (nt : Nat) (hlen : fi 2 = nI ln ∨ fi 2 = -1) (hln : ln ≤ 10) (hnt : fi 5 = nI nt) (hnt10 : nt ≤ 10) : Met l yX5_other wsX5_other (am_rm 1 23) (va_Pc [.ref (ad 0), .int x] (am_R nwL vwCl D (rm_w ad cI cL cZ fi fl ai al) [(cI, .int), (cL, .long), (cZ, .boolean)])) (vp_Si (fun r => r = rc_other (fun q => rc_inrow (ai 14) q (rc_len (fi 2))) (fi 2) x nt 0 0)) 0 0 am_No := by
  refine am_startR (cc := cX5_other) (maxL := 4) (ret := (some .int)) (by decide) rfl (Nat.le_of_ble_eq_true rfl) [(0, .ref (ad 0)), (1, .int x)] rfl ?_
  intro p e s m below meth c ls hx hb hr hml hown hts hlocks hP hK hN hl
  have hown : s.vm.findClass RX5 = some m.cls := hown
  have ht := am_ht hts
  have hin_X5 : ∀ w ∈ u_ws RX5 TX5 31, w ∈ wsX5_other := fun w h => List.mem_cons_of_mem _ (am_inX5 w h)
  have hf_174 := ht 451 (.fieldLink RX5 174 "ApartCostModel" "actsThen" "I") rfl
  have hf_54 := ht 446 (.fieldLink RX5 54 "ApartCostModel" "length" "I") rfl
  refine lv_iconst (v := 0) hx hb dX5_other_0 (by decide) ?_
  refine lv_istore_n (lv' := [(2, .int 0), (0, .ref (ad 0)), (1, .int x)]) hx hb dX5_other_1 rfl hl (by decide) rfl (fun ls hl => ?_)
  refine lv_iconst (v := 0) hx hb dX5_other_2 (by decide) ?_
  refine lv_istore_n (lv' := [(3, .int 0), (2, .int 0), (0, .ref (ad 0)), (1, .int x)]) hx hb dX5_other_3 rfl hl (by decide) rfl (fun ls hl => ?_)
  refine am_loopR (σ := (Nat) × (Int32)) (fun q n9 ls => n9 = nt - q.1 ∧ q.1 ≤ nt ∧ rc_other (fun q => rc_inrow (ai 14) q (rc_len (fi 2))) (fi 2) x nt 0 0 = rc_other (fun q => rc_inrow (ai 14) q (rc_len (fi 2))) (fi 2) x (nt - q.1) q.1 q.2 ∧ lv_has ls 4 [(0, .ref (ad 0)), (1, .int x), (2, .int q.2), (3, .int (nI q.1))]) ?_ (0, 0) (nt - 0) ls ⟨rfl, (by first | omega | (dsimp only; omega)), rfl, lv_sub hl [2, 3, 1, 0] rfl⟩
  rintro ⟨k, cn⟩ n9 ls ⟨hn_4, hk, hm, hl⟩ ih_4
  dsimp only at hn_4 hk hm hl
  refine lv_iload_n hx hb dX5_other_4 rfl (lv_at hl 3 rfl) ?_
  refine lv_aload_n hx hb dX5_other_5 rfl (lv_at hl 0 rfl) ?_
  refine va_get (D := D) (ci := 5) (v := .int (fi 5)) (C := RX5) (T := TX5) (N := 31) hx hb hts hin_X5 hown hK hP 0 rfl rfl 21 (by decide) hf_174 (fun _ h9 => h9) rfl dX5_other_6 ?_
  refine lv_icmp_ge (tgt := 43) hx hb dX5_other_9 (by decide) (fun c_9 => ?_) (fun c_9 => ?_)
  · skip
    have c_9 : (fi 5) ≤ (nI k) := c_9
    have hke_9 : nt ≤ k := (am_ge hnt (by omega) (by omega)).mp c_9
    have hkq_9 : nt = k := by omega
    subst hkq_9
    refine lv_iconst (v := (-1)) hx hb dX5_other_43 (by decide) ?_
    exact am_iretR hx hb hr hlocks (by rw [hm, Nat.sub_self, rc_other]) dX5_other_44
  · skip
    have c_9 : ¬ ((fi 5) ≤ (nI k)) := c_9
    have hkl_9 : k < nt := Nat.lt_of_not_le (fun z => c_9 ((am_ge hnt (by omega) (by omega)).mpr z))
    refine lv_aload_n hx hb dX5_other_12 rfl (lv_at hl 0 rfl) ?_
    refine va_get (D := D) (ci := 5) (v := .int (fi 2)) (C := RX5) (T := TX5) (N := 31) hx hb hts hin_X5 hown hK hP 0 rfl rfl 16 (by decide) hf_54 (fun _ h9 => h9) rfl dX5_other_13 ?_
    refine lv_if_lt (tgt := 43) hx hb dX5_other_16 (by decide) (fun c_16 => ?_) (fun c_16 => ?_)
    · skip
      have c_16 : (fi 2) < 0 := c_16
      refine lv_iconst (v := (-1)) hx hb dX5_other_43 (by decide) ?_
      exact am_iretR hx hb hr hlocks (by rw [hm, show nt - k = (nt - (k + 1)) + 1 by omega]; simp only [rc_other, c_16, if_true, ↓reduceIte]) dX5_other_44
    · skip
      have c_16 : ¬ ((fi 2) < 0) := c_16
      refine lv_aload_n hx hb dX5_other_19 rfl (lv_at hl 0 rfl) ?_
      refine lv_iload_n hx hb dX5_other_20 rfl (lv_at hl 3 rfl) ?_
      refine am_callRi (W.runV (As := [.int (nI k)]) (rest := []) ⟨hx, hb, hml, hown, hts⟩ (c_X5_isInRow l D ad cI cL cZ fi fl ai al (nI k) ln hlen hln) (cwV 1 hts (am_gV (am_in 600 rfl) (am_in 601 rfl) (am_in 23 rfl) (am_in 35 rfl) (am_in 602 rfl)) rfl rfl rfl (by decide +kernel) ⟨Nat.le_of_ble_eq_true rfl, Nat.le_of_ble_eq_true rfl⟩) (am_preVR 5 0 rfl rfl rfl hP hK hN) rfl rfl hl.1 rfl (lv_room (Nat.le_of_ble_eq_true rfl)) dX5_other_21 ⟨Nat.zero_le _, Nat.zero_le _⟩) ?_
      refine lv_if_ne (tgt := 37) hx hb dX5_other_24 (by decide) (fun c_24 => ?_) (fun c_24 => ?_)
      · skip
        have c_24 : ¬ (rc_inrow (ai 14) (nI k) (rc_len (fi 2))) = 0 := c_24
        refine lv_iinc (v := nI (k + 1)) (lv' := [(3, .int (nI (k + 1))), (0, .ref (ad 0)), (1, .int x), (2, .int cn)]) hx hb dX5_other_37 hl (k := 3) rfl (nI_1 k) (by decide) rfl (fun ls hl => ?_)
        refine lv_goto (tgt := 4) hx hb dX5_other_40 (by decide) ?_
        refine ih_4 (k + 1, cn) (nt - (k + 1)) ls (by omega) ⟨rfl, (by first | omega | (dsimp only; omega)), (by dsimp only; rw [hm, show nt - k = (nt - (k + 1)) + 1 by omega]; simp only [rc_other, c_9, c_16, c_24, if_true, if_false, ↓reduceIte]), ?_⟩
        exact lv_sub hl [1, 2, 3, 0] rfl
      · skip
        have c_24 : (rc_inrow (ai 14) (nI k) (rc_len (fi 2))) = 0 := c_24
        refine lv_iload_n hx hb dX5_other_27 rfl (lv_at hl 2 rfl) ?_
        refine lv_iload_n hx hb dX5_other_28 rfl (lv_at hl 1 rfl) ?_
        refine lv_icmp_ne (tgt := 34) hx hb dX5_other_29 (by decide) (fun c_29 => ?_) (fun c_29 => ?_)
        · skip
          have c_29 : ¬ cn = x := c_29
          refine lv_iinc (v := cn + 1) (lv' := [(2, .int (cn + 1)), (0, .ref (ad 0)), (1, .int x), (3, .int (nI k))]) hx hb dX5_other_34 hl (k := 2) rfl rfl (by decide) rfl (fun ls hl => ?_)
          refine lv_iinc (v := nI (k + 1)) (lv' := [(3, .int (nI (k + 1))), (2, .int (cn + 1)), (0, .ref (ad 0)), (1, .int x)]) hx hb dX5_other_37 hl (k := 3) rfl (nI_1 k) (by decide) rfl (fun ls hl => ?_)
          refine lv_goto (tgt := 4) hx hb dX5_other_40 (by decide) ?_
          refine ih_4 (k + 1, cn + 1) (nt - (k + 1)) ls (by omega) ⟨rfl, (by first | omega | (dsimp only; omega)), (by dsimp only; rw [hm, show nt - k = (nt - (k + 1)) + 1 by omega]; simp only [rc_other, c_9, c_16, c_24, c_29, if_true, if_false, ↓reduceIte]), ?_⟩
          exact lv_sub hl [2, 3, 1, 0] rfl
        · skip
          have c_29 : cn = x := c_29
          refine lv_iload_n hx hb dX5_other_32 rfl (lv_at hl 3 rfl) ?_
          exact am_iretR hx hb hr hlocks (by rw [hm, show nt - k = (nt - (k + 1)) + 1 by omega]; simp only [rc_other, c_9, c_16, c_24, c_29, if_true, if_false, ↓reduceIte]) dX5_other_33

set_option maxHeartbeats 4000000 in
set_option maxRecDepth 100000 in
theorem c_X5_gain (l : Launch) (D : va_G) (ad : Nat → Nat) (cI cL cZ : ClassId) (fi : Nat → Int32) (fl : Nat → Int64) (ai : Nat → Nat → Int32) (al : Nat → Nat → Int64) (x : Int32) : Met l yX5_gain wsX5_gain (am_rm 1 20) (va_Pc [.ref (ad 0), .int x] (am_R nwL vwCl D (rm_w ad cI cL cZ fi fl ai al) [(cI, .int), (cL, .long), (cZ, .boolean)])) (vp_Sl (fun r => r = rc_gain (fi 2) (fl 0) (al 15) x)) 0 0 am_No := by
  refine am_startR (cc := cX5_gain) (maxL := 2) (ret := (some .long)) (by decide) rfl (Nat.le_of_ble_eq_true rfl) [(0, .ref (ad 0)), (1, .int x)] rfl ?_
  intro p e s m below meth c ls hx hb hr hml hown hts hlocks hP hK hN hl
  have hown : s.vm.findClass RX5 = some m.cls := hown
  have ht := am_ht hts
  have hin_X5 : ∀ w ∈ u_ws RX5 TX5 31, w ∈ wsX5_gain := fun w h => List.mem_cons_of_mem _ (am_inX5 w h)
  have hf_167 := ht 447 (.fieldLink RX5 167 "ApartCostModel" "found" "J") rfl
  have hf_54 := ht 446 (.fieldLink RX5 54 "ApartCostModel" "length" "I") rfl
  have hf_58 := ht 448 (.fieldLink RX5 58 "ApartCostModel" "brought" "[J") rfl
  refine lv_aload_n hx hb dX5_gain_0 rfl (lv_at hl 0 rfl) ?_
  refine va_get (D := D) (ci := 5) (v := .int (fi 2)) (C := RX5) (T := TX5) (N := 31) hx hb hts hin_X5 hown hK hP 0 rfl rfl 16 (by decide) hf_54 (fun _ h9 => h9) rfl dX5_gain_1 ?_
  refine lv_if_ge (tgt := 9) hx hb dX5_gain_4 (by decide) (fun c_4 => ?_) (fun c_4 => ?_)
  · skip
    have c_4 : 0 ≤ (fi 2) := c_4
    refine lv_iload_n hx hb dX5_gain_9 rfl (lv_at hl 1 rfl) ?_
    refine lv_iconst (v := (-1)) hx hb dX5_gain_10 (by decide) ?_
    refine lv_icmp_ne (tgt := 21) hx hb dX5_gain_11 (by decide) (fun c_11 => ?_) (fun c_11 => ?_)
    · skip
      have c_11 : ¬ x = (-1) := c_11
      refine lv_iload_n hx hb dX5_gain_21 rfl (lv_at hl 1 rfl) ?_
      refine am_callRi (W.runS (As := [.int x]) (rest := []) ⟨hx, hb, hml, hown, hts⟩ (c_X5_isPart l D _ _ x) (va_cwS 1 hts (am_gS (am_in 526 rfl) (am_in 527 rfl) (am_in 35 rfl) (am_in 528 rfl)) rfl rfl rfl (by decide +kernel) ⟨Nat.le_of_ble_eq_true rfl, Nat.le_of_ble_eq_true rfl⟩) (am_preSR hP hK hN) rfl rfl hl.1 rfl (lv_room (Nat.le_of_ble_eq_true rfl)) dX5_gain_22 ⟨Nat.zero_le _, Nat.zero_le _⟩) ?_
      refine lv_if_eq (tgt := 37) hx hb dX5_gain_25 (by decide) (fun c_25 => ?_) (fun c_25 => ?_)
      · skip
        have c_25 : (ac_isPart x) = 0 := c_25
        refine lv_lconst (v := 0) hx hb dX5_gain_37 (by decide) ?_
        exact am_lretR hx hb hr hlocks (by simp only [rc_gain, c_4, c_11, c_25, if_true, if_false, ↓reduceIte]) dX5_gain_38
      · skip
        have c_25 : ¬ ((ac_isPart x) = 0) := c_25
        obtain ⟨a, hq_a, ea⟩ : ∃ z, z < 12 ∧ x = nI z := am_isPart c_25
        have nn_a : x.toNatClampNeg = a := by rw [ea]; exact nI_clamp (by omega)
        have mm_a : (nI a).toNatClampNeg = a := nI_clamp (by omega)
        refine lv_aload_n hx hb dX5_gain_28 rfl (lv_at hl 0 rfl) ?_
        refine va_get (D := D) (ci := 5) (v := .ref (ad 15)) (C := RX5) (T := TX5) (N := 31) hx hb hts hin_X5 hown hK hP 0 rfl rfl 18 (by decide) hf_58 (fun _ h9 => h9) rfl dX5_gain_29 ?_
        refine lv_iload_n hx hb dX5_gain_32 rfl (lv_at hl 1 rfl) ?_
        refine am_lald hx hb hK hP 15 1 rfl rfl a ea (by omega) (by decide) dX5_gain_33 ?_
        refine lv_goto (tgt := 38) hx hb dX5_gain_34 (by decide) ?_
        exact am_lretR hx hb hr hlocks (by simp only [rc_gain, c_4, c_11, c_25, nn_a, if_true, if_false, ↓reduceIte]) dX5_gain_38
    · skip
      have c_11 : x = (-1) := c_11
      refine lv_aload_n hx hb dX5_gain_14 rfl (lv_at hl 0 rfl) ?_
      refine va_get (D := D) (ci := 5) (v := .long (fl 0)) (C := RX5) (T := TX5) (N := 31) hx hb hts hin_X5 hown hK hP 0 rfl rfl 17 (by decide) hf_167 (fun _ h9 => h9) rfl dX5_gain_15 ?_
      refine lv_goto (tgt := 38) hx hb dX5_gain_18 (by decide) ?_
      exact am_lretR hx hb hr hlocks (by simp only [rc_gain, c_4, c_11, if_true, if_false, ↓reduceIte]) dX5_gain_38
  · skip
    have c_4 : ¬ (0 ≤ (fi 2)) := c_4
    refine lv_lconst (v := 0) hx hb dX5_gain_7 (by decide) ?_
    exact am_lretR hx hb hr hlocks (by simp only [rc_gain, c_4, if_true, if_false, ↓reduceIte]) dX5_gain_8

set_option maxHeartbeats 4000000 in
set_option maxRecDepth 100000 in
theorem c_X5_proved (l : Launch) (D : va_G) (ad : Nat → Nat) (cI cL cZ : ClassId) (fi : Nat → Int32) (fl : Nat → Int64) (ai : Nat → Nat → Int32) (al : Nat → Nat → Int64) (hfr : fi 3 = 0 ∨ fi 3 = 1) : Met l yX5_proved wsX5_proved (am_rm 0 0) (va_Pc [.ref (ad 0)] (am_R nwL vwCl D (rm_w ad cI cL cZ fi fl ai al) [(cI, .int), (cL, .long), (cZ, .boolean)])) (vp_Si (fun r => r = (fi 3))) 0 0 am_No := by
  refine am_startR (cc := cX5_proved) (maxL := 1) (ret := (some .boolean)) (by decide) rfl (Nat.le_of_ble_eq_true rfl) [(0, .ref (ad 0))] rfl ?_
  intro p e s m below meth c ls hx hb hr hml hown hts hlocks hP hK hN hl
  have hown : s.vm.findClass RX5 = some m.cls := hown
  have ht := am_ht hts
  have hin_X5 : ∀ w ∈ u_ws RX5 TX5 31, w ∈ wsX5_proved := fun w h => List.mem_cons_of_mem _ (am_inX5 w h)
  have hf_97 := ht 449 (.fieldLink RX5 97 "ApartCostModel" "isFresh" "Z") rfl
  refine lv_aload_n hx hb dX5_proved_0 rfl (lv_at hl 0 rfl) ?_
  refine va_get (D := D) (ci := 5) (v := .int (fi 3)) (C := RX5) (T := TX5) (N := 31) hx hb hts hin_X5 hown hK hP 0 rfl rfl 19 (by decide) hf_97 (fun _ h9 => h9) rfl dX5_proved_1 ?_
  exact am_zretR hx hb hr hlocks hfr (by rfl) dX5_proved_4

set_option maxHeartbeats 4000000 in
set_option maxRecDepth 100000 in
theorem c_X5_bound (l : Launch) (D : va_G) (ad : Nat → Nat) (cI cL cZ : ClassId) (fi : Nat → Int32) (fl : Nat → Int64) (ai : Nat → Nat → Int32) (al : Nat → Nat → Int64) (nr : Nat) (hnr : fi 1 = nI nr) (hnrl : nr ≤ 16) (hbe : ∀ p, p < 12 → ¬ ((ai 11) p).toInt64 = 0) : Met l yX5_bound wsX5_bound (am_rm 0 0) (va_Pc [.ref (ad 0)] (am_R nwL vwCl D (rm_w ad cI cL cZ fi fl ai al) [(cI, .int), (cL, .long), (cZ, .boolean)])) (vp_Sl (fun r => r = rc_bd1 (al 9) (ai 10) (ai 11) 12 + 27720 * rc_bd2 (al 13) nr)) 0 0 am_No := by
  refine am_startR (cc := cX5_bound) (maxL := 6) (ret := (some .long)) (by decide) rfl (Nat.le_of_ble_eq_true rfl) [(0, .ref (ad 0))] rfl ?_
  intro p e s m below meth c ls hx hb hr hml hown hts hlocks hP hK hN hl
  have hown : s.vm.findClass RX5 = some m.cls := hown
  have ht := am_ht hts
  have hin_X5 : ∀ w ∈ u_ws RX5 TX5 31, w ∈ wsX5_bound := fun w h => List.mem_cons_of_mem _ (am_inX5 w h)
  have hf_116 := ht 444 (.fieldLink RX5 116 "ApartCostModel" "restCount" "I") rfl
  have hf_36 := ht 439 (.fieldLink RX5 36 "ApartCostModel" "worths" "[J") rfl
  have hf_39 := ht 440 (.fieldLink RX5 39 "ApartCostModel" "above" "[I") rfl
  have hf_42 := ht 441 (.fieldLink RX5 42 "ApartCostModel" "below" "[I") rfl
  have hf_48 := ht 443 (.fieldLink RX5 48 "ApartCostModel" "restWorths" "[J") rfl
  refine lv_lconst (v := 0) hx hb dX5_bound_0 (by decide) ?_
  refine lv_lstore_n (lv' := [(1, .long 0), (0, .ref (ad 0))]) hx hb dX5_bound_1 rfl hl (by decide) rfl (fun ls hl => ?_)
  refine lv_iconst (v := 0) hx hb dX5_bound_2 (by decide) ?_
  refine lv_istore_n (lv' := [(3, .int 0), (1, .long 0), (0, .ref (ad 0))]) hx hb dX5_bound_3 rfl hl (by decide) rfl (fun ls hl => ?_)
  refine am_loopR (σ := Nat) (fun q n9 ls => n9 = 12 - q ∧ q ≤ 12 ∧ lv_has ls 6 [(0, .ref (ad 0)), (1, .long (rc_bd1 (al 9) (ai 10) (ai 11) q)), (3, .int (nI q))]) ?_ 0 (12 - 0) ls ⟨rfl, (by omega), lv_sub hl [2, 1, 0] rfl⟩
  rintro k n9 ls ⟨hn_4, hk, hl⟩ ih_4
  refine lv_iload_n hx hb dX5_bound_4 rfl (lv_at hl 2 rfl) ?_
  refine lv_bipush (v := 12) hx hb dX5_bound_5 (by decide) ?_
  refine lv_icmp_ge (tgt := 60) hx hb dX5_bound_7 (by decide) (fun c_7 => ?_) (fun c_7 => ?_)
  · skip
    have c_7 : 12 ≤ (nI k) := c_7
    have hke_7 : 12 ≤ k := (am_ge (rfl : (12 : Int32) = nI 12) (by decide) (by omega)).mp c_7
    have hkq_7 : k = 12 := by omega
    subst hkq_7
    refine lv_lconst (v := 0) hx hb dX5_bound_60 (by decide) ?_
    refine lv_lstore_n (lv' := [(3, .long 0), (0, .ref (ad 0)), (1, .long (rc_bd1 (al 9) (ai 10) (ai 11) 12))]) hx hb dX5_bound_61 rfl hl (by decide) rfl (fun ls hl => ?_)
    refine lv_iconst (v := 0) hx hb dX5_bound_62 (by decide) ?_
    refine lv_istore (lv' := [(5, .int 0), (3, .long 0), (0, .ref (ad 0)), (1, .long (rc_bd1 (al 9) (ai 10) (ai 11) 12))]) hx hb dX5_bound_63 hl (by decide) rfl (fun ls hl => ?_)
    refine am_loopR (σ := Nat) (fun q n9 ls => n9 = nr - q ∧ q ≤ nr ∧ lv_has ls 6 [(0, .ref (ad 0)), (1, .long (rc_bd1 (al 9) (ai 10) (ai 11) 12)), (3, .long (rc_bd2 (al 13) q)), (5, .int (nI q))]) ?_ 0 (nr - 0) ls ⟨rfl, (by omega), lv_sub hl [2, 3, 1, 0] rfl⟩
    rintro h n9 ls ⟨hn_65, hh, hl⟩ ih_65
    refine lv_iload hx hb dX5_bound_65 (lv_at hl 3 rfl) ?_
    refine lv_aload_n hx hb dX5_bound_67 rfl (lv_at hl 0 rfl) ?_
    refine va_get (D := D) (ci := 5) (v := .int (fi 1)) (C := RX5) (T := TX5) (N := 31) hx hb hts hin_X5 hown hK hP 0 rfl rfl 14 (by decide) hf_116 (fun _ h9 => h9) rfl dX5_bound_68 ?_
    refine lv_icmp_ge (tgt := 104) hx hb dX5_bound_71 (by decide) (fun c_71 => ?_) (fun c_71 => ?_)
    · skip
      have c_71 : (fi 1) ≤ (nI h) := c_71
      have hke_71 : nr ≤ h := (am_ge hnr (by omega) (by omega)).mp c_71
      have hkq_71 : nr = h := by omega
      subst hkq_71
      refine lv_lload_n hx hb dX5_bound_104 rfl (lv_at hl 1 rfl) ?_
      refine lv_ldc2 (v := 27720) hx hb hown (ht 571 _ rfl) dX5_bound_105 ?_
      refine lv_lload_n hx hb dX5_bound_108 rfl (lv_at hl 2 rfl) ?_
      refine lv_lmul hx hb dX5_bound_109 ?_
      refine lv_ladd hx hb dX5_bound_110 ?_
      exact am_lretR hx hb hr hlocks (by first | rfl | (simp only [c_71, if_true, if_false, eq_self, not_true_eq_false, not_false_eq_true, ite_true, ite_false, ↓reduceIte]; done) | (simp [c_71]; done)) dX5_bound_111
    · skip
      have c_71 : ¬ ((fi 1) ≤ (nI h)) := c_71
      have hkl_71 : h < nr := Nat.lt_of_not_le (fun z => c_71 ((am_ge hnr (by omega) (by omega)).mpr z))
      refine lv_aload_n hx hb dX5_bound_74 rfl (lv_at hl 0 rfl) ?_
      refine va_get (D := D) (ci := 5) (v := .ref (ad 13)) (C := RX5) (T := TX5) (N := 31) hx hb hts hin_X5 hown hK hP 0 rfl rfl 13 (by decide) hf_48 (fun _ h9 => h9) rfl dX5_bound_75 ?_
      refine lv_iload hx hb dX5_bound_78 (lv_at hl 3 rfl) ?_
      refine am_lald hx hb hK hP 13 1 rfl rfl h rfl (by omega) (by decide) dX5_bound_80 ?_
      refine lv_lload_n hx hb dX5_bound_81 rfl (lv_at hl 2 rfl) ?_
      refine W.lcmp hx hb dX5_bound_82 ?_
      refine lv_if_le (tgt := 96) hx hb dX5_bound_83 (by decide) (fun c_83 => ?_) (fun c_83 => ?_)
      · skip
        have c_83 : ((al 13) h) ≤ (rc_bd2 (al 13) h) := (lg_cmp_le _ _).mp c_83
        refine lv_lload_n hx hb dX5_bound_96 rfl (lv_at hl 2 rfl) ?_
        refine lv_lstore_n (lv' := [(3, .long (rc_bd2 (al 13) h)), (0, .ref (ad 0)), (1, .long (rc_bd1 (al 9) (ai 10) (ai 11) 12)), (5, .int (nI h))]) hx hb dX5_bound_97 rfl hl (by decide) rfl (fun ls hl => ?_)
        refine lv_iinc (v := nI (h + 1)) (lv' := [(5, .int (nI (h + 1))), (3, .long (rc_bd2 (al 13) h)), (0, .ref (ad 0)), (1, .long (rc_bd1 (al 9) (ai 10) (ai 11) 12))]) hx hb dX5_bound_98 hl (k := 3) rfl (nI_1 h) (by decide) rfl (fun ls hl => ?_)
        refine lv_goto (tgt := 65) hx hb dX5_bound_101 (by decide) ?_
        have e_65_0 : rc_bd2 (al 13) (h + 1) = rc_bd2 (al 13) h := by first | rfl | (simp only [rc_bd2, c_71, c_83, if_true, if_false, eq_self, not_true_eq_false, not_false_eq_true, ite_true, ite_false, ↓reduceIte]; done) | (simp [rc_bd2, c_71, c_83]; done)
        refine ih_65 (h + 1) (nr - (h + 1)) ls (by omega) ⟨rfl, (by omega), ?_⟩
        try dsimp only
        rw [e_65_0]
        exact lv_sub hl [2, 3, 1, 0] rfl
      · skip
        have c_83 : ¬ (((al 13) h) ≤ (rc_bd2 (al 13) h)) := (fun z => c_83 ((lg_cmp_le _ _).mpr z))
        refine lv_aload_n hx hb dX5_bound_86 rfl (lv_at hl 0 rfl) ?_
        refine va_get (D := D) (ci := 5) (v := .ref (ad 13)) (C := RX5) (T := TX5) (N := 31) hx hb hts hin_X5 hown hK hP 0 rfl rfl 13 (by decide) hf_48 (fun _ h9 => h9) rfl dX5_bound_87 ?_
        refine lv_iload hx hb dX5_bound_90 (lv_at hl 3 rfl) ?_
        refine am_lald hx hb hK hP 13 1 rfl rfl h rfl (by omega) (by decide) dX5_bound_92 ?_
        refine lv_goto (tgt := 97) hx hb dX5_bound_93 (by decide) ?_
        refine lv_lstore_n (lv' := [(3, .long ((al 13) h)), (0, .ref (ad 0)), (1, .long (rc_bd1 (al 9) (ai 10) (ai 11) 12)), (5, .int (nI h))]) hx hb dX5_bound_97 rfl hl (by decide) rfl (fun ls hl => ?_)
        refine lv_iinc (v := nI (h + 1)) (lv' := [(5, .int (nI (h + 1))), (3, .long ((al 13) h)), (0, .ref (ad 0)), (1, .long (rc_bd1 (al 9) (ai 10) (ai 11) 12))]) hx hb dX5_bound_98 hl (k := 3) rfl (nI_1 h) (by decide) rfl (fun ls hl => ?_)
        refine lv_goto (tgt := 65) hx hb dX5_bound_101 (by decide) ?_
        have e_65_0 : rc_bd2 (al 13) (h + 1) = (al 13) h := by first | rfl | (simp only [rc_bd2, c_71, c_83, if_true, if_false, eq_self, not_true_eq_false, not_false_eq_true, ite_true, ite_false, ↓reduceIte]; done) | (simp [rc_bd2, c_71, c_83]; done)
        refine ih_65 (h + 1) (nr - (h + 1)) ls (by omega) ⟨rfl, (by omega), ?_⟩
        try dsimp only
        rw [e_65_0]
        exact lv_sub hl [2, 3, 1, 0] rfl
  · skip
    have c_7 : ¬ (12 ≤ (nI k)) := c_7
    have hkl_7 : k < 12 := Nat.lt_of_not_le (fun z => c_7 ((am_ge (rfl : (12 : Int32) = nI 12) (by decide) (by omega)).mpr z))
    refine lv_lload_n hx hb dX5_bound_10 rfl (lv_at hl 1 rfl) ?_
    refine lv_aload_n hx hb dX5_bound_11 rfl (lv_at hl 0 rfl) ?_
    refine va_get (D := D) (ci := 5) (v := .ref (ad 9)) (C := RX5) (T := TX5) (N := 31) hx hb hts hin_X5 hown hK hP 0 rfl rfl 9 (by decide) hf_36 (fun _ h9 => h9) rfl dX5_bound_12 ?_
    refine lv_iload_n hx hb dX5_bound_15 rfl (lv_at hl 2 rfl) ?_
    refine am_lald hx hb hK hP 9 1 rfl rfl k rfl (by omega) (by decide) dX5_bound_16 ?_
    refine lv_lconst (v := 0) hx hb dX5_bound_17 (by decide) ?_
    refine W.lcmp hx hb dX5_bound_18 ?_
    refine lv_if_le (tgt := 51) hx hb dX5_bound_19 (by decide) (fun c_19 => ?_) (fun c_19 => ?_)
    · skip
      have c_19 : ((al 9) k) ≤ 0 := (lg_cmp_le _ _).mp c_19
      refine lv_lconst (v := 0) hx hb dX5_bound_51 (by decide) ?_
      refine lv_ladd hx hb dX5_bound_52 ?_
      refine lv_lstore_n (lv' := [(1, .long ((rc_bd1 (al 9) (ai 10) (ai 11) k) + 0)), (0, .ref (ad 0)), (3, .int (nI k))]) hx hb dX5_bound_53 rfl hl (by decide) rfl (fun ls hl => ?_)
      refine lv_iinc (v := nI (k + 1)) (lv' := [(3, .int (nI (k + 1))), (1, .long ((rc_bd1 (al 9) (ai 10) (ai 11) k) + 0)), (0, .ref (ad 0))]) hx hb dX5_bound_54 hl (k := 2) rfl (nI_1 k) (by decide) rfl (fun ls hl => ?_)
      refine lv_goto (tgt := 4) hx hb dX5_bound_57 (by decide) ?_
      have e_4_0 : rc_bd1 (al 9) (ai 10) (ai 11) (k + 1) = (rc_bd1 (al 9) (ai 10) (ai 11) k) + 0 := by first | rfl | (simp only [rc_bd1, c_7, c_19, if_true, if_false, eq_self, not_true_eq_false, not_false_eq_true, ite_true, ite_false, ↓reduceIte]; done) | (simp [rc_bd1, c_7, c_19]; done)
      refine ih_4 (k + 1) (12 - (k + 1)) ls (by omega) ⟨rfl, (by omega), ?_⟩
      try dsimp only
      rw [e_4_0]
      exact lv_sub hl [2, 1, 0] rfl
    · skip
      have c_19 : ¬ (((al 9) k) ≤ 0) := (fun z => c_19 ((lg_cmp_le _ _).mpr z))
      refine lv_ldc2 (v := 27720) hx hb hown (ht 571 _ rfl) dX5_bound_22 ?_
      refine lv_aload_n hx hb dX5_bound_25 rfl (lv_at hl 0 rfl) ?_
      refine va_get (D := D) (ci := 5) (v := .ref (ad 9)) (C := RX5) (T := TX5) (N := 31) hx hb hts hin_X5 hown hK hP 0 rfl rfl 9 (by decide) hf_36 (fun _ h9 => h9) rfl dX5_bound_26 ?_
      refine lv_iload_n hx hb dX5_bound_29 rfl (lv_at hl 2 rfl) ?_
      refine am_lald hx hb hK hP 9 1 rfl rfl k rfl (by omega) (by decide) dX5_bound_30 ?_
      refine lv_lmul hx hb dX5_bound_31 ?_
      refine lv_aload_n hx hb dX5_bound_32 rfl (lv_at hl 0 rfl) ?_
      refine va_get (D := D) (ci := 5) (v := .ref (ad 11)) (C := RX5) (T := TX5) (N := 31) hx hb hts hin_X5 hown hK hP 0 rfl rfl 11 (by decide) hf_42 (fun _ h9 => h9) rfl dX5_bound_33 ?_
      refine lv_iload_n hx hb dX5_bound_36 rfl (lv_at hl 2 rfl) ?_
      refine am_iald hx hb hK hP 11 0 rfl rfl k rfl (by omega) (by decide) dX5_bound_37 ?_
      refine lv_i2l (v := ((ai 11) k).toInt64) hx hb dX5_bound_38 rfl ?_
      refine lv_ldiv hx hb dX5_bound_39 (hbe k (by omega)) ?_
      refine lv_aload_n hx hb dX5_bound_40 rfl (lv_at hl 0 rfl) ?_
      refine va_get (D := D) (ci := 5) (v := .ref (ad 10)) (C := RX5) (T := TX5) (N := 31) hx hb hts hin_X5 hown hK hP 0 rfl rfl 10 (by decide) hf_39 (fun _ h9 => h9) rfl dX5_bound_41 ?_
      refine lv_iload_n hx hb dX5_bound_44 rfl (lv_at hl 2 rfl) ?_
      refine am_iald hx hb hK hP 10 0 rfl rfl k rfl (by omega) (by decide) dX5_bound_45 ?_
      refine lv_i2l (v := ((ai 10) k).toInt64) hx hb dX5_bound_46 rfl ?_
      refine lv_lmul hx hb dX5_bound_47 ?_
      refine lv_goto (tgt := 52) hx hb dX5_bound_48 (by decide) ?_
      refine lv_ladd hx hb dX5_bound_52 ?_
      refine lv_lstore_n (lv' := [(1, .long ((rc_bd1 (al 9) (ai 10) (ai 11) k) + (((27720 * ((al 9) k)) / (((ai 11) k).toInt64)) * (((ai 10) k).toInt64)))), (0, .ref (ad 0)), (3, .int (nI k))]) hx hb dX5_bound_53 rfl hl (by decide) rfl (fun ls hl => ?_)
      refine lv_iinc (v := nI (k + 1)) (lv' := [(3, .int (nI (k + 1))), (1, .long ((rc_bd1 (al 9) (ai 10) (ai 11) k) + (((27720 * ((al 9) k)) / (((ai 11) k).toInt64)) * (((ai 10) k).toInt64)))), (0, .ref (ad 0))]) hx hb dX5_bound_54 hl (k := 2) rfl (nI_1 k) (by decide) rfl (fun ls hl => ?_)
      refine lv_goto (tgt := 4) hx hb dX5_bound_57 (by decide) ?_
      have e_4_0 : rc_bd1 (al 9) (ai 10) (ai 11) (k + 1) = (rc_bd1 (al 9) (ai 10) (ai 11) k) + (((27720 * ((al 9) k)) / (((ai 11) k).toInt64)) * (((ai 10) k).toInt64)) := by first | rfl | (simp only [rc_bd1, c_7, c_19, if_true, if_false, eq_self, not_true_eq_false, not_false_eq_true, ite_true, ite_false, ↓reduceIte]; done) | (simp [rc_bd1, c_7, c_19]; done)
      refine ih_4 (k + 1) (12 - (k + 1)) ls (by omega) ⟨rfl, (by omega), ?_⟩
      try dsimp only
      rw [e_4_0]
      exact lv_sub hl [2, 1, 0] rfl

set_option maxHeartbeats 4000000 in
set_option maxRecDepth 100000 in
theorem c_X5_station (l : Launch) (D : va_G) (ad : Nat → Nat) (cI cL cZ : ClassId) (fi : Nat → Int32) (fl : Nat → Int64) (ai : Nat → Nat → Int32) (al : Nat → Nat → Int64) (x : Int32) : Met l yX5_station wsX5_station (am_rm 0 0) (va_Pc [.ref (ad 0), .int x] (am_R nwL vwCl D (rm_w ad cI cL cZ fi fl ai al) [(cI, .int), (cL, .long), (cZ, .boolean)])) (vp_Si (fun r => r = if (fi 6) = 0 then -1 else ac_stn (ai 16) x)) 0 0 am_No := by
  refine am_startR (cc := cX5_station) (maxL := 2) (ret := (some .int)) (by decide) rfl (Nat.le_of_ble_eq_true rfl) [(0, .ref (ad 0)), (1, .int x)] rfl ?_
  intro p e s m below meth c ls hx hb hr hml hown hts hlocks hP hK hN hl
  have hown : s.vm.findClass RX5 = some m.cls := hown
  have ht := am_ht hts
  have hin_X5 : ∀ w ∈ u_ws RX5 TX5 31, w ∈ wsX5_station := fun w h => List.mem_cons_of_mem _ (am_inX5 w h)
  have hf_196 := ht 453 (.fieldLink RX5 196 "ApartCostModel" "isShared" "Z") rfl
  have hf_61 := ht 452 (.fieldLink RX5 61 "ApartCostModel" "places" "[I") rfl
  refine lv_aload_n hx hb dX5_station_0 rfl (lv_at hl 0 rfl) ?_
  refine va_get (D := D) (ci := 5) (v := .int (fi 6)) (C := RX5) (T := TX5) (N := 31) hx hb hts hin_X5 hown hK hP 0 rfl rfl 23 (by decide) hf_196 (fun _ h9 => h9) rfl dX5_station_1 ?_
  refine lv_if_eq (tgt := 26) hx hb dX5_station_4 (by decide) (fun c_4 => ?_) (fun c_4 => ?_)
  · skip
    have c_4 : (fi 6) = 0 := c_4
    refine lv_iconst (v := (-1)) hx hb dX5_station_26 (by decide) ?_
    exact am_iretR hx hb hr hlocks (by simp only [ac_stn, c_4, if_true, if_false, ↓reduceIte]) dX5_station_27
  · skip
    have c_4 : ¬ ((fi 6) = 0) := c_4
    refine lv_iload_n hx hb dX5_station_7 rfl (lv_at hl 1 rfl) ?_
    refine lv_if_lt (tgt := 26) hx hb dX5_station_8 (by decide) (fun c_8 => ?_) (fun c_8 => ?_)
    · skip
      have c_8 : x < 0 := c_8
      refine lv_iconst (v := (-1)) hx hb dX5_station_26 (by decide) ?_
      exact am_iretR hx hb hr hlocks (by simp only [ac_stn, c_4, c_8, if_true, if_false, ↓reduceIte]) dX5_station_27
    · skip
      have c_8 : ¬ (x < 0) := c_8
      refine lv_iload_n hx hb dX5_station_11 rfl (lv_at hl 1 rfl) ?_
      refine lv_bipush (v := 10) hx hb dX5_station_12 (by decide) ?_
      refine lv_icmp_ge (tgt := 26) hx hb dX5_station_14 (by decide) (fun c_14 => ?_) (fun c_14 => ?_)
      · skip
        have c_14 : 10 ≤ x := c_14
        refine lv_iconst (v := (-1)) hx hb dX5_station_26 (by decide) ?_
        exact am_iretR hx hb hr hlocks (by simp only [ac_stn, c_4, c_8, c_14, if_true, if_false, ↓reduceIte]) dX5_station_27
      · skip
        have c_14 : ¬ (10 ≤ x) := c_14
        obtain ⟨a, hq_a, ea⟩ : ∃ z, z < 10 ∧ x = nI z := am_rng (rfl : (10 : Int32) = nI 10) (by decide) c_8 c_14
        have nn_a : x.toNatClampNeg = a := by rw [ea]; exact nI_clamp (by omega)
        have mm_a : (nI a).toNatClampNeg = a := nI_clamp (by omega)
        refine lv_aload_n hx hb dX5_station_17 rfl (lv_at hl 0 rfl) ?_
        refine va_get (D := D) (ci := 5) (v := .ref (ad 16)) (C := RX5) (T := TX5) (N := 31) hx hb hts hin_X5 hown hK hP 0 rfl rfl 22 (by decide) hf_61 (fun _ h9 => h9) rfl dX5_station_18 ?_
        refine lv_iload_n hx hb dX5_station_21 rfl (lv_at hl 1 rfl) ?_
        refine am_iald hx hb hK hP 16 0 rfl rfl a ea (by omega) (by decide) dX5_station_22 ?_
        refine lv_goto (tgt := 27) hx hb dX5_station_23 (by decide) ?_
        exact am_iretR hx hb hr hlocks (by simp only [ac_stn, c_4, c_8, c_14, nn_a, if_true, if_false, ↓reduceIte]) dX5_station_27

