set_option maxHeartbeats 4000000 in
set_option maxRecDepth 100000 in
theorem c_X5_sure (l : Launch) (D : va_G) (ad : Nat → Nat) (cI cL cZ : ClassId) (fi : Nat → Int32) (fl : Nat → Int64) (ai : Nat → Nat → Int32) (al : Nat → Nat → Int64) (A : Nat → Prop) (x : Int32) (u : Int64) (v : Int64) : Met l yX5_sure wsX5_sure (am_rm 1 20) (va_Pc [.ref (ad 0), .int x, .long u, .long v] (am_M nwL vwCl D A (rm_w ad cI cL cZ fi fl ai al) [(cI, .int), (cL, .long), (cZ, .boolean)])) (am_Mi vwCl D (if ac_surOk x u v then 1 else 0) (rm_w ad cI cL cZ (upd fi 3 (if ac_surOk x u v then 0 else (fi 3))) fl (va_up (va_up ai 10 (if ac_surOk x u v then upd (ai 10) x.toNatClampNeg u.toInt32 else (ai 10))) 11 (if ac_surOk x u v then upd (ai 11) x.toNatClampNeg v.toInt32 else (ai 11))) al) A) 0 0 A := by
  refine am_startM (cc := cX5_sure) (maxL := 6) (ret := (some .boolean)) (by decide) rfl (Nat.le_of_ble_eq_true rfl) [(0, .ref (ad 0)), (1, .int x), (2, .long u), (4, .long v)] rfl ?_
  intro p e s m below meth c ls hx hb hr hml hown hts hlocks hK hN hD H locs hP hS hl
  have hown : s.vm.findClass RX5 = some m.cls := hown
  have ht := am_ht hts
  have hin_X5 : ∀ w ∈ u_ws RX5 TX5 31, w ∈ wsX5_sure := fun w h => List.mem_cons_of_mem _ (am_inX5 w h)
  have hf_39 := ht 440 (.fieldLink RX5 39 "ApartCostModel" "above" "[I") rfl
  have hf_42 := ht 441 (.fieldLink RX5 42 "ApartCostModel" "below" "[I") rfl
  have hf_97 := ht 449 (.fieldLink RX5 97 "ApartCostModel" "isFresh" "Z") rfl
  refine lv_iload_n hx hb dX5_sure_0 rfl (lv_at hl 1 rfl) ?_
  refine am_callRi (W.runS (As := [.int x]) (rest := []) ⟨hx, hb, hml, hown, hts⟩ (c_X5_isPart l D _ _ x) (va_cwS 1 hts (am_gS (am_in 526 rfl) (am_in 527 rfl) (am_in 35 rfl) (am_in 528 rfl)) rfl rfl rfl (by decide +kernel) ⟨Nat.le_of_ble_eq_true rfl, Nat.le_of_ble_eq_true rfl⟩) (am_preSR hP hK hN) rfl rfl hl.1 rfl (lv_room (Nat.le_of_ble_eq_true rfl)) dX5_sure_1 ⟨Nat.zero_le _, Nat.zero_le _⟩) ?_
  refine lv_if_eq (tgt := 36) hx hb dX5_sure_4 (by decide) (fun c_4 => ?_) (fun c_4 => ?_)
  · skip
    have c_4 : (ac_isPart x) = 0 := c_4
    refine lv_iconst (v := 0) hx hb dX5_sure_36 (by decide) ?_
    have hok : ¬ (ac_surOk x u v) := by first | rfl | (simp only [ac_surOk, c_4, if_true, if_false, eq_self, not_true_eq_false, not_false_eq_true, ite_true, ite_false, ↓reduceIte]; done) | (simp [ac_surOk, c_4]; done)
    exact am_zretM hx hb hr hlocks (Or.inl rfl) (by simp only [if_neg hok]; exact hP) hS (by rw [if_neg hok]; first | done | rfl) dX5_sure_37
  · skip
    have c_4 : ¬ ((ac_isPart x) = 0) := c_4
    obtain ⟨a, hq_a, ea⟩ : ∃ z, z < 12 ∧ x = nI z := am_isPart c_4
    have nn_a : x.toNatClampNeg = a := by rw [ea]; exact nI_clamp (by omega)
    have mm_a : (nI a).toNatClampNeg = a := nI_clamp (by omega)
    refine lv_lload hx hb dX5_sure_7 (lv_at hl 3 rfl) ?_
    refine lv_lconst (v := 1) hx hb dX5_sure_9 (by decide) ?_
    refine W.lcmp hx hb dX5_sure_10 ?_
    refine lv_if_lt (tgt := 36) hx hb dX5_sure_11 (by decide) (fun c_11 => ?_) (fun c_11 => ?_)
    · skip
      have c_11 : v < 1 := (lg_cmp_lt _ _).mp c_11
      refine lv_iconst (v := 0) hx hb dX5_sure_36 (by decide) ?_
      have hok : ¬ (ac_surOk x u v) := by first | rfl | (simp only [ac_surOk, c_4, c_11, nn_a, if_true, if_false, eq_self, not_true_eq_false, not_false_eq_true, ite_true, ite_false, ↓reduceIte]; done) | (simp [ac_surOk, c_4, c_11, nn_a]; done)
      exact am_zretM hx hb hr hlocks (Or.inl rfl) (by simp only [if_neg hok]; exact hP) hS (by rw [if_neg hok]; first | done | rfl) dX5_sure_37
    · skip
      have c_11 : ¬ (v < 1) := (fun z => c_11 ((lg_cmp_lt _ _).mpr z))
      refine lv_lload hx hb dX5_sure_14 (lv_at hl 3 rfl) ?_
      refine lv_ldc2 (v := 12) hx hb hown (ht 546 _ rfl) dX5_sure_16 ?_
      refine W.lcmp hx hb dX5_sure_19 ?_
      refine lv_if_gt (tgt := 36) hx hb dX5_sure_20 (by decide) (fun c_20 => ?_) (fun c_20 => ?_)
      · skip
        have c_20 : 12 < v := (lg_cmp_gt _ _).mp c_20
        refine lv_iconst (v := 0) hx hb dX5_sure_36 (by decide) ?_
        have hok : ¬ (ac_surOk x u v) := by first | rfl | (simp only [ac_surOk, c_4, c_11, c_20, nn_a, if_true, if_false, eq_self, not_true_eq_false, not_false_eq_true, ite_true, ite_false, ↓reduceIte]; done) | (simp [ac_surOk, c_4, c_11, c_20, nn_a]; done)
        exact am_zretM hx hb hr hlocks (Or.inl rfl) (by simp only [if_neg hok]; exact hP) hS (by rw [if_neg hok]; first | done | rfl) dX5_sure_37
      · skip
        have c_20 : ¬ (12 < v) := (fun z => c_20 ((lg_cmp_gt _ _).mpr z))
        refine lv_lload_n hx hb dX5_sure_23 rfl (lv_at hl 2 rfl) ?_
        refine lv_lconst (v := 0) hx hb dX5_sure_24 (by decide) ?_
        refine W.lcmp hx hb dX5_sure_25 ?_
        refine lv_if_lt (tgt := 36) hx hb dX5_sure_26 (by decide) (fun c_26 => ?_) (fun c_26 => ?_)
        · skip
          have c_26 : u < 0 := (lg_cmp_lt _ _).mp c_26
          refine lv_iconst (v := 0) hx hb dX5_sure_36 (by decide) ?_
          have hok : ¬ (ac_surOk x u v) := by first | rfl | (simp only [ac_surOk, c_4, c_11, c_20, c_26, nn_a, if_true, if_false, eq_self, not_true_eq_false, not_false_eq_true, ite_true, ite_false, ↓reduceIte]; done) | (simp [ac_surOk, c_4, c_11, c_20, c_26, nn_a]; done)
          exact am_zretM hx hb hr hlocks (Or.inl rfl) (by simp only [if_neg hok]; exact hP) hS (by rw [if_neg hok]; first | done | rfl) dX5_sure_37
        · skip
          have c_26 : ¬ (u < 0) := (fun z => c_26 ((lg_cmp_lt _ _).mpr z))
          refine lv_lload_n hx hb dX5_sure_29 rfl (lv_at hl 2 rfl) ?_
          refine lv_lload hx hb dX5_sure_30 (lv_at hl 3 rfl) ?_
          refine W.lcmp hx hb dX5_sure_32 ?_
          refine lv_if_le (tgt := 38) hx hb dX5_sure_33 (by decide) (fun c_33 => ?_) (fun c_33 => ?_)
          · skip
            have c_33 : u ≤ v := (lg_cmp_le _ _).mp c_33
            refine lv_aload_n hx hb dX5_sure_38 rfl (lv_at hl 0 rfl) ?_
            refine va_get (D := D) (ci := 5) (v := .ref (ad 10)) (C := RX5) (T := TX5) (N := 31) hx hb hts hin_X5 hown hK hP 0 rfl rfl 10 (by decide) hf_39 (fun _ h9 => h9) rfl dX5_sure_39 ?_
            refine lv_iload_n hx hb dX5_sure_42 rfl (lv_at hl 1 rfl) ?_
            refine lv_lload_n hx hb dX5_sure_43 rfl (lv_at hl 2 rfl) ?_
            refine lv_l2i (v := u.toInt32) hx hb dX5_sure_44 rfl ?_
            refine lv_topi (fun w10 ew10 => ?_)
            refine am_iast hx hb hK hP hD hS 10 0 rfl rfl a ea (by omega) (by decide) (rm_w ad cI cL cZ fi fl (va_up ai 10 (upd (ai 10) a w10)) al) rfl dX5_sure_45 (fun H locs hP hD hS => ?_)
            refine lv_aload_n hx hb dX5_sure_46 rfl (lv_at hl 0 rfl) ?_
            refine va_get (D := D) (ci := 5) (v := .ref (ad 11)) (C := RX5) (T := TX5) (N := 31) hx hb hts hin_X5 hown hK hP 0 rfl rfl 11 (by decide) hf_42 (fun _ h9 => h9) rfl dX5_sure_47 ?_
            refine lv_iload_n hx hb dX5_sure_50 rfl (lv_at hl 1 rfl) ?_
            refine lv_lload hx hb dX5_sure_51 (lv_at hl 3 rfl) ?_
            refine lv_l2i (v := v.toInt32) hx hb dX5_sure_53 rfl ?_
            refine lv_topi (fun w11 ew11 => ?_)
            refine am_iast hx hb hK hP hD hS 11 0 rfl rfl a ea (by omega) (by decide) (rm_w ad cI cL cZ fi fl (va_up (va_up ai 10 (upd (ai 10) a w10)) 11 (upd (ai 11) a w11)) al) rfl dX5_sure_54 (fun H locs hP hD hS => ?_)
            refine lv_aload_n hx hb dX5_sure_55 rfl (lv_at hl 0 rfl) ?_
            refine lv_iconst (v := 0) hx hb dX5_sure_56 (by decide) ?_
            refine va_put (D := D) (ci := 5) (v := .int 0) (ty := .boolean) (C := RX5) (T := TX5) (N := 31) hx hb hts hin_X5 tyX5 tyX5_ok nmX5 hown hK hP hD hS 0 rfl rfl 19 (by decide) hf_97 (fun _ h9 => h9) rfl (by decide +kernel) rfl rfl (Nat.le_of_ble_eq_true rfl) dX5_sure_57 (fun H locs hP hD hS => ?_)
            have hP : va_P D vwCl (rm_w ad cI cL cZ (upd fi 3 0) fl (va_up (va_up ai 10 (upd (ai 10) a w10)) 11 (upd (ai 11) a w11)) al) H := hP
            have hD : va_D A (rm_w ad cI cL cZ (upd fi 3 0) fl (va_up (va_up ai 10 (upd (ai 10) a w10)) 11 (upd (ai 11) a w11)) al) := am_D hD rfl
            refine lv_iconst (v := 1) hx hb dX5_sure_60 (by decide) ?_
            have hok : ac_surOk x u v := by first | rfl | (simp only [ac_surOk, c_4, c_11, c_20, c_26, c_33, nn_a, if_true, if_false, eq_self, not_true_eq_false, not_false_eq_true, ite_true, ite_false, ↓reduceIte]; done) | (simp [ac_surOk, c_4, c_11, c_20, c_26, c_33, nn_a]; done)
            exact am_zretM hx hb hr hlocks (Or.inr rfl) (by simp only [if_pos hok, nn_a, ← ew10, ← ew11]; exact hP) hS (by rw [if_pos hok]; first | done | rfl) dX5_sure_61
          · skip
            have c_33 : ¬ (u ≤ v) := (fun z => c_33 ((lg_cmp_le _ _).mpr z))
            refine lv_iconst (v := 0) hx hb dX5_sure_36 (by decide) ?_
            have hok : ¬ (ac_surOk x u v) := by first | rfl | (simp only [ac_surOk, c_4, c_11, c_20, c_26, c_33, nn_a, if_true, if_false, eq_self, not_true_eq_false, not_false_eq_true, ite_true, ite_false, ↓reduceIte]; done) | (simp [ac_surOk, c_4, c_11, c_20, c_26, c_33, nn_a]; done)
            exact am_zretM hx hb hr hlocks (Or.inl rfl) (by simp only [if_neg hok]; exact hP) hS (by rw [if_neg hok]; first | done | rfl) dX5_sure_37

