set_option maxHeartbeats 4000000 in
set_option maxRecDepth 100000 in
theorem c_X5_stepCost (l : Launch) (D : va_G) (ad : Nat → Nat) (cI cL cZ : ClassId) (fi : Nat → Int32) (fl : Nat → Int64) (ai : Nat → Nat → Int32) (al : Nat → Nat → Int64) (j : Nat) (b : Nat) (na : Nat) (hna : fi 0 = nI na) (hnl : na ≤ 10) (hto : ∀ a, a < na → ∃ t, t < 6 ∧ (ai 2) a = nI t) (hsi : ∀ a, a < na → ∃ t, t < 6 ∧ (ai 3) a = nI t) (hj : j ≤ na) (hb2 : b < na) : Met l yX5_stepCost wsX5_stepCost (am_rm 0 0) (va_Pc [.ref (ad 0), .int (ac_la j), .int (nI b)] (am_R nwL vwCl D (rm_w ad cI cL cZ fi fl ai al) [(cI, .int), (cL, .long), (cZ, .boolean)])) (vp_Sl (fun r => r = (rc_step (ai 2) (ai 3) (al 4) (al 7) (al 8)) j b)) 0 0 am_No := by
  refine am_startR (cc := cX5_stepCost) (maxL := 5) (ret := (some .long)) (by decide) rfl (Nat.le_of_ble_eq_true rfl) [(0, .ref (ad 0)), (1, .int (ac_la j)), (2, .int (nI b))] rfl ?_
  intro p e s m below meth c ls hx hb hr hml hown hts hlocks hP hK hN hl
  have hown : s.vm.findClass RX5 = some m.cls := hown
  have ht := am_ht hts
  have hin_X5 : ∀ w ∈ u_ws RX5 TX5 31, w ∈ wsX5_stepCost := fun w h => List.mem_cons_of_mem _ (am_inX5 w h)
  have hf_13 := ht 432 (.fieldLink RX5 13 "ApartCostModel" "tools" "[I") rfl
  have hf_16 := ht 433 (.fieldLink RX5 16 "ApartCostModel" "sides" "[I") rfl
  have hf_19 := ht 434 (.fieldLink RX5 19 "ApartCostModel" "costs" "[J") rfl
  have hf_30 := ht 437 (.fieldLink RX5 30 "ApartCostModel" "changes" "[J") rfl
  have hf_33 := ht 438 (.fieldLink RX5 33 "ApartCostModel" "turns" "[J") rfl
  refine lv_aload_n hx hb dX5_stepCost_0 rfl (lv_at hl 0 rfl) ?_
  refine va_get (D := D) (ci := 5) (v := .ref (ad 4)) (C := RX5) (T := TX5) (N := 31) hx hb hts hin_X5 hown hK hP 0 rfl rfl 4 (by decide) hf_19 (fun _ h9 => h9) rfl dX5_stepCost_1 ?_
  refine lv_iload_n hx hb dX5_stepCost_4 rfl (lv_at hl 2 rfl) ?_
  refine am_lald hx hb hK hP 4 1 rfl rfl b rfl (by omega) (by decide) dX5_stepCost_5 ?_
  refine lv_lstore_n (lv' := [(3, .long ((al 4) b)), (0, .ref (ad 0)), (1, .int (ac_la j)), (2, .int (nI b))]) hx hb dX5_stepCost_6 rfl hl (by decide) rfl (fun ls hl => ?_)
  refine lv_iload_n hx hb dX5_stepCost_7 rfl (lv_at hl 2 rfl) ?_
  refine lv_if_lt (tgt := 97) hx hb dX5_stepCost_8 (by decide) (fun c_8 => ?_) (fun c_8 => ?_)
  · skip
    have c_8 : (ac_la j) < 0 := c_8
    obtain rfl : j = 0 := (ac_la_lt (by omega)).mp c_8
    have hl : lv_has ls 5 [(3, .long ((al 4) b)), (0, .ref (ad 0)), (1, .int (-1)), (2, .int (nI b))] := hl
    refine lv_ldc2 (v := 27720) hx hb hown (ht 571 _ rfl) dX5_stepCost_97 ?_
    refine lv_lload_n hx hb dX5_stepCost_100 rfl (lv_at hl 0 rfl) ?_
    refine lv_lmul hx hb dX5_stepCost_101 ?_
    exact am_lretR hx hb hr hlocks (by first | rfl | (simp only [rc_step, c_8, if_true, if_false, eq_self, not_true_eq_false, not_false_eq_true, ite_true, ite_false, ↓reduceIte]; done) | (simp [rc_step, c_8]; done)) dX5_stepCost_102
  · skip
    have c_8 : ¬ ((ac_la j) < 0) := c_8
    obtain ⟨a, rfl⟩ : ∃ z, j = z + 1 := by cases j with | zero => exact absurd (by decide +kernel) c_8 | succ z => exact ⟨z, rfl⟩
    have hl : lv_has ls 5 [(3, .long ((al 4) b)), (0, .ref (ad 0)), (1, .int (nI a)), (2, .int (nI b))] := hl
    refine lv_lload_n hx hb dX5_stepCost_11 rfl (lv_at hl 0 rfl) ?_
    refine lv_aload_n hx hb dX5_stepCost_12 rfl (lv_at hl 1 rfl) ?_
    refine va_get (D := D) (ci := 5) (v := .ref (ad 2)) (C := RX5) (T := TX5) (N := 31) hx hb hts hin_X5 hown hK hP 0 rfl rfl 2 (by decide) hf_13 (fun _ h9 => h9) rfl dX5_stepCost_13 ?_
    refine lv_iload_n hx hb dX5_stepCost_16 rfl (lv_at hl 2 rfl) ?_
    refine am_iald hx hb hK hP 2 0 rfl rfl a rfl (by omega) (by decide) dX5_stepCost_17 ?_
    refine lv_aload_n hx hb dX5_stepCost_18 rfl (lv_at hl 1 rfl) ?_
    refine va_get (D := D) (ci := 5) (v := .ref (ad 2)) (C := RX5) (T := TX5) (N := 31) hx hb hts hin_X5 hown hK hP 0 rfl rfl 2 (by decide) hf_13 (fun _ h9 => h9) rfl dX5_stepCost_19 ?_
    refine lv_iload_n hx hb dX5_stepCost_22 rfl (lv_at hl 3 rfl) ?_
    refine am_iald hx hb hK hP 2 0 rfl rfl b rfl (by omega) (by decide) dX5_stepCost_23 ?_
    refine lv_icmp_ne (tgt := 31) hx hb dX5_stepCost_24 (by decide) (fun c_24 => ?_) (fun c_24 => ?_)
    · skip
      have c_24 : ¬ ((ai 2) a) = ((ai 2) b) := c_24
      refine lv_aload_n hx hb dX5_stepCost_31 rfl (lv_at hl 1 rfl) ?_
      refine va_get (D := D) (ci := 5) (v := .ref (ad 7)) (C := RX5) (T := TX5) (N := 31) hx hb hts hin_X5 hown hK hP 0 rfl rfl 7 (by decide) hf_30 (fun _ h9 => h9) rfl dX5_stepCost_32 ?_
      refine lv_bipush (v := 6) hx hb dX5_stepCost_35 (by decide) ?_
      refine lv_aload_n hx hb dX5_stepCost_37 rfl (lv_at hl 1 rfl) ?_
      refine va_get (D := D) (ci := 5) (v := .ref (ad 2)) (C := RX5) (T := TX5) (N := 31) hx hb hts hin_X5 hown hK hP 0 rfl rfl 2 (by decide) hf_13 (fun _ h9 => h9) rfl dX5_stepCost_38 ?_
      refine lv_iload_n hx hb dX5_stepCost_41 rfl (lv_at hl 2 rfl) ?_
      refine am_iald hx hb hK hP 2 0 rfl rfl a rfl (by omega) (by decide) dX5_stepCost_42 ?_
      refine lv_imul hx hb dX5_stepCost_43 ?_
      refine lv_aload_n hx hb dX5_stepCost_44 rfl (lv_at hl 1 rfl) ?_
      refine va_get (D := D) (ci := 5) (v := .ref (ad 2)) (C := RX5) (T := TX5) (N := 31) hx hb hts hin_X5 hown hK hP 0 rfl rfl 2 (by decide) hf_13 (fun _ h9 => h9) rfl dX5_stepCost_45 ?_
      refine lv_iload_n hx hb dX5_stepCost_48 rfl (lv_at hl 3 rfl) ?_
      refine am_iald hx hb hK hP 2 0 rfl rfl b rfl (by omega) (by decide) dX5_stepCost_49 ?_
      refine lv_iadd hx hb dX5_stepCost_50 ?_
      refine am_lald hx hb hK hP 7 1 rfl rfl ((6 * (ai 2) a + (ai 2) b).toNatClampNeg) (am_jx6 (hto a (by omega)) (hto b (by omega))).1 (am_jx6 (hto a (by omega)) (hto b (by omega))).2 (by decide) dX5_stepCost_51 ?_
      refine lv_ladd hx hb dX5_stepCost_52 ?_
      refine lv_lstore_n (lv' := [(3, .long (((al 4) b) + ((al 7) ((6 * (ai 2) a + (ai 2) b).toNatClampNeg)))), (0, .ref (ad 0)), (1, .int (nI a)), (2, .int (nI b))]) hx hb dX5_stepCost_53 rfl hl (by decide) rfl (fun ls hl => ?_)
      refine lv_lload_n hx hb dX5_stepCost_54 rfl (lv_at hl 0 rfl) ?_
      refine lv_aload_n hx hb dX5_stepCost_55 rfl (lv_at hl 1 rfl) ?_
      refine va_get (D := D) (ci := 5) (v := .ref (ad 3)) (C := RX5) (T := TX5) (N := 31) hx hb hts hin_X5 hown hK hP 0 rfl rfl 3 (by decide) hf_16 (fun _ h9 => h9) rfl dX5_stepCost_56 ?_
      refine lv_iload_n hx hb dX5_stepCost_59 rfl (lv_at hl 2 rfl) ?_
      refine am_iald hx hb hK hP 3 0 rfl rfl a rfl (by omega) (by decide) dX5_stepCost_60 ?_
      refine lv_aload_n hx hb dX5_stepCost_61 rfl (lv_at hl 1 rfl) ?_
      refine va_get (D := D) (ci := 5) (v := .ref (ad 3)) (C := RX5) (T := TX5) (N := 31) hx hb hts hin_X5 hown hK hP 0 rfl rfl 3 (by decide) hf_16 (fun _ h9 => h9) rfl dX5_stepCost_62 ?_
      refine lv_iload_n hx hb dX5_stepCost_65 rfl (lv_at hl 3 rfl) ?_
      refine am_iald hx hb hK hP 3 0 rfl rfl b rfl (by omega) (by decide) dX5_stepCost_66 ?_
      refine lv_icmp_ne (tgt := 74) hx hb dX5_stepCost_67 (by decide) (fun c_67 => ?_) (fun c_67 => ?_)
      · skip
        have c_67 : ¬ ((ai 3) a) = ((ai 3) b) := c_67
        refine lv_aload_n hx hb dX5_stepCost_74 rfl (lv_at hl 1 rfl) ?_
        refine va_get (D := D) (ci := 5) (v := .ref (ad 8)) (C := RX5) (T := TX5) (N := 31) hx hb hts hin_X5 hown hK hP 0 rfl rfl 8 (by decide) hf_33 (fun _ h9 => h9) rfl dX5_stepCost_75 ?_
        refine lv_bipush (v := 6) hx hb dX5_stepCost_78 (by decide) ?_
        refine lv_aload_n hx hb dX5_stepCost_80 rfl (lv_at hl 1 rfl) ?_
        refine va_get (D := D) (ci := 5) (v := .ref (ad 3)) (C := RX5) (T := TX5) (N := 31) hx hb hts hin_X5 hown hK hP 0 rfl rfl 3 (by decide) hf_16 (fun _ h9 => h9) rfl dX5_stepCost_81 ?_
        refine lv_iload_n hx hb dX5_stepCost_84 rfl (lv_at hl 2 rfl) ?_
        refine am_iald hx hb hK hP 3 0 rfl rfl a rfl (by omega) (by decide) dX5_stepCost_85 ?_
        refine lv_imul hx hb dX5_stepCost_86 ?_
        refine lv_aload_n hx hb dX5_stepCost_87 rfl (lv_at hl 1 rfl) ?_
        refine va_get (D := D) (ci := 5) (v := .ref (ad 3)) (C := RX5) (T := TX5) (N := 31) hx hb hts hin_X5 hown hK hP 0 rfl rfl 3 (by decide) hf_16 (fun _ h9 => h9) rfl dX5_stepCost_88 ?_
        refine lv_iload_n hx hb dX5_stepCost_91 rfl (lv_at hl 3 rfl) ?_
        refine am_iald hx hb hK hP 3 0 rfl rfl b rfl (by omega) (by decide) dX5_stepCost_92 ?_
        refine lv_iadd hx hb dX5_stepCost_93 ?_
        refine am_lald hx hb hK hP 8 1 rfl rfl ((6 * (ai 3) a + (ai 3) b).toNatClampNeg) (am_jx6 (hsi a (by omega)) (hsi b (by omega))).1 (am_jx6 (hsi a (by omega)) (hsi b (by omega))).2 (by decide) dX5_stepCost_94 ?_
        refine lv_ladd hx hb dX5_stepCost_95 ?_
        refine lv_lstore_n (lv' := [(3, .long ((((al 4) b) + ((al 7) ((6 * (ai 2) a + (ai 2) b).toNatClampNeg))) + ((al 8) ((6 * (ai 3) a + (ai 3) b).toNatClampNeg)))), (0, .ref (ad 0)), (1, .int (nI a)), (2, .int (nI b))]) hx hb dX5_stepCost_96 rfl hl (by decide) rfl (fun ls hl => ?_)
        refine lv_ldc2 (v := 27720) hx hb hown (ht 571 _ rfl) dX5_stepCost_97 ?_
        refine lv_lload_n hx hb dX5_stepCost_100 rfl (lv_at hl 0 rfl) ?_
        refine lv_lmul hx hb dX5_stepCost_101 ?_
        exact am_lretR hx hb hr hlocks (by first | rfl | (simp only [rc_step, c_8, c_24, c_67, if_true, if_false, eq_self, not_true_eq_false, not_false_eq_true, ite_true, ite_false, ↓reduceIte]; done) | (simp [rc_step, c_8, c_24, c_67]; done)) dX5_stepCost_102
      · skip
        have c_67 : ((ai 3) a) = ((ai 3) b) := c_67
        refine lv_lconst (v := 0) hx hb dX5_stepCost_70 (by decide) ?_
        refine lv_goto (tgt := 95) hx hb dX5_stepCost_71 (by decide) ?_
        refine lv_ladd hx hb dX5_stepCost_95 ?_
        refine lv_lstore_n (lv' := [(3, .long ((((al 4) b) + ((al 7) ((6 * (ai 2) a + (ai 2) b).toNatClampNeg))) + 0)), (0, .ref (ad 0)), (1, .int (nI a)), (2, .int (nI b))]) hx hb dX5_stepCost_96 rfl hl (by decide) rfl (fun ls hl => ?_)
        refine lv_ldc2 (v := 27720) hx hb hown (ht 571 _ rfl) dX5_stepCost_97 ?_
        refine lv_lload_n hx hb dX5_stepCost_100 rfl (lv_at hl 0 rfl) ?_
        refine lv_lmul hx hb dX5_stepCost_101 ?_
        exact am_lretR hx hb hr hlocks (by first | rfl | (simp only [rc_step, c_8, c_24, c_67, if_true, if_false, eq_self, not_true_eq_false, not_false_eq_true, ite_true, ite_false, ↓reduceIte]; done) | (simp [rc_step, c_8, c_24, c_67]; done)) dX5_stepCost_102
    · skip
      have c_24 : ((ai 2) a) = ((ai 2) b) := c_24
      refine lv_lconst (v := 0) hx hb dX5_stepCost_27 (by decide) ?_
      refine lv_goto (tgt := 52) hx hb dX5_stepCost_28 (by decide) ?_
      refine lv_ladd hx hb dX5_stepCost_52 ?_
      refine lv_lstore_n (lv' := [(3, .long (((al 4) b) + 0)), (0, .ref (ad 0)), (1, .int (nI a)), (2, .int (nI b))]) hx hb dX5_stepCost_53 rfl hl (by decide) rfl (fun ls hl => ?_)
      refine lv_lload_n hx hb dX5_stepCost_54 rfl (lv_at hl 0 rfl) ?_
      refine lv_aload_n hx hb dX5_stepCost_55 rfl (lv_at hl 1 rfl) ?_
      refine va_get (D := D) (ci := 5) (v := .ref (ad 3)) (C := RX5) (T := TX5) (N := 31) hx hb hts hin_X5 hown hK hP 0 rfl rfl 3 (by decide) hf_16 (fun _ h9 => h9) rfl dX5_stepCost_56 ?_
      refine lv_iload_n hx hb dX5_stepCost_59 rfl (lv_at hl 2 rfl) ?_
      refine am_iald hx hb hK hP 3 0 rfl rfl a rfl (by omega) (by decide) dX5_stepCost_60 ?_
      refine lv_aload_n hx hb dX5_stepCost_61 rfl (lv_at hl 1 rfl) ?_
      refine va_get (D := D) (ci := 5) (v := .ref (ad 3)) (C := RX5) (T := TX5) (N := 31) hx hb hts hin_X5 hown hK hP 0 rfl rfl 3 (by decide) hf_16 (fun _ h9 => h9) rfl dX5_stepCost_62 ?_
      refine lv_iload_n hx hb dX5_stepCost_65 rfl (lv_at hl 3 rfl) ?_
      refine am_iald hx hb hK hP 3 0 rfl rfl b rfl (by omega) (by decide) dX5_stepCost_66 ?_
      refine lv_icmp_ne (tgt := 74) hx hb dX5_stepCost_67 (by decide) (fun c_67 => ?_) (fun c_67 => ?_)
      · skip
        have c_67 : ¬ ((ai 3) a) = ((ai 3) b) := c_67
        refine lv_aload_n hx hb dX5_stepCost_74 rfl (lv_at hl 1 rfl) ?_
        refine va_get (D := D) (ci := 5) (v := .ref (ad 8)) (C := RX5) (T := TX5) (N := 31) hx hb hts hin_X5 hown hK hP 0 rfl rfl 8 (by decide) hf_33 (fun _ h9 => h9) rfl dX5_stepCost_75 ?_
        refine lv_bipush (v := 6) hx hb dX5_stepCost_78 (by decide) ?_
        refine lv_aload_n hx hb dX5_stepCost_80 rfl (lv_at hl 1 rfl) ?_
        refine va_get (D := D) (ci := 5) (v := .ref (ad 3)) (C := RX5) (T := TX5) (N := 31) hx hb hts hin_X5 hown hK hP 0 rfl rfl 3 (by decide) hf_16 (fun _ h9 => h9) rfl dX5_stepCost_81 ?_
        refine lv_iload_n hx hb dX5_stepCost_84 rfl (lv_at hl 2 rfl) ?_
        refine am_iald hx hb hK hP 3 0 rfl rfl a rfl (by omega) (by decide) dX5_stepCost_85 ?_
        refine lv_imul hx hb dX5_stepCost_86 ?_
        refine lv_aload_n hx hb dX5_stepCost_87 rfl (lv_at hl 1 rfl) ?_
        refine va_get (D := D) (ci := 5) (v := .ref (ad 3)) (C := RX5) (T := TX5) (N := 31) hx hb hts hin_X5 hown hK hP 0 rfl rfl 3 (by decide) hf_16 (fun _ h9 => h9) rfl dX5_stepCost_88 ?_
        refine lv_iload_n hx hb dX5_stepCost_91 rfl (lv_at hl 3 rfl) ?_
        refine am_iald hx hb hK hP 3 0 rfl rfl b rfl (by omega) (by decide) dX5_stepCost_92 ?_
        refine lv_iadd hx hb dX5_stepCost_93 ?_
        refine am_lald hx hb hK hP 8 1 rfl rfl ((6 * (ai 3) a + (ai 3) b).toNatClampNeg) (am_jx6 (hsi a (by omega)) (hsi b (by omega))).1 (am_jx6 (hsi a (by omega)) (hsi b (by omega))).2 (by decide) dX5_stepCost_94 ?_
        refine lv_ladd hx hb dX5_stepCost_95 ?_
        refine lv_lstore_n (lv' := [(3, .long ((((al 4) b) + 0) + ((al 8) ((6 * (ai 3) a + (ai 3) b).toNatClampNeg)))), (0, .ref (ad 0)), (1, .int (nI a)), (2, .int (nI b))]) hx hb dX5_stepCost_96 rfl hl (by decide) rfl (fun ls hl => ?_)
        refine lv_ldc2 (v := 27720) hx hb hown (ht 571 _ rfl) dX5_stepCost_97 ?_
        refine lv_lload_n hx hb dX5_stepCost_100 rfl (lv_at hl 0 rfl) ?_
        refine lv_lmul hx hb dX5_stepCost_101 ?_
        exact am_lretR hx hb hr hlocks (by first | rfl | (simp only [rc_step, c_8, c_24, c_67, if_true, if_false, eq_self, not_true_eq_false, not_false_eq_true, ite_true, ite_false, ↓reduceIte]; done) | (simp [rc_step, c_8, c_24, c_67]; done)) dX5_stepCost_102
      · skip
        have c_67 : ((ai 3) a) = ((ai 3) b) := c_67
        refine lv_lconst (v := 0) hx hb dX5_stepCost_70 (by decide) ?_
        refine lv_goto (tgt := 95) hx hb dX5_stepCost_71 (by decide) ?_
        refine lv_ladd hx hb dX5_stepCost_95 ?_
        refine lv_lstore_n (lv' := [(3, .long ((((al 4) b) + 0) + 0)), (0, .ref (ad 0)), (1, .int (nI a)), (2, .int (nI b))]) hx hb dX5_stepCost_96 rfl hl (by decide) rfl (fun ls hl => ?_)
        refine lv_ldc2 (v := 27720) hx hb hown (ht 571 _ rfl) dX5_stepCost_97 ?_
        refine lv_lload_n hx hb dX5_stepCost_100 rfl (lv_at hl 0 rfl) ?_
        refine lv_lmul hx hb dX5_stepCost_101 ?_
        exact am_lretR hx hb hr hlocks (by first | rfl | (simp only [rc_step, c_8, c_24, c_67, if_true, if_false, eq_self, not_true_eq_false, not_false_eq_true, ite_true, ite_false, ↓reduceIte]; done) | (simp [rc_step, c_8, c_24, c_67]; done)) dX5_stepCost_102

set_option maxHeartbeats 4000000 in
set_option maxRecDepth 100000 in
theorem c_X5_canDo (l : Launch) (D : va_G) (ad : Nat → Nat) (cI cL cZ : ClassId) (fi : Nat → Int32) (fl : Nat → Int64) (ai : Nat → Nat → Int32) (al : Nat → Nat → Int64) (x : Int32) (b : Nat) (hb2 : b < 10) : Met l yX5_canDo wsX5_canDo (am_rm 1 21) (va_Pc [.ref (ad 0), .int x, .int (nI b)] (am_R nwL vwCl D (rm_w ad cI cL cZ fi fl ai al) [(cI, .int), (cL, .long), (cZ, .boolean)])) (vp_Si (fun r => r = rc_can (ai 17) x b)) 0 0 am_No := by
  refine am_startR (cc := cX5_canDo) (maxL := 3) (ret := (some .boolean)) (by decide) rfl (Nat.le_of_ble_eq_true rfl) [(0, .ref (ad 0)), (1, .int x), (2, .int (nI b))] rfl ?_
  intro p e s m below meth c ls hx hb hr hml hown hts hlocks hP hK hN hl
  have hown : s.vm.findClass RX5 = some m.cls := hown
  have ht := am_ht hts
  have hin_X5 : ∀ w ∈ u_ws RX5 TX5 31, w ∈ wsX5_canDo := fun w h => List.mem_cons_of_mem _ (am_inX5 w h)
  have hf_67 := ht 456 (.fieldLink RX5 67 "ApartCostModel" "needed" "[I") rfl
  refine lv_iload_n hx hb dX5_canDo_0 rfl (lv_at hl 1 rfl) ?_
  refine lv_iload_n hx hb dX5_canDo_1 rfl (lv_at hl 2 rfl) ?_
  refine am_callRi (W.runS (As := [.int x, .int (nI b)]) (rest := []) ⟨hx, hb, hml, hown, hts⟩ (c_X5_has l D _ _ x (nI b)) (va_cwS 2 hts (am_gS (am_in 554 rfl) (am_in 555 rfl) (am_in 35 rfl) (am_in 556 rfl)) rfl rfl rfl (by decide +kernel) ⟨Nat.le_of_ble_eq_true rfl, Nat.le_of_ble_eq_true rfl⟩) (am_preSR hP hK hN) rfl rfl hl.1 rfl (lv_room (Nat.le_of_ble_eq_true rfl)) dX5_canDo_2 ⟨Nat.zero_le _, Nat.zero_le _⟩) ?_
  refine lv_if_ne (tgt := 29) hx hb dX5_canDo_5 (by decide) (fun c_5 => ?_) (fun c_5 => ?_)
  · skip
    have c_5 : ¬ (rc_has x (nI b)) = 0 := c_5
    refine lv_iconst (v := 0) hx hb dX5_canDo_29 (by decide) ?_
    exact am_zretR hx hb hr hlocks (Or.inl rfl) (by first | rfl | (simp only [rc_can, c_5, if_true, if_false, eq_self, not_true_eq_false, not_false_eq_true, ite_true, ite_false, ↓reduceIte]; done) | (simp [rc_can, c_5]; done)) dX5_canDo_30
  · skip
    have c_5 : (rc_has x (nI b)) = 0 := c_5
    refine lv_aload_n hx hb dX5_canDo_8 rfl (lv_at hl 0 rfl) ?_
    refine va_get (D := D) (ci := 5) (v := .ref (ad 17)) (C := RX5) (T := TX5) (N := 31) hx hb hts hin_X5 hown hK hP 0 rfl rfl 26 (by decide) hf_67 (fun _ h9 => h9) rfl dX5_canDo_9 ?_
    refine lv_iload_n hx hb dX5_canDo_12 rfl (lv_at hl 2 rfl) ?_
    refine am_iald hx hb hK hP 17 0 rfl rfl b rfl (by omega) (by decide) dX5_canDo_13 ?_
    refine lv_iload_n hx hb dX5_canDo_14 rfl (lv_at hl 1 rfl) ?_
    refine lv_iand hx hb dX5_canDo_15 ?_
    refine lv_aload_n hx hb dX5_canDo_16 rfl (lv_at hl 0 rfl) ?_
    refine va_get (D := D) (ci := 5) (v := .ref (ad 17)) (C := RX5) (T := TX5) (N := 31) hx hb hts hin_X5 hown hK hP 0 rfl rfl 26 (by decide) hf_67 (fun _ h9 => h9) rfl dX5_canDo_17 ?_
    refine lv_iload_n hx hb dX5_canDo_20 rfl (lv_at hl 2 rfl) ?_
    refine am_iald hx hb hK hP 17 0 rfl rfl b rfl (by omega) (by decide) dX5_canDo_21 ?_
    refine lv_icmp_ne (tgt := 29) hx hb dX5_canDo_22 (by decide) (fun c_22 => ?_) (fun c_22 => ?_)
    · skip
      have c_22 : ¬ (((ai 17) b) &&& x) = ((ai 17) b) := c_22
      refine lv_iconst (v := 0) hx hb dX5_canDo_29 (by decide) ?_
      exact am_zretR hx hb hr hlocks (Or.inl rfl) (by first | rfl | (simp only [rc_can, c_5, c_22, if_true, if_false, eq_self, not_true_eq_false, not_false_eq_true, ite_true, ite_false, ↓reduceIte]; done) | (simp [rc_can, c_5, c_22]; done)) dX5_canDo_30
    · skip
      have c_22 : (((ai 17) b) &&& x) = ((ai 17) b) := c_22
      refine lv_iconst (v := 1) hx hb dX5_canDo_25 (by decide) ?_
      refine lv_goto (tgt := 30) hx hb dX5_canDo_26 (by decide) ?_
      exact am_zretR hx hb hr hlocks (Or.inr rfl) (by first | rfl | (simp only [rc_can, c_5, c_22, if_true, if_false, eq_self, not_true_eq_false, not_false_eq_true, ite_true, ite_false, ↓reduceIte]; done) | (simp [rc_can, c_5, c_22]; done)) dX5_canDo_30

set_option maxHeartbeats 4000000 in
set_option maxRecDepth 100000 in
theorem c_X5_bringsOf (l : Launch) (D : va_G) (ad : Nat → Nat) (cI cL cZ : ClassId) (fi : Nat → Int32) (fl : Nat → Int64) (ai : Nat → Nat → Int32) (al : Nat → Nat → Int64) (p9 : Nat) (x : Int32) (na : Nat) (hna : fi 0 = nI na) (hnl : na ≤ 10) (hbe : ∀ p, p < 12 → ¬ ((ai 11) p).toInt64 = 0) (hp9 : p9 < 12) : Met l yX5_bringsOf wsX5_bringsOf (am_rm 1 21) (va_Pc [.ref (ad 0), .int (nI p9), .int x] (am_R nwL vwCl D (rm_w ad cI cL cZ fi fl ai al) [(cI, .int), (cL, .long), (cZ, .boolean)])) (vp_Sl (fun r => r = rc_brings (ai 1) (ai 5) (ai 10) (ai 11) (al 9) (fi 7) (fi 8) na x p9)) 0 0 am_No := by
  refine am_startR (cc := cX5_bringsOf) (maxL := 7) (ret := (some .long)) (by decide) rfl (Nat.le_of_ble_eq_true rfl) [(0, .ref (ad 0)), (1, .int (nI p9)), (2, .int x)] rfl ?_
  intro p e s m below meth c ls hx hb hr hml hown hts hlocks hP hK hN hl
  have hown : s.vm.findClass RX5 = some m.cls := hown
  have ht := am_ht hts
  have hin_X5 : ∀ w ∈ u_ws RX5 TX5 31, w ∈ wsX5_bringsOf := fun w h => List.mem_cons_of_mem _ (am_inX5 w h)
  have hf_127 := ht 455 (.fieldLink RX5 127 "ApartCostModel" "testedAs" "I") rfl
  have hf_23 := ht 435 (.fieldLink RX5 23 "ApartCostModel" "breaking" "[Z") rfl
  have hf_36 := ht 439 (.fieldLink RX5 36 "ApartCostModel" "worths" "[J") rfl
  have hf_39 := ht 440 (.fieldLink RX5 39 "ApartCostModel" "above" "[I") rfl
  have hf_42 := ht 441 (.fieldLink RX5 42 "ApartCostModel" "below" "[I") rfl
  have hf_64 := ht 454 (.fieldLink RX5 64 "ApartCostModel" "tested" "I") rfl
  have hf_7 := ht 431 (.fieldLink RX5 7 "ApartCostModel" "freed" "[I") rfl
  have hf_86 := ht 430 (.fieldLink RX5 86 "ApartCostModel" "count" "I") rfl
  refine lv_iconst (v := 0) hx hb dX5_bringsOf_0 (by decide) ?_
  refine lv_istore_n (lv' := [(3, .int 0), (0, .ref (ad 0)), (1, .int (nI p9)), (2, .int x)]) hx hb dX5_bringsOf_1 rfl hl (by decide) rfl (fun ls hl => ?_)
  refine lv_iconst (v := 1) hx hb dX5_bringsOf_2 (by decide) ?_
  refine lv_istore (lv' := [(4, .int 1), (3, .int 0), (0, .ref (ad 0)), (1, .int (nI p9)), (2, .int x)]) hx hb dX5_bringsOf_3 hl (by decide) rfl (fun ls hl => ?_)
  refine lv_iconst (v := 0) hx hb dX5_bringsOf_5 (by decide) ?_
  refine lv_istore (lv' := [(5, .int 0), (4, .int 1), (3, .int 0), (0, .ref (ad 0)), (1, .int (nI p9)), (2, .int x)]) hx hb dX5_bringsOf_6 hl (by decide) rfl (fun ls hl => ?_)
  refine am_loopR (σ := Nat) (fun q n9 ls => n9 = na - q ∧ q ≤ na ∧ lv_has ls 7 [(0, .ref (ad 0)), (1, .int (nI p9)), (2, .int x), (3, .int (rc_fre (ai 1) x (nI p9) q)), (4, .int (rc_who (ai 1) (ai 5) x (nI p9) q)), (5, .int (nI q))]) ?_ 0 (na - 0) ls ⟨rfl, (by omega), lv_sub hl [3, 4, 5, 2, 1, 0] rfl⟩
  rintro k n9 ls ⟨hn_8, hk, hl⟩ ih_8
  refine lv_iload hx hb dX5_bringsOf_8 (lv_at hl 5 rfl) ?_
  refine lv_aload_n hx hb dX5_bringsOf_10 rfl (lv_at hl 0 rfl) ?_
  refine va_get (D := D) (ci := 5) (v := .int (fi 0)) (C := RX5) (T := TX5) (N := 31) hx hb hts hin_X5 hown hK hP 0 rfl rfl 0 (by decide) hf_86 (fun _ h9 => h9) rfl dX5_bringsOf_11 ?_
  refine lv_icmp_ge (tgt := 92) hx hb dX5_bringsOf_14 (by decide) (fun c_14 => ?_) (fun c_14 => ?_)
  · skip
    have c_14 : (fi 0) ≤ (nI k) := c_14
    have hke_14 : na ≤ k := (am_ge hna (by omega) (by omega)).mp c_14
    have hkq_14 : na = k := by omega
    subst hkq_14
    refine lv_iload_n hx hb dX5_bringsOf_92 rfl (lv_at hl 3 rfl) ?_
    refine lv_if_eq (tgt := 101) hx hb dX5_bringsOf_93 (by decide) (fun c_93 => ?_) (fun c_93 => ?_)
    · skip
      have c_93 : (rc_fre (ai 1) x (nI p9) na) = 0 := c_93
      refine lv_lconst (v := 0) hx hb dX5_bringsOf_101 (by decide) ?_
      exact am_lretR hx hb hr hlocks (by rw [rc_brings, if_pos c_93]) dX5_bringsOf_102
    · skip
      have c_93 : ¬ ((rc_fre (ai 1) x (nI p9) na) = 0) := c_93
      refine lv_iload hx hb dX5_bringsOf_96 (lv_at hl 4 rfl) ?_
      refine lv_if_ne (tgt := 103) hx hb dX5_bringsOf_98 (by decide) (fun c_98 => ?_) (fun c_98 => ?_)
      · skip
        have c_98 : ¬ (rc_who (ai 1) (ai 5) x (nI p9) na) = 0 := c_98
        refine lv_iload_n hx hb dX5_bringsOf_103 rfl (lv_at hl 1 rfl) ?_
        refine lv_aload_n hx hb dX5_bringsOf_104 rfl (lv_at hl 0 rfl) ?_
        refine va_get (D := D) (ci := 5) (v := .int (fi 7)) (C := RX5) (T := TX5) (N := 31) hx hb hts hin_X5 hown hK hP 0 rfl rfl 24 (by decide) hf_64 (fun _ h9 => h9) rfl dX5_bringsOf_105 ?_
        refine lv_icmp_ne (tgt := 134) hx hb dX5_bringsOf_108 (by decide) (fun c_108 => ?_) (fun c_108 => ?_)
        · skip
          have c_108 : ¬ (nI p9) = (fi 7) := c_108
          refine lv_ldc2 (v := 27720) hx hb hown (ht 571 _ rfl) dX5_bringsOf_134 ?_
          refine lv_aload_n hx hb dX5_bringsOf_137 rfl (lv_at hl 0 rfl) ?_
          refine va_get (D := D) (ci := 5) (v := .ref (ad 9)) (C := RX5) (T := TX5) (N := 31) hx hb hts hin_X5 hown hK hP 0 rfl rfl 9 (by decide) hf_36 (fun _ h9 => h9) rfl dX5_bringsOf_138 ?_
          refine lv_iload_n hx hb dX5_bringsOf_141 rfl (lv_at hl 1 rfl) ?_
          refine am_lald hx hb hK hP 9 1 rfl rfl p9 rfl (by omega) (by decide) dX5_bringsOf_142 ?_
          refine lv_lmul hx hb dX5_bringsOf_143 ?_
          refine lv_aload_n hx hb dX5_bringsOf_144 rfl (lv_at hl 0 rfl) ?_
          refine va_get (D := D) (ci := 5) (v := .ref (ad 11)) (C := RX5) (T := TX5) (N := 31) hx hb hts hin_X5 hown hK hP 0 rfl rfl 11 (by decide) hf_42 (fun _ h9 => h9) rfl dX5_bringsOf_145 ?_
          refine lv_iload_n hx hb dX5_bringsOf_148 rfl (lv_at hl 1 rfl) ?_
          refine am_iald hx hb hK hP 11 0 rfl rfl p9 rfl (by omega) (by decide) dX5_bringsOf_149 ?_
          refine lv_i2l (v := ((ai 11) p9).toInt64) hx hb dX5_bringsOf_150 rfl ?_
          refine lv_ldiv hx hb dX5_bringsOf_151 (hbe p9 hp9) ?_
          refine lv_aload_n hx hb dX5_bringsOf_152 rfl (lv_at hl 0 rfl) ?_
          refine va_get (D := D) (ci := 5) (v := .ref (ad 10)) (C := RX5) (T := TX5) (N := 31) hx hb hts hin_X5 hown hK hP 0 rfl rfl 10 (by decide) hf_39 (fun _ h9 => h9) rfl dX5_bringsOf_153 ?_
          refine lv_iload_n hx hb dX5_bringsOf_156 rfl (lv_at hl 1 rfl) ?_
          refine am_iald hx hb hK hP 10 0 rfl rfl p9 rfl (by omega) (by decide) dX5_bringsOf_157 ?_
          refine lv_i2l (v := ((ai 10) p9).toInt64) hx hb dX5_bringsOf_158 rfl ?_
          refine lv_lmul hx hb dX5_bringsOf_159 ?_
          exact am_lretR hx hb hr hlocks (by rw [rc_brings, if_neg c_93, if_neg c_98, if_neg c_108]) dX5_bringsOf_160
        · skip
          have c_108 : (nI p9) = (fi 7) := c_108
          refine lv_aload_n hx hb dX5_bringsOf_111 rfl (lv_at hl 0 rfl) ?_
          refine va_get (D := D) (ci := 5) (v := .int (fi 8)) (C := RX5) (T := TX5) (N := 31) hx hb hts hin_X5 hown hK hP 0 rfl rfl 25 (by decide) hf_127 (fun _ h9 => h9) rfl dX5_bringsOf_112 ?_
          refine lv_iconst (v := 1) hx hb dX5_bringsOf_115 (by decide) ?_
          refine lv_icmp_ne (tgt := 132) hx hb dX5_bringsOf_116 (by decide) (fun c_116 => ?_) (fun c_116 => ?_)
          · skip
            have c_116 : ¬ (fi 8) = 1 := c_116
            refine lv_lconst (v := 0) hx hb dX5_bringsOf_132 (by decide) ?_
            exact am_lretR hx hb hr hlocks (by rw [rc_brings, if_neg c_93, if_neg c_98, if_pos c_108, if_neg c_116]) dX5_bringsOf_133
          · skip
            have c_116 : (fi 8) = 1 := c_116
            refine lv_ldc2 (v := 27720) hx hb hown (ht 571 _ rfl) dX5_bringsOf_119 ?_
            refine lv_aload_n hx hb dX5_bringsOf_122 rfl (lv_at hl 0 rfl) ?_
            refine va_get (D := D) (ci := 5) (v := .ref (ad 9)) (C := RX5) (T := TX5) (N := 31) hx hb hts hin_X5 hown hK hP 0 rfl rfl 9 (by decide) hf_36 (fun _ h9 => h9) rfl dX5_bringsOf_123 ?_
            refine lv_iload_n hx hb dX5_bringsOf_126 rfl (lv_at hl 1 rfl) ?_
            refine am_lald hx hb hK hP 9 1 rfl rfl p9 rfl (by omega) (by decide) dX5_bringsOf_127 ?_
            refine lv_lmul hx hb dX5_bringsOf_128 ?_
            refine lv_goto (tgt := 133) hx hb dX5_bringsOf_129 (by decide) ?_
            exact am_lretR hx hb hr hlocks (by rw [rc_brings, if_neg c_93, if_neg c_98, if_pos c_108, if_pos c_116]) dX5_bringsOf_133
      · skip
        have c_98 : (rc_who (ai 1) (ai 5) x (nI p9) na) = 0 := c_98
        refine lv_lconst (v := 0) hx hb dX5_bringsOf_101 (by decide) ?_
        exact am_lretR hx hb hr hlocks (by rw [rc_brings, if_neg c_93, if_pos c_98]) dX5_bringsOf_102
  · skip
    have c_14 : ¬ ((fi 0) ≤ (nI k)) := c_14
    have hkl_14 : k < na := Nat.lt_of_not_le (fun z => c_14 ((am_ge hna (by omega) (by omega)).mpr z))
    refine lv_iload_n hx hb dX5_bringsOf_17 rfl (lv_at hl 2 rfl) ?_
    refine lv_iload hx hb dX5_bringsOf_18 (lv_at hl 5 rfl) ?_
    refine am_callRi (W.runS (As := [.int x, .int (nI k)]) (rest := []) ⟨hx, hb, hml, hown, hts⟩ (c_X5_has l D _ _ x (nI k)) (va_cwS 2 hts (am_gS (am_in 554 rfl) (am_in 555 rfl) (am_in 35 rfl) (am_in 556 rfl)) rfl rfl rfl (by decide +kernel) ⟨Nat.le_of_ble_eq_true rfl, Nat.le_of_ble_eq_true rfl⟩) (am_preSR hP hK hN) rfl rfl hl.1 rfl (lv_room (Nat.le_of_ble_eq_true rfl)) dX5_bringsOf_20 ⟨Nat.zero_le _, Nat.zero_le _⟩) ?_
    refine lv_if_eq (tgt := 41) hx hb dX5_bringsOf_23 (by decide) (fun c_23 => ?_) (fun c_23 => ?_)
    · skip
      have c_23 : (rc_has x (nI k)) = 0 := c_23
      refine lv_iconst (v := 0) hx hb dX5_bringsOf_41 (by decide) ?_
      refine lv_istore (lv' := [(6, .int 0), (0, .ref (ad 0)), (1, .int (nI p9)), (2, .int x), (3, .int (rc_fre (ai 1) x (nI p9) k)), (4, .int (rc_who (ai 1) (ai 5) x (nI p9) k)), (5, .int (nI k))]) hx hb dX5_bringsOf_42 hl (by decide) rfl (fun ls hl => ?_)
      refine lv_iload_n hx hb dX5_bringsOf_44 rfl (lv_at hl 4 rfl) ?_
      refine lv_if_ne (tgt := 53) hx hb dX5_bringsOf_45 (by decide) (fun c_45 => ?_) (fun c_45 => ?_)
      · skip
        have c_45 : ¬ (rc_fre (ai 1) x (nI p9) k) = 0 := c_45
        refine lv_iconst (v := 1) hx hb dX5_bringsOf_53 (by decide) ?_
        refine lv_goto (tgt := 58) hx hb dX5_bringsOf_54 (by decide) ?_
        refine lv_istore_n (lv' := [(3, .int 1), (6, .int 0), (0, .ref (ad 0)), (1, .int (nI p9)), (2, .int x), (4, .int (rc_who (ai 1) (ai 5) x (nI p9) k)), (5, .int (nI k))]) hx hb dX5_bringsOf_58 rfl hl (by decide) rfl (fun ls hl => ?_)
        refine lv_iload hx hb dX5_bringsOf_59 (lv_at hl 5 rfl) ?_
        refine lv_if_eq (tgt := 83) hx hb dX5_bringsOf_61 (by decide) (fun c_61 => ?_) (fun c_61 => ?_)
        · skip
          have c_61 : (rc_who (ai 1) (ai 5) x (nI p9) k) = 0 := c_61
          refine lv_iconst (v := 0) hx hb dX5_bringsOf_83 (by decide) ?_
          refine lv_istore (lv' := [(4, .int 0), (3, .int 1), (6, .int 0), (0, .ref (ad 0)), (1, .int (nI p9)), (2, .int x), (5, .int (nI k))]) hx hb dX5_bringsOf_84 hl (by decide) rfl (fun ls hl => ?_)
          refine lv_iinc (v := nI (k + 1)) (lv' := [(5, .int (nI (k + 1))), (4, .int 0), (3, .int 1), (6, .int 0), (0, .ref (ad 0)), (1, .int (nI p9)), (2, .int x)]) hx hb dX5_bringsOf_86 hl (k := 6) rfl (nI_1 k) (by decide) rfl (fun ls hl => ?_)
          refine lv_goto (tgt := 8) hx hb dX5_bringsOf_89 (by decide) ?_
          have e_8_0 : rc_fre (ai 1) x (nI p9) (k + 1) = 1 := by first | rfl | (simp only [rc_fre, rc_who, rc_frs, c_14, c_23, c_45, c_61, if_true, if_false, eq_self, not_true_eq_false, not_false_eq_true, ite_true, ite_false, ↓reduceIte]; done) | (simp [rc_fre, rc_who, rc_frs, c_14, c_23, c_45, c_61]; done)
          have e_8_1 : rc_who (ai 1) (ai 5) x (nI p9) (k + 1) = 0 := by first | rfl | (simp only [rc_fre, rc_who, rc_frs, c_14, c_23, c_45, c_61, if_true, if_false, eq_self, not_true_eq_false, not_false_eq_true, ite_true, ite_false, ↓reduceIte]; done) | (simp [rc_fre, rc_who, rc_frs, c_14, c_23, c_45, c_61]; done)
          refine ih_8 (k + 1) (na - (k + 1)) ls (by omega) ⟨rfl, (by omega), ?_⟩
          try dsimp only
          rw [e_8_0, e_8_1]
          exact lv_sub hl [4, 5, 6, 2, 1, 0] rfl
        · skip
          have c_61 : ¬ ((rc_who (ai 1) (ai 5) x (nI p9) k) = 0) := c_61
          refine lv_iload hx hb dX5_bringsOf_64 (lv_at hl 1 rfl) ?_
          refine lv_if_eq (tgt := 79) hx hb dX5_bringsOf_66 (by decide) (fun c_66 => ?_) (fun c_66 => ?_)
          · skip
            refine lv_iconst (v := 1) hx hb dX5_bringsOf_79 (by decide) ?_
            refine lv_goto (tgt := 84) hx hb dX5_bringsOf_80 (by decide) ?_
            refine lv_istore (lv' := [(4, .int 1), (3, .int 1), (6, .int 0), (0, .ref (ad 0)), (1, .int (nI p9)), (2, .int x), (5, .int (nI k))]) hx hb dX5_bringsOf_84 hl (by decide) rfl (fun ls hl => ?_)
            refine lv_iinc (v := nI (k + 1)) (lv' := [(5, .int (nI (k + 1))), (4, .int 1), (3, .int 1), (6, .int 0), (0, .ref (ad 0)), (1, .int (nI p9)), (2, .int x)]) hx hb dX5_bringsOf_86 hl (k := 6) rfl (nI_1 k) (by decide) rfl (fun ls hl => ?_)
            refine lv_goto (tgt := 8) hx hb dX5_bringsOf_89 (by decide) ?_
            have e_8_0 : rc_fre (ai 1) x (nI p9) (k + 1) = 1 := by first | rfl | (simp only [rc_fre, rc_who, rc_frs, c_14, c_23, c_45, c_61, if_true, if_false, eq_self, not_true_eq_false, not_false_eq_true, ite_true, ite_false, ↓reduceIte]; done) | (simp [rc_fre, rc_who, rc_frs, c_14, c_23, c_45, c_61]; done)
            have e_8_1 : rc_who (ai 1) (ai 5) x (nI p9) (k + 1) = 1 := by first | rfl | (simp only [rc_fre, rc_who, rc_frs, c_14, c_23, c_45, c_61, if_true, if_false, eq_self, not_true_eq_false, not_false_eq_true, ite_true, ite_false, ↓reduceIte]; done) | (simp [rc_fre, rc_who, rc_frs, c_14, c_23, c_45, c_61]; done)
            refine ih_8 (k + 1) (na - (k + 1)) ls (by omega) ⟨rfl, (by omega), ?_⟩
            try dsimp only
            rw [e_8_0, e_8_1]
            exact lv_sub hl [4, 5, 6, 2, 1, 0] rfl
          · skip
            exact absurd c_66 (by decide)
      · skip
        have c_45 : (rc_fre (ai 1) x (nI p9) k) = 0 := c_45
        refine lv_iload hx hb dX5_bringsOf_48 (lv_at hl 0 rfl) ?_
        refine lv_if_eq (tgt := 57) hx hb dX5_bringsOf_50 (by decide) (fun c_50 => ?_) (fun c_50 => ?_)
        · skip
          refine lv_iconst (v := 0) hx hb dX5_bringsOf_57 (by decide) ?_
          refine lv_istore_n (lv' := [(3, .int 0), (6, .int 0), (0, .ref (ad 0)), (1, .int (nI p9)), (2, .int x), (4, .int (rc_who (ai 1) (ai 5) x (nI p9) k)), (5, .int (nI k))]) hx hb dX5_bringsOf_58 rfl hl (by decide) rfl (fun ls hl => ?_)
          refine lv_iload hx hb dX5_bringsOf_59 (lv_at hl 5 rfl) ?_
          refine lv_if_eq (tgt := 83) hx hb dX5_bringsOf_61 (by decide) (fun c_61 => ?_) (fun c_61 => ?_)
          · skip
            have c_61 : (rc_who (ai 1) (ai 5) x (nI p9) k) = 0 := c_61
            refine lv_iconst (v := 0) hx hb dX5_bringsOf_83 (by decide) ?_
            refine lv_istore (lv' := [(4, .int 0), (3, .int 0), (6, .int 0), (0, .ref (ad 0)), (1, .int (nI p9)), (2, .int x), (5, .int (nI k))]) hx hb dX5_bringsOf_84 hl (by decide) rfl (fun ls hl => ?_)
            refine lv_iinc (v := nI (k + 1)) (lv' := [(5, .int (nI (k + 1))), (4, .int 0), (3, .int 0), (6, .int 0), (0, .ref (ad 0)), (1, .int (nI p9)), (2, .int x)]) hx hb dX5_bringsOf_86 hl (k := 6) rfl (nI_1 k) (by decide) rfl (fun ls hl => ?_)
            refine lv_goto (tgt := 8) hx hb dX5_bringsOf_89 (by decide) ?_
            have e_8_0 : rc_fre (ai 1) x (nI p9) (k + 1) = 0 := by first | rfl | (simp only [rc_fre, rc_who, rc_frs, c_14, c_23, c_45, c_61, if_true, if_false, eq_self, not_true_eq_false, not_false_eq_true, ite_true, ite_false, ↓reduceIte]; done) | (simp [rc_fre, rc_who, rc_frs, c_14, c_23, c_45, c_61]; done)
            have e_8_1 : rc_who (ai 1) (ai 5) x (nI p9) (k + 1) = 0 := by first | rfl | (simp only [rc_fre, rc_who, rc_frs, c_14, c_23, c_45, c_61, if_true, if_false, eq_self, not_true_eq_false, not_false_eq_true, ite_true, ite_false, ↓reduceIte]; done) | (simp [rc_fre, rc_who, rc_frs, c_14, c_23, c_45, c_61]; done)
            refine ih_8 (k + 1) (na - (k + 1)) ls (by omega) ⟨rfl, (by omega), ?_⟩
            try dsimp only
            rw [e_8_0, e_8_1]
            exact lv_sub hl [4, 5, 6, 2, 1, 0] rfl
          · skip
            have c_61 : ¬ ((rc_who (ai 1) (ai 5) x (nI p9) k) = 0) := c_61
            refine lv_iload hx hb dX5_bringsOf_64 (lv_at hl 1 rfl) ?_
            refine lv_if_eq (tgt := 79) hx hb dX5_bringsOf_66 (by decide) (fun c_66 => ?_) (fun c_66 => ?_)
            · skip
              refine lv_iconst (v := 1) hx hb dX5_bringsOf_79 (by decide) ?_
              refine lv_goto (tgt := 84) hx hb dX5_bringsOf_80 (by decide) ?_
              refine lv_istore (lv' := [(4, .int 1), (3, .int 0), (6, .int 0), (0, .ref (ad 0)), (1, .int (nI p9)), (2, .int x), (5, .int (nI k))]) hx hb dX5_bringsOf_84 hl (by decide) rfl (fun ls hl => ?_)
              refine lv_iinc (v := nI (k + 1)) (lv' := [(5, .int (nI (k + 1))), (4, .int 1), (3, .int 0), (6, .int 0), (0, .ref (ad 0)), (1, .int (nI p9)), (2, .int x)]) hx hb dX5_bringsOf_86 hl (k := 6) rfl (nI_1 k) (by decide) rfl (fun ls hl => ?_)
              refine lv_goto (tgt := 8) hx hb dX5_bringsOf_89 (by decide) ?_
              have e_8_0 : rc_fre (ai 1) x (nI p9) (k + 1) = 0 := by first | rfl | (simp only [rc_fre, rc_who, rc_frs, c_14, c_23, c_45, c_61, if_true, if_false, eq_self, not_true_eq_false, not_false_eq_true, ite_true, ite_false, ↓reduceIte]; done) | (simp [rc_fre, rc_who, rc_frs, c_14, c_23, c_45, c_61]; done)
              have e_8_1 : rc_who (ai 1) (ai 5) x (nI p9) (k + 1) = 1 := by first | rfl | (simp only [rc_fre, rc_who, rc_frs, c_14, c_23, c_45, c_61, if_true, if_false, eq_self, not_true_eq_false, not_false_eq_true, ite_true, ite_false, ↓reduceIte]; done) | (simp [rc_fre, rc_who, rc_frs, c_14, c_23, c_45, c_61]; done)
              refine ih_8 (k + 1) (na - (k + 1)) ls (by omega) ⟨rfl, (by omega), ?_⟩
              try dsimp only
              rw [e_8_0, e_8_1]
              exact lv_sub hl [4, 5, 6, 2, 1, 0] rfl
            · skip
              exact absurd c_66 (by decide)
        · skip
          exact absurd c_50 (by decide)
    · skip
      have c_23 : ¬ ((rc_has x (nI k)) = 0) := c_23
      refine lv_aload_n hx hb dX5_bringsOf_26 rfl (lv_at hl 0 rfl) ?_
      refine va_get (D := D) (ci := 5) (v := .ref (ad 1)) (C := RX5) (T := TX5) (N := 31) hx hb hts hin_X5 hown hK hP 0 rfl rfl 1 (by decide) hf_7 (fun _ h9 => h9) rfl dX5_bringsOf_27 ?_
      refine lv_iload hx hb dX5_bringsOf_30 (lv_at hl 5 rfl) ?_
      refine am_iald hx hb hK hP 1 0 rfl rfl k rfl (by omega) (by decide) dX5_bringsOf_32 ?_
      refine lv_iload_n hx hb dX5_bringsOf_33 rfl (lv_at hl 1 rfl) ?_
      refine lv_icmp_ne (tgt := 41) hx hb dX5_bringsOf_34 (by decide) (fun c_34 => ?_) (fun c_34 => ?_)
      · skip
        have c_34 : ¬ ((ai 1) k) = (nI p9) := c_34
        refine lv_iconst (v := 0) hx hb dX5_bringsOf_41 (by decide) ?_
        refine lv_istore (lv' := [(6, .int 0), (0, .ref (ad 0)), (1, .int (nI p9)), (2, .int x), (3, .int (rc_fre (ai 1) x (nI p9) k)), (4, .int (rc_who (ai 1) (ai 5) x (nI p9) k)), (5, .int (nI k))]) hx hb dX5_bringsOf_42 hl (by decide) rfl (fun ls hl => ?_)
        refine lv_iload_n hx hb dX5_bringsOf_44 rfl (lv_at hl 4 rfl) ?_
        refine lv_if_ne (tgt := 53) hx hb dX5_bringsOf_45 (by decide) (fun c_45 => ?_) (fun c_45 => ?_)
        · skip
          have c_45 : ¬ (rc_fre (ai 1) x (nI p9) k) = 0 := c_45
          refine lv_iconst (v := 1) hx hb dX5_bringsOf_53 (by decide) ?_
          refine lv_goto (tgt := 58) hx hb dX5_bringsOf_54 (by decide) ?_
          refine lv_istore_n (lv' := [(3, .int 1), (6, .int 0), (0, .ref (ad 0)), (1, .int (nI p9)), (2, .int x), (4, .int (rc_who (ai 1) (ai 5) x (nI p9) k)), (5, .int (nI k))]) hx hb dX5_bringsOf_58 rfl hl (by decide) rfl (fun ls hl => ?_)
          refine lv_iload hx hb dX5_bringsOf_59 (lv_at hl 5 rfl) ?_
          refine lv_if_eq (tgt := 83) hx hb dX5_bringsOf_61 (by decide) (fun c_61 => ?_) (fun c_61 => ?_)
          · skip
            have c_61 : (rc_who (ai 1) (ai 5) x (nI p9) k) = 0 := c_61
            refine lv_iconst (v := 0) hx hb dX5_bringsOf_83 (by decide) ?_
            refine lv_istore (lv' := [(4, .int 0), (3, .int 1), (6, .int 0), (0, .ref (ad 0)), (1, .int (nI p9)), (2, .int x), (5, .int (nI k))]) hx hb dX5_bringsOf_84 hl (by decide) rfl (fun ls hl => ?_)
            refine lv_iinc (v := nI (k + 1)) (lv' := [(5, .int (nI (k + 1))), (4, .int 0), (3, .int 1), (6, .int 0), (0, .ref (ad 0)), (1, .int (nI p9)), (2, .int x)]) hx hb dX5_bringsOf_86 hl (k := 6) rfl (nI_1 k) (by decide) rfl (fun ls hl => ?_)
            refine lv_goto (tgt := 8) hx hb dX5_bringsOf_89 (by decide) ?_
            have e_8_0 : rc_fre (ai 1) x (nI p9) (k + 1) = 1 := by first | rfl | (simp only [rc_fre, rc_who, rc_frs, c_14, c_23, c_34, c_45, c_61, if_true, if_false, eq_self, not_true_eq_false, not_false_eq_true, ite_true, ite_false, ↓reduceIte]; done) | (simp [rc_fre, rc_who, rc_frs, c_14, c_23, c_34, c_45, c_61]; done)
            have e_8_1 : rc_who (ai 1) (ai 5) x (nI p9) (k + 1) = 0 := by first | rfl | (simp only [rc_fre, rc_who, rc_frs, c_14, c_23, c_34, c_45, c_61, if_true, if_false, eq_self, not_true_eq_false, not_false_eq_true, ite_true, ite_false, ↓reduceIte]; done) | (simp [rc_fre, rc_who, rc_frs, c_14, c_23, c_34, c_45, c_61]; done)
            refine ih_8 (k + 1) (na - (k + 1)) ls (by omega) ⟨rfl, (by omega), ?_⟩
            try dsimp only
            rw [e_8_0, e_8_1]
            exact lv_sub hl [4, 5, 6, 2, 1, 0] rfl
          · skip
            have c_61 : ¬ ((rc_who (ai 1) (ai 5) x (nI p9) k) = 0) := c_61
            refine lv_iload hx hb dX5_bringsOf_64 (lv_at hl 1 rfl) ?_
            refine lv_if_eq (tgt := 79) hx hb dX5_bringsOf_66 (by decide) (fun c_66 => ?_) (fun c_66 => ?_)
            · skip
              refine lv_iconst (v := 1) hx hb dX5_bringsOf_79 (by decide) ?_
              refine lv_goto (tgt := 84) hx hb dX5_bringsOf_80 (by decide) ?_
              refine lv_istore (lv' := [(4, .int 1), (3, .int 1), (6, .int 0), (0, .ref (ad 0)), (1, .int (nI p9)), (2, .int x), (5, .int (nI k))]) hx hb dX5_bringsOf_84 hl (by decide) rfl (fun ls hl => ?_)
              refine lv_iinc (v := nI (k + 1)) (lv' := [(5, .int (nI (k + 1))), (4, .int 1), (3, .int 1), (6, .int 0), (0, .ref (ad 0)), (1, .int (nI p9)), (2, .int x)]) hx hb dX5_bringsOf_86 hl (k := 6) rfl (nI_1 k) (by decide) rfl (fun ls hl => ?_)
              refine lv_goto (tgt := 8) hx hb dX5_bringsOf_89 (by decide) ?_
              have e_8_0 : rc_fre (ai 1) x (nI p9) (k + 1) = 1 := by first | rfl | (simp only [rc_fre, rc_who, rc_frs, c_14, c_23, c_34, c_45, c_61, if_true, if_false, eq_self, not_true_eq_false, not_false_eq_true, ite_true, ite_false, ↓reduceIte]; done) | (simp [rc_fre, rc_who, rc_frs, c_14, c_23, c_34, c_45, c_61]; done)
              have e_8_1 : rc_who (ai 1) (ai 5) x (nI p9) (k + 1) = 1 := by first | rfl | (simp only [rc_fre, rc_who, rc_frs, c_14, c_23, c_34, c_45, c_61, if_true, if_false, eq_self, not_true_eq_false, not_false_eq_true, ite_true, ite_false, ↓reduceIte]; done) | (simp [rc_fre, rc_who, rc_frs, c_14, c_23, c_34, c_45, c_61]; done)
              refine ih_8 (k + 1) (na - (k + 1)) ls (by omega) ⟨rfl, (by omega), ?_⟩
              try dsimp only
              rw [e_8_0, e_8_1]
              exact lv_sub hl [4, 5, 6, 2, 1, 0] rfl
            · skip
              exact absurd c_66 (by decide)
        · skip
          have c_45 : (rc_fre (ai 1) x (nI p9) k) = 0 := c_45
          refine lv_iload hx hb dX5_bringsOf_48 (lv_at hl 0 rfl) ?_
          refine lv_if_eq (tgt := 57) hx hb dX5_bringsOf_50 (by decide) (fun c_50 => ?_) (fun c_50 => ?_)
          · skip
            refine lv_iconst (v := 0) hx hb dX5_bringsOf_57 (by decide) ?_
            refine lv_istore_n (lv' := [(3, .int 0), (6, .int 0), (0, .ref (ad 0)), (1, .int (nI p9)), (2, .int x), (4, .int (rc_who (ai 1) (ai 5) x (nI p9) k)), (5, .int (nI k))]) hx hb dX5_bringsOf_58 rfl hl (by decide) rfl (fun ls hl => ?_)
            refine lv_iload hx hb dX5_bringsOf_59 (lv_at hl 5 rfl) ?_
            refine lv_if_eq (tgt := 83) hx hb dX5_bringsOf_61 (by decide) (fun c_61 => ?_) (fun c_61 => ?_)
            · skip
              have c_61 : (rc_who (ai 1) (ai 5) x (nI p9) k) = 0 := c_61
              refine lv_iconst (v := 0) hx hb dX5_bringsOf_83 (by decide) ?_
              refine lv_istore (lv' := [(4, .int 0), (3, .int 0), (6, .int 0), (0, .ref (ad 0)), (1, .int (nI p9)), (2, .int x), (5, .int (nI k))]) hx hb dX5_bringsOf_84 hl (by decide) rfl (fun ls hl => ?_)
              refine lv_iinc (v := nI (k + 1)) (lv' := [(5, .int (nI (k + 1))), (4, .int 0), (3, .int 0), (6, .int 0), (0, .ref (ad 0)), (1, .int (nI p9)), (2, .int x)]) hx hb dX5_bringsOf_86 hl (k := 6) rfl (nI_1 k) (by decide) rfl (fun ls hl => ?_)
              refine lv_goto (tgt := 8) hx hb dX5_bringsOf_89 (by decide) ?_
              have e_8_0 : rc_fre (ai 1) x (nI p9) (k + 1) = 0 := by first | rfl | (simp only [rc_fre, rc_who, rc_frs, c_14, c_23, c_34, c_45, c_61, if_true, if_false, eq_self, not_true_eq_false, not_false_eq_true, ite_true, ite_false, ↓reduceIte]; done) | (simp [rc_fre, rc_who, rc_frs, c_14, c_23, c_34, c_45, c_61]; done)
              have e_8_1 : rc_who (ai 1) (ai 5) x (nI p9) (k + 1) = 0 := by first | rfl | (simp only [rc_fre, rc_who, rc_frs, c_14, c_23, c_34, c_45, c_61, if_true, if_false, eq_self, not_true_eq_false, not_false_eq_true, ite_true, ite_false, ↓reduceIte]; done) | (simp [rc_fre, rc_who, rc_frs, c_14, c_23, c_34, c_45, c_61]; done)
              refine ih_8 (k + 1) (na - (k + 1)) ls (by omega) ⟨rfl, (by omega), ?_⟩
              try dsimp only
              rw [e_8_0, e_8_1]
              exact lv_sub hl [4, 5, 6, 2, 1, 0] rfl
            · skip
              have c_61 : ¬ ((rc_who (ai 1) (ai 5) x (nI p9) k) = 0) := c_61
              refine lv_iload hx hb dX5_bringsOf_64 (lv_at hl 1 rfl) ?_
              refine lv_if_eq (tgt := 79) hx hb dX5_bringsOf_66 (by decide) (fun c_66 => ?_) (fun c_66 => ?_)
              · skip
                refine lv_iconst (v := 1) hx hb dX5_bringsOf_79 (by decide) ?_
                refine lv_goto (tgt := 84) hx hb dX5_bringsOf_80 (by decide) ?_
                refine lv_istore (lv' := [(4, .int 1), (3, .int 0), (6, .int 0), (0, .ref (ad 0)), (1, .int (nI p9)), (2, .int x), (5, .int (nI k))]) hx hb dX5_bringsOf_84 hl (by decide) rfl (fun ls hl => ?_)
                refine lv_iinc (v := nI (k + 1)) (lv' := [(5, .int (nI (k + 1))), (4, .int 1), (3, .int 0), (6, .int 0), (0, .ref (ad 0)), (1, .int (nI p9)), (2, .int x)]) hx hb dX5_bringsOf_86 hl (k := 6) rfl (nI_1 k) (by decide) rfl (fun ls hl => ?_)
                refine lv_goto (tgt := 8) hx hb dX5_bringsOf_89 (by decide) ?_
                have e_8_0 : rc_fre (ai 1) x (nI p9) (k + 1) = 0 := by first | rfl | (simp only [rc_fre, rc_who, rc_frs, c_14, c_23, c_34, c_45, c_61, if_true, if_false, eq_self, not_true_eq_false, not_false_eq_true, ite_true, ite_false, ↓reduceIte]; done) | (simp [rc_fre, rc_who, rc_frs, c_14, c_23, c_34, c_45, c_61]; done)
                have e_8_1 : rc_who (ai 1) (ai 5) x (nI p9) (k + 1) = 1 := by first | rfl | (simp only [rc_fre, rc_who, rc_frs, c_14, c_23, c_34, c_45, c_61, if_true, if_false, eq_self, not_true_eq_false, not_false_eq_true, ite_true, ite_false, ↓reduceIte]; done) | (simp [rc_fre, rc_who, rc_frs, c_14, c_23, c_34, c_45, c_61]; done)
                refine ih_8 (k + 1) (na - (k + 1)) ls (by omega) ⟨rfl, (by omega), ?_⟩
                try dsimp only
                rw [e_8_0, e_8_1]
                exact lv_sub hl [4, 5, 6, 2, 1, 0] rfl
              · skip
                exact absurd c_66 (by decide)
          · skip
            exact absurd c_50 (by decide)
      · skip
        have c_34 : ((ai 1) k) = (nI p9) := c_34
        refine lv_iconst (v := 1) hx hb dX5_bringsOf_37 (by decide) ?_
        refine lv_goto (tgt := 42) hx hb dX5_bringsOf_38 (by decide) ?_
        refine lv_istore (lv' := [(6, .int 1), (0, .ref (ad 0)), (1, .int (nI p9)), (2, .int x), (3, .int (rc_fre (ai 1) x (nI p9) k)), (4, .int (rc_who (ai 1) (ai 5) x (nI p9) k)), (5, .int (nI k))]) hx hb dX5_bringsOf_42 hl (by decide) rfl (fun ls hl => ?_)
        refine lv_iload_n hx hb dX5_bringsOf_44 rfl (lv_at hl 4 rfl) ?_
        refine lv_if_ne (tgt := 53) hx hb dX5_bringsOf_45 (by decide) (fun c_45 => ?_) (fun c_45 => ?_)
        · skip
          have c_45 : ¬ (rc_fre (ai 1) x (nI p9) k) = 0 := c_45
          refine lv_iconst (v := 1) hx hb dX5_bringsOf_53 (by decide) ?_
          refine lv_goto (tgt := 58) hx hb dX5_bringsOf_54 (by decide) ?_
          refine lv_istore_n (lv' := [(3, .int 1), (6, .int 1), (0, .ref (ad 0)), (1, .int (nI p9)), (2, .int x), (4, .int (rc_who (ai 1) (ai 5) x (nI p9) k)), (5, .int (nI k))]) hx hb dX5_bringsOf_58 rfl hl (by decide) rfl (fun ls hl => ?_)
          refine lv_iload hx hb dX5_bringsOf_59 (lv_at hl 5 rfl) ?_
          refine lv_if_eq (tgt := 83) hx hb dX5_bringsOf_61 (by decide) (fun c_61 => ?_) (fun c_61 => ?_)
          · skip
            have c_61 : (rc_who (ai 1) (ai 5) x (nI p9) k) = 0 := c_61
            refine lv_iconst (v := 0) hx hb dX5_bringsOf_83 (by decide) ?_
            refine lv_istore (lv' := [(4, .int 0), (3, .int 1), (6, .int 1), (0, .ref (ad 0)), (1, .int (nI p9)), (2, .int x), (5, .int (nI k))]) hx hb dX5_bringsOf_84 hl (by decide) rfl (fun ls hl => ?_)
            refine lv_iinc (v := nI (k + 1)) (lv' := [(5, .int (nI (k + 1))), (4, .int 0), (3, .int 1), (6, .int 1), (0, .ref (ad 0)), (1, .int (nI p9)), (2, .int x)]) hx hb dX5_bringsOf_86 hl (k := 6) rfl (nI_1 k) (by decide) rfl (fun ls hl => ?_)
            refine lv_goto (tgt := 8) hx hb dX5_bringsOf_89 (by decide) ?_
            have e_8_0 : rc_fre (ai 1) x (nI p9) (k + 1) = 1 := by first | rfl | (simp only [rc_fre, rc_who, rc_frs, c_14, c_23, c_34, c_45, c_61, if_true, if_false, eq_self, not_true_eq_false, not_false_eq_true, ite_true, ite_false, ↓reduceIte]; done) | (simp [rc_fre, rc_who, rc_frs, c_14, c_23, c_34, c_45, c_61]; done)
            have e_8_1 : rc_who (ai 1) (ai 5) x (nI p9) (k + 1) = 0 := by first | rfl | (simp only [rc_fre, rc_who, rc_frs, c_14, c_23, c_34, c_45, c_61, if_true, if_false, eq_self, not_true_eq_false, not_false_eq_true, ite_true, ite_false, ↓reduceIte]; done) | (simp [rc_fre, rc_who, rc_frs, c_14, c_23, c_34, c_45, c_61]; done)
            refine ih_8 (k + 1) (na - (k + 1)) ls (by omega) ⟨rfl, (by omega), ?_⟩
            try dsimp only
            rw [e_8_0, e_8_1]
            exact lv_sub hl [4, 5, 6, 2, 1, 0] rfl
          · skip
            have c_61 : ¬ ((rc_who (ai 1) (ai 5) x (nI p9) k) = 0) := c_61
            refine lv_iload hx hb dX5_bringsOf_64 (lv_at hl 1 rfl) ?_
            refine lv_if_eq (tgt := 79) hx hb dX5_bringsOf_66 (by decide) (fun c_66 => ?_) (fun c_66 => ?_)
            · skip
              exact absurd c_66 (by decide)
            · skip
              refine lv_aload_n hx hb dX5_bringsOf_69 rfl (lv_at hl 2 rfl) ?_
              refine va_get (D := D) (ci := 5) (v := .ref (ad 5)) (C := RX5) (T := TX5) (N := 31) hx hb hts hin_X5 hown hK hP 0 rfl rfl 5 (by decide) hf_23 (fun _ h9 => h9) rfl dX5_bringsOf_70 ?_
              refine lv_iload hx hb dX5_bringsOf_73 (lv_at hl 6 rfl) ?_
              refine am_zald hx hb hK hP 5 2 rfl rfl k rfl (by omega) (by decide) dX5_bringsOf_75 ?_
              refine lv_if_ne (tgt := 83) hx hb dX5_bringsOf_76 (by decide) (fun c_76 => ?_) (fun c_76 => ?_)
              · skip
                have c_76 : ¬ ((ai 5) k) = 0 := c_76
                refine lv_iconst (v := 0) hx hb dX5_bringsOf_83 (by decide) ?_
                refine lv_istore (lv' := [(4, .int 0), (3, .int 1), (6, .int 1), (0, .ref (ad 0)), (1, .int (nI p9)), (2, .int x), (5, .int (nI k))]) hx hb dX5_bringsOf_84 hl (by decide) rfl (fun ls hl => ?_)
                refine lv_iinc (v := nI (k + 1)) (lv' := [(5, .int (nI (k + 1))), (4, .int 0), (3, .int 1), (6, .int 1), (0, .ref (ad 0)), (1, .int (nI p9)), (2, .int x)]) hx hb dX5_bringsOf_86 hl (k := 6) rfl (nI_1 k) (by decide) rfl (fun ls hl => ?_)
                refine lv_goto (tgt := 8) hx hb dX5_bringsOf_89 (by decide) ?_
                have e_8_0 : rc_fre (ai 1) x (nI p9) (k + 1) = 1 := by first | rfl | (simp only [rc_fre, rc_who, rc_frs, c_14, c_23, c_34, c_45, c_61, c_76, if_true, if_false, eq_self, not_true_eq_false, not_false_eq_true, ite_true, ite_false, ↓reduceIte]; done) | (simp [rc_fre, rc_who, rc_frs, c_14, c_23, c_34, c_45, c_61, c_76]; done)
                have e_8_1 : rc_who (ai 1) (ai 5) x (nI p9) (k + 1) = 0 := by first | rfl | (simp only [rc_fre, rc_who, rc_frs, c_14, c_23, c_34, c_45, c_61, c_76, if_true, if_false, eq_self, not_true_eq_false, not_false_eq_true, ite_true, ite_false, ↓reduceIte]; done) | (simp [rc_fre, rc_who, rc_frs, c_14, c_23, c_34, c_45, c_61, c_76]; done)
                refine ih_8 (k + 1) (na - (k + 1)) ls (by omega) ⟨rfl, (by omega), ?_⟩
                try dsimp only
                rw [e_8_0, e_8_1]
                exact lv_sub hl [4, 5, 6, 2, 1, 0] rfl
              · skip
                have c_76 : ((ai 5) k) = 0 := c_76
                refine lv_iconst (v := 1) hx hb dX5_bringsOf_79 (by decide) ?_
                refine lv_goto (tgt := 84) hx hb dX5_bringsOf_80 (by decide) ?_
                refine lv_istore (lv' := [(4, .int 1), (3, .int 1), (6, .int 1), (0, .ref (ad 0)), (1, .int (nI p9)), (2, .int x), (5, .int (nI k))]) hx hb dX5_bringsOf_84 hl (by decide) rfl (fun ls hl => ?_)
                refine lv_iinc (v := nI (k + 1)) (lv' := [(5, .int (nI (k + 1))), (4, .int 1), (3, .int 1), (6, .int 1), (0, .ref (ad 0)), (1, .int (nI p9)), (2, .int x)]) hx hb dX5_bringsOf_86 hl (k := 6) rfl (nI_1 k) (by decide) rfl (fun ls hl => ?_)
                refine lv_goto (tgt := 8) hx hb dX5_bringsOf_89 (by decide) ?_
                have e_8_0 : rc_fre (ai 1) x (nI p9) (k + 1) = 1 := by first | rfl | (simp only [rc_fre, rc_who, rc_frs, c_14, c_23, c_34, c_45, c_61, c_76, if_true, if_false, eq_self, not_true_eq_false, not_false_eq_true, ite_true, ite_false, ↓reduceIte]; done) | (simp [rc_fre, rc_who, rc_frs, c_14, c_23, c_34, c_45, c_61, c_76]; done)
                have e_8_1 : rc_who (ai 1) (ai 5) x (nI p9) (k + 1) = 1 := by first | rfl | (simp only [rc_fre, rc_who, rc_frs, c_14, c_23, c_34, c_45, c_61, c_76, if_true, if_false, eq_self, not_true_eq_false, not_false_eq_true, ite_true, ite_false, ↓reduceIte]; done) | (simp [rc_fre, rc_who, rc_frs, c_14, c_23, c_34, c_45, c_61, c_76]; done)
                refine ih_8 (k + 1) (na - (k + 1)) ls (by omega) ⟨rfl, (by omega), ?_⟩
                try dsimp only
                rw [e_8_0, e_8_1]
                exact lv_sub hl [4, 5, 6, 2, 1, 0] rfl
        · skip
          have c_45 : (rc_fre (ai 1) x (nI p9) k) = 0 := c_45
          refine lv_iload hx hb dX5_bringsOf_48 (lv_at hl 0 rfl) ?_
          refine lv_if_eq (tgt := 57) hx hb dX5_bringsOf_50 (by decide) (fun c_50 => ?_) (fun c_50 => ?_)
          · skip
            exact absurd c_50 (by decide)
          · skip
            refine lv_iconst (v := 1) hx hb dX5_bringsOf_53 (by decide) ?_
            refine lv_goto (tgt := 58) hx hb dX5_bringsOf_54 (by decide) ?_
            refine lv_istore_n (lv' := [(3, .int 1), (6, .int 1), (0, .ref (ad 0)), (1, .int (nI p9)), (2, .int x), (4, .int (rc_who (ai 1) (ai 5) x (nI p9) k)), (5, .int (nI k))]) hx hb dX5_bringsOf_58 rfl hl (by decide) rfl (fun ls hl => ?_)
            refine lv_iload hx hb dX5_bringsOf_59 (lv_at hl 5 rfl) ?_
            refine lv_if_eq (tgt := 83) hx hb dX5_bringsOf_61 (by decide) (fun c_61 => ?_) (fun c_61 => ?_)
            · skip
              have c_61 : (rc_who (ai 1) (ai 5) x (nI p9) k) = 0 := c_61
              refine lv_iconst (v := 0) hx hb dX5_bringsOf_83 (by decide) ?_
              refine lv_istore (lv' := [(4, .int 0), (3, .int 1), (6, .int 1), (0, .ref (ad 0)), (1, .int (nI p9)), (2, .int x), (5, .int (nI k))]) hx hb dX5_bringsOf_84 hl (by decide) rfl (fun ls hl => ?_)
              refine lv_iinc (v := nI (k + 1)) (lv' := [(5, .int (nI (k + 1))), (4, .int 0), (3, .int 1), (6, .int 1), (0, .ref (ad 0)), (1, .int (nI p9)), (2, .int x)]) hx hb dX5_bringsOf_86 hl (k := 6) rfl (nI_1 k) (by decide) rfl (fun ls hl => ?_)
              refine lv_goto (tgt := 8) hx hb dX5_bringsOf_89 (by decide) ?_
              have e_8_0 : rc_fre (ai 1) x (nI p9) (k + 1) = 1 := by first | rfl | (simp only [rc_fre, rc_who, rc_frs, c_14, c_23, c_34, c_45, c_61, if_true, if_false, eq_self, not_true_eq_false, not_false_eq_true, ite_true, ite_false, ↓reduceIte]; done) | (simp [rc_fre, rc_who, rc_frs, c_14, c_23, c_34, c_45, c_61]; done)
              have e_8_1 : rc_who (ai 1) (ai 5) x (nI p9) (k + 1) = 0 := by first | rfl | (simp only [rc_fre, rc_who, rc_frs, c_14, c_23, c_34, c_45, c_61, if_true, if_false, eq_self, not_true_eq_false, not_false_eq_true, ite_true, ite_false, ↓reduceIte]; done) | (simp [rc_fre, rc_who, rc_frs, c_14, c_23, c_34, c_45, c_61]; done)
              refine ih_8 (k + 1) (na - (k + 1)) ls (by omega) ⟨rfl, (by omega), ?_⟩
              try dsimp only
              rw [e_8_0, e_8_1]
              exact lv_sub hl [4, 5, 6, 2, 1, 0] rfl
            · skip
              have c_61 : ¬ ((rc_who (ai 1) (ai 5) x (nI p9) k) = 0) := c_61
              refine lv_iload hx hb dX5_bringsOf_64 (lv_at hl 1 rfl) ?_
              refine lv_if_eq (tgt := 79) hx hb dX5_bringsOf_66 (by decide) (fun c_66 => ?_) (fun c_66 => ?_)
              · skip
                exact absurd c_66 (by decide)
              · skip
                refine lv_aload_n hx hb dX5_bringsOf_69 rfl (lv_at hl 2 rfl) ?_
                refine va_get (D := D) (ci := 5) (v := .ref (ad 5)) (C := RX5) (T := TX5) (N := 31) hx hb hts hin_X5 hown hK hP 0 rfl rfl 5 (by decide) hf_23 (fun _ h9 => h9) rfl dX5_bringsOf_70 ?_
                refine lv_iload hx hb dX5_bringsOf_73 (lv_at hl 6 rfl) ?_
                refine am_zald hx hb hK hP 5 2 rfl rfl k rfl (by omega) (by decide) dX5_bringsOf_75 ?_
                refine lv_if_ne (tgt := 83) hx hb dX5_bringsOf_76 (by decide) (fun c_76 => ?_) (fun c_76 => ?_)
                · skip
                  have c_76 : ¬ ((ai 5) k) = 0 := c_76
                  refine lv_iconst (v := 0) hx hb dX5_bringsOf_83 (by decide) ?_
                  refine lv_istore (lv' := [(4, .int 0), (3, .int 1), (6, .int 1), (0, .ref (ad 0)), (1, .int (nI p9)), (2, .int x), (5, .int (nI k))]) hx hb dX5_bringsOf_84 hl (by decide) rfl (fun ls hl => ?_)
                  refine lv_iinc (v := nI (k + 1)) (lv' := [(5, .int (nI (k + 1))), (4, .int 0), (3, .int 1), (6, .int 1), (0, .ref (ad 0)), (1, .int (nI p9)), (2, .int x)]) hx hb dX5_bringsOf_86 hl (k := 6) rfl (nI_1 k) (by decide) rfl (fun ls hl => ?_)
                  refine lv_goto (tgt := 8) hx hb dX5_bringsOf_89 (by decide) ?_
                  have e_8_0 : rc_fre (ai 1) x (nI p9) (k + 1) = 1 := by first | rfl | (simp only [rc_fre, rc_who, rc_frs, c_14, c_23, c_34, c_45, c_61, c_76, if_true, if_false, eq_self, not_true_eq_false, not_false_eq_true, ite_true, ite_false, ↓reduceIte]; done) | (simp [rc_fre, rc_who, rc_frs, c_14, c_23, c_34, c_45, c_61, c_76]; done)
                  have e_8_1 : rc_who (ai 1) (ai 5) x (nI p9) (k + 1) = 0 := by first | rfl | (simp only [rc_fre, rc_who, rc_frs, c_14, c_23, c_34, c_45, c_61, c_76, if_true, if_false, eq_self, not_true_eq_false, not_false_eq_true, ite_true, ite_false, ↓reduceIte]; done) | (simp [rc_fre, rc_who, rc_frs, c_14, c_23, c_34, c_45, c_61, c_76]; done)
                  refine ih_8 (k + 1) (na - (k + 1)) ls (by omega) ⟨rfl, (by omega), ?_⟩
                  try dsimp only
                  rw [e_8_0, e_8_1]
                  exact lv_sub hl [4, 5, 6, 2, 1, 0] rfl
                · skip
                  have c_76 : ((ai 5) k) = 0 := c_76
                  refine lv_iconst (v := 1) hx hb dX5_bringsOf_79 (by decide) ?_
                  refine lv_goto (tgt := 84) hx hb dX5_bringsOf_80 (by decide) ?_
                  refine lv_istore (lv' := [(4, .int 1), (3, .int 1), (6, .int 1), (0, .ref (ad 0)), (1, .int (nI p9)), (2, .int x), (5, .int (nI k))]) hx hb dX5_bringsOf_84 hl (by decide) rfl (fun ls hl => ?_)
                  refine lv_iinc (v := nI (k + 1)) (lv' := [(5, .int (nI (k + 1))), (4, .int 1), (3, .int 1), (6, .int 1), (0, .ref (ad 0)), (1, .int (nI p9)), (2, .int x)]) hx hb dX5_bringsOf_86 hl (k := 6) rfl (nI_1 k) (by decide) rfl (fun ls hl => ?_)
                  refine lv_goto (tgt := 8) hx hb dX5_bringsOf_89 (by decide) ?_
                  have e_8_0 : rc_fre (ai 1) x (nI p9) (k + 1) = 1 := by first | rfl | (simp only [rc_fre, rc_who, rc_frs, c_14, c_23, c_34, c_45, c_61, c_76, if_true, if_false, eq_self, not_true_eq_false, not_false_eq_true, ite_true, ite_false, ↓reduceIte]; done) | (simp [rc_fre, rc_who, rc_frs, c_14, c_23, c_34, c_45, c_61, c_76]; done)
                  have e_8_1 : rc_who (ai 1) (ai 5) x (nI p9) (k + 1) = 1 := by first | rfl | (simp only [rc_fre, rc_who, rc_frs, c_14, c_23, c_34, c_45, c_61, c_76, if_true, if_false, eq_self, not_true_eq_false, not_false_eq_true, ite_true, ite_false, ↓reduceIte]; done) | (simp [rc_fre, rc_who, rc_frs, c_14, c_23, c_34, c_45, c_61, c_76]; done)
                  refine ih_8 (k + 1) (na - (k + 1)) ls (by omega) ⟨rfl, (by omega), ?_⟩
                  try dsimp only
                  rw [e_8_0, e_8_1]
                  exact lv_sub hl [4, 5, 6, 2, 1, 0] rfl

set_option maxHeartbeats 4000000 in
set_option maxRecDepth 100000 in
theorem c_X5_restOf (l : Launch) (D : va_G) (ad : Nat → Nat) (cI cL cZ : ClassId) (fi : Nat → Int32) (fl : Nat → Int64) (ai : Nat → Nat → Int32) (al : Nat → Nat → Int64) (x : Int32) (na : Nat) (hna : fi 0 = nI na) (hnl : na ≤ 10) : Met l yX5_restOf wsX5_restOf (am_rm 1 21) (va_Pc [.ref (ad 0), .int x] (am_R nwL vwCl D (rm_w ad cI cL cZ fi fl ai al) [(cI, .int), (cL, .long), (cZ, .boolean)])) (vp_Si (fun r => r = rc_rest (ai 1) x na)) 0 0 am_No := by
  refine am_startR (cc := cX5_restOf) (maxL := 4) (ret := (some .int)) (by decide) rfl (Nat.le_of_ble_eq_true rfl) [(0, .ref (ad 0)), (1, .int x)] rfl ?_
  intro p e s m below meth c ls hx hb hr hml hown hts hlocks hP hK hN hl
  have hown : s.vm.findClass RX5 = some m.cls := hown
  have ht := am_ht hts
  have hin_X5 : ∀ w ∈ u_ws RX5 TX5 31, w ∈ wsX5_restOf := fun w h => List.mem_cons_of_mem _ (am_inX5 w h)
  have hf_7 := ht 431 (.fieldLink RX5 7 "ApartCostModel" "freed" "[I") rfl
  have hf_86 := ht 430 (.fieldLink RX5 86 "ApartCostModel" "count" "I") rfl
  refine lv_sipush (v := 4095) hx hb dX5_restOf_0 (by decide) ?_
  refine lv_istore_n (lv' := [(2, .int 4095), (0, .ref (ad 0)), (1, .int x)]) hx hb dX5_restOf_3 rfl hl (by decide) rfl (fun ls hl => ?_)
  refine lv_iconst (v := 0) hx hb dX5_restOf_4 (by decide) ?_
  refine lv_istore_n (lv' := [(3, .int 0), (2, .int 4095), (0, .ref (ad 0)), (1, .int x)]) hx hb dX5_restOf_5 rfl hl (by decide) rfl (fun ls hl => ?_)
  refine am_loopR (σ := Nat) (fun q n9 ls => n9 = na - q ∧ q ≤ na ∧ lv_has ls 4 [(0, .ref (ad 0)), (1, .int x), (2, .int (rc_rest (ai 1) x q)), (3, .int (nI q))]) ?_ 0 (na - 0) ls ⟨rfl, (by omega), lv_sub hl [2, 3, 1, 0] rfl⟩
  rintro k n9 ls ⟨hn_6, hk, hl⟩ ih_6
  refine lv_iload_n hx hb dX5_restOf_6 rfl (lv_at hl 3 rfl) ?_
  refine lv_aload_n hx hb dX5_restOf_7 rfl (lv_at hl 0 rfl) ?_
  refine va_get (D := D) (ci := 5) (v := .int (fi 0)) (C := RX5) (T := TX5) (N := 31) hx hb hts hin_X5 hown hK hP 0 rfl rfl 0 (by decide) hf_86 (fun _ h9 => h9) rfl dX5_restOf_8 ?_
  refine lv_icmp_ge (tgt := 65) hx hb dX5_restOf_11 (by decide) (fun c_11 => ?_) (fun c_11 => ?_)
  · skip
    have c_11 : (fi 0) ≤ (nI k) := c_11
    have hke_11 : na ≤ k := (am_ge hna (by omega) (by omega)).mp c_11
    have hkq_11 : na = k := by omega
    subst hkq_11
    refine lv_iload_n hx hb dX5_restOf_65 rfl (lv_at hl 2 rfl) ?_
    exact am_iretR hx hb hr hlocks (by first | rfl | (simp only [c_11, if_true, if_false, eq_self, not_true_eq_false, not_false_eq_true, ite_true, ite_false, ↓reduceIte]; done) | (simp [c_11]; done)) dX5_restOf_66
  · skip
    have c_11 : ¬ ((fi 0) ≤ (nI k)) := c_11
    have hkl_11 : k < na := Nat.lt_of_not_le (fun z => c_11 ((am_ge hna (by omega) (by omega)).mpr z))
    refine lv_iload_n hx hb dX5_restOf_14 rfl (lv_at hl 1 rfl) ?_
    refine lv_iload_n hx hb dX5_restOf_15 rfl (lv_at hl 3 rfl) ?_
    refine am_callRi (W.runS (As := [.int x, .int (nI k)]) (rest := []) ⟨hx, hb, hml, hown, hts⟩ (c_X5_has l D _ _ x (nI k)) (va_cwS 2 hts (am_gS (am_in 554 rfl) (am_in 555 rfl) (am_in 35 rfl) (am_in 556 rfl)) rfl rfl rfl (by decide +kernel) ⟨Nat.le_of_ble_eq_true rfl, Nat.le_of_ble_eq_true rfl⟩) (am_preSR hP hK hN) rfl rfl hl.1 rfl (lv_room (Nat.le_of_ble_eq_true rfl)) dX5_restOf_16 ⟨Nat.zero_le _, Nat.zero_le _⟩) ?_
    refine lv_if_eq (tgt := 57) hx hb dX5_restOf_19 (by decide) (fun c_19 => ?_) (fun c_19 => ?_)
    · skip
      have c_19 : (rc_has x (nI k)) = 0 := c_19
      refine lv_iload_n hx hb dX5_restOf_57 rfl (lv_at hl 2 rfl) ?_
      refine lv_istore_n (lv' := [(2, .int (rc_rest (ai 1) x k)), (0, .ref (ad 0)), (1, .int x), (3, .int (nI k))]) hx hb dX5_restOf_58 rfl hl (by decide) rfl (fun ls hl => ?_)
      refine lv_iinc (v := nI (k + 1)) (lv' := [(3, .int (nI (k + 1))), (2, .int (rc_rest (ai 1) x k)), (0, .ref (ad 0)), (1, .int x)]) hx hb dX5_restOf_59 hl (k := 3) rfl (nI_1 k) (by decide) rfl (fun ls hl => ?_)
      refine lv_goto (tgt := 6) hx hb dX5_restOf_62 (by decide) ?_
      have e_6_0 : rc_rest (ai 1) x (k + 1) = rc_rest (ai 1) x k := by first | rfl | (simp only [rc_rest, c_11, c_19, if_true, if_false, eq_self, not_true_eq_false, not_false_eq_true, ite_true, ite_false, ↓reduceIte]; done) | (simp [rc_rest, c_11, c_19]; done)
      refine ih_6 (k + 1) (na - (k + 1)) ls (by omega) ⟨rfl, (by omega), ?_⟩
      try dsimp only
      rw [e_6_0]
      exact lv_sub hl [2, 3, 1, 0] rfl
    · skip
      have c_19 : ¬ ((rc_has x (nI k)) = 0) := c_19
      refine lv_aload_n hx hb dX5_restOf_22 rfl (lv_at hl 0 rfl) ?_
      refine va_get (D := D) (ci := 5) (v := .ref (ad 1)) (C := RX5) (T := TX5) (N := 31) hx hb hts hin_X5 hown hK hP 0 rfl rfl 1 (by decide) hf_7 (fun _ h9 => h9) rfl dX5_restOf_23 ?_
      refine lv_iload_n hx hb dX5_restOf_26 rfl (lv_at hl 3 rfl) ?_
      refine am_iald hx hb hK hP 1 0 rfl rfl k rfl (by omega) (by decide) dX5_restOf_27 ?_
      refine lv_if_lt (tgt := 57) hx hb dX5_restOf_28 (by decide) (fun c_28 => ?_) (fun c_28 => ?_)
      · skip
        have c_28 : ((ai 1) k) < 0 := c_28
        refine lv_iload_n hx hb dX5_restOf_57 rfl (lv_at hl 2 rfl) ?_
        refine lv_istore_n (lv' := [(2, .int (rc_rest (ai 1) x k)), (0, .ref (ad 0)), (1, .int x), (3, .int (nI k))]) hx hb dX5_restOf_58 rfl hl (by decide) rfl (fun ls hl => ?_)
        refine lv_iinc (v := nI (k + 1)) (lv' := [(3, .int (nI (k + 1))), (2, .int (rc_rest (ai 1) x k)), (0, .ref (ad 0)), (1, .int x)]) hx hb dX5_restOf_59 hl (k := 3) rfl (nI_1 k) (by decide) rfl (fun ls hl => ?_)
        refine lv_goto (tgt := 6) hx hb dX5_restOf_62 (by decide) ?_
        have e_6_0 : rc_rest (ai 1) x (k + 1) = rc_rest (ai 1) x k := by first | rfl | (simp only [rc_rest, c_11, c_19, c_28, if_true, if_false, eq_self, not_true_eq_false, not_false_eq_true, ite_true, ite_false, ↓reduceIte]; done) | (simp [rc_rest, c_11, c_19, c_28]; done)
        refine ih_6 (k + 1) (na - (k + 1)) ls (by omega) ⟨rfl, (by omega), ?_⟩
        try dsimp only
        rw [e_6_0]
        exact lv_sub hl [2, 3, 1, 0] rfl
      · skip
        have c_28 : ¬ (((ai 1) k) < 0) := c_28
        refine lv_iload_n hx hb dX5_restOf_31 rfl (lv_at hl 2 rfl) ?_
        refine lv_aload_n hx hb dX5_restOf_32 rfl (lv_at hl 0 rfl) ?_
        refine va_get (D := D) (ci := 5) (v := .ref (ad 1)) (C := RX5) (T := TX5) (N := 31) hx hb hts hin_X5 hown hK hP 0 rfl rfl 1 (by decide) hf_7 (fun _ h9 => h9) rfl dX5_restOf_33 ?_
        refine lv_iload_n hx hb dX5_restOf_36 rfl (lv_at hl 3 rfl) ?_
        refine am_iald hx hb hK hP 1 0 rfl rfl k rfl (by omega) (by decide) dX5_restOf_37 ?_
        refine am_callRi (W.runS (As := [.int (rc_rest (ai 1) x k), .int ((ai 1) k)]) (rest := []) ⟨hx, hb, hml, hown, hts⟩ (c_X5_has l D _ _ (rc_rest (ai 1) x k) ((ai 1) k)) (va_cwS 2 hts (am_gS (am_in 554 rfl) (am_in 555 rfl) (am_in 35 rfl) (am_in 556 rfl)) rfl rfl rfl (by decide +kernel) ⟨Nat.le_of_ble_eq_true rfl, Nat.le_of_ble_eq_true rfl⟩) (am_preSR hP hK hN) rfl rfl hl.1 rfl (lv_room (Nat.le_of_ble_eq_true rfl)) dX5_restOf_38 ⟨Nat.zero_le _, Nat.zero_le _⟩) ?_
        refine lv_if_eq (tgt := 57) hx hb dX5_restOf_41 (by decide) (fun c_41 => ?_) (fun c_41 => ?_)
        · skip
          have c_41 : (rc_has (rc_rest (ai 1) x k) ((ai 1) k)) = 0 := c_41
          refine lv_iload_n hx hb dX5_restOf_57 rfl (lv_at hl 2 rfl) ?_
          refine lv_istore_n (lv' := [(2, .int (rc_rest (ai 1) x k)), (0, .ref (ad 0)), (1, .int x), (3, .int (nI k))]) hx hb dX5_restOf_58 rfl hl (by decide) rfl (fun ls hl => ?_)
          refine lv_iinc (v := nI (k + 1)) (lv' := [(3, .int (nI (k + 1))), (2, .int (rc_rest (ai 1) x k)), (0, .ref (ad 0)), (1, .int x)]) hx hb dX5_restOf_59 hl (k := 3) rfl (nI_1 k) (by decide) rfl (fun ls hl => ?_)
          refine lv_goto (tgt := 6) hx hb dX5_restOf_62 (by decide) ?_
          have e_6_0 : rc_rest (ai 1) x (k + 1) = rc_rest (ai 1) x k := by first | rfl | (simp only [rc_rest, c_11, c_19, c_28, c_41, if_true, if_false, eq_self, not_true_eq_false, not_false_eq_true, ite_true, ite_false, ↓reduceIte]; done) | (simp [rc_rest, c_11, c_19, c_28, c_41]; done)
          refine ih_6 (k + 1) (na - (k + 1)) ls (by omega) ⟨rfl, (by omega), ?_⟩
          try dsimp only
          rw [e_6_0]
          exact lv_sub hl [2, 3, 1, 0] rfl
        · skip
          have c_41 : ¬ ((rc_has (rc_rest (ai 1) x k) ((ai 1) k)) = 0) := c_41
          refine lv_iload_n hx hb dX5_restOf_44 rfl (lv_at hl 2 rfl) ?_
          refine lv_iconst (v := 1) hx hb dX5_restOf_45 (by decide) ?_
          refine lv_aload_n hx hb dX5_restOf_46 rfl (lv_at hl 0 rfl) ?_
          refine va_get (D := D) (ci := 5) (v := .ref (ad 1)) (C := RX5) (T := TX5) (N := 31) hx hb hts hin_X5 hown hK hP 0 rfl rfl 1 (by decide) hf_7 (fun _ h9 => h9) rfl dX5_restOf_47 ?_
          refine lv_iload_n hx hb dX5_restOf_50 rfl (lv_at hl 3 rfl) ?_
          refine am_iald hx hb hK hP 1 0 rfl rfl k rfl (by omega) (by decide) dX5_restOf_51 ?_
          refine lv_ishl hx hb dX5_restOf_52 ?_
          refine lv_isub hx hb dX5_restOf_53 ?_
          refine lv_goto (tgt := 58) hx hb dX5_restOf_54 (by decide) ?_
          refine lv_istore_n (lv' := [(2, .int ((rc_rest (ai 1) x k) - ((1 : Int32) <<< (((ai 1) k) &&& 31)))), (0, .ref (ad 0)), (1, .int x), (3, .int (nI k))]) hx hb dX5_restOf_58 rfl hl (by decide) rfl (fun ls hl => ?_)
          refine lv_iinc (v := nI (k + 1)) (lv' := [(3, .int (nI (k + 1))), (2, .int ((rc_rest (ai 1) x k) - ((1 : Int32) <<< (((ai 1) k) &&& 31)))), (0, .ref (ad 0)), (1, .int x)]) hx hb dX5_restOf_59 hl (k := 3) rfl (nI_1 k) (by decide) rfl (fun ls hl => ?_)
          refine lv_goto (tgt := 6) hx hb dX5_restOf_62 (by decide) ?_
          have e_6_0 : rc_rest (ai 1) x (k + 1) = (rc_rest (ai 1) x k) - ((1 : Int32) <<< (((ai 1) k) &&& 31)) := by first | rfl | (simp only [rc_rest, c_11, c_19, c_28, c_41, if_true, if_false, eq_self, not_true_eq_false, not_false_eq_true, ite_true, ite_false, ↓reduceIte]; done) | (simp [rc_rest, c_11, c_19, c_28, c_41]; done)
          refine ih_6 (k + 1) (na - (k + 1)) ls (by omega) ⟨rfl, (by omega), ?_⟩
          try dsimp only
          rw [e_6_0]
          exact lv_sub hl [2, 3, 1, 0] rfl

set_option maxHeartbeats 4000000 in
set_option maxRecDepth 100000 in
theorem c_X5_valueOf (l : Launch) (D : va_G) (ad : Nat → Nat) (cI cL cZ : ClassId) (fi : Nat → Int32) (fl : Nat → Int64) (ai : Nat → Nat → Int32) (al : Nat → Nat → Int64) (x : Int32) (na : Nat) (nr : Nat) (hna : fi 0 = nI na) (hnl : na ≤ 10) (hnr : fi 1 = nI nr) (hnrl : nr ≤ 16) (hbe : ∀ p, p < 12 → ¬ ((ai 11) p).toInt64 = 0) : Met l yX5_valueOf wsX5_valueOf (am_rm 2 47) (va_Pc [.ref (ad 0), .int x] (am_R nwL vwCl D (rm_w ad cI cL cZ fi fl ai al) [(cI, .int), (cL, .long), (cZ, .boolean)])) (vp_Sl (fun r => r = rc_val (ai 1) (ai 5) (ai 10) (ai 11) (ai 12) (al 9) (al 13) (fi 7) (fi 8) na nr x)) 0 0 am_No := by
  refine am_startR (cc := cX5_valueOf) (maxL := 6) (ret := (some .long)) (by decide) rfl (Nat.le_of_ble_eq_true rfl) [(0, .ref (ad 0)), (1, .int x)] rfl ?_
  intro p e s m below meth c ls hx hb hr hml hown hts hlocks hP hK hN hl
  have hown : s.vm.findClass RX5 = some m.cls := hown
  have ht := am_ht hts
  have hin_X5 : ∀ w ∈ u_ws RX5 TX5 31, w ∈ wsX5_valueOf := fun w h => List.mem_cons_of_mem _ (am_inX5 w h)
  have hf_116 := ht 444 (.fieldLink RX5 116 "ApartCostModel" "restCount" "I") rfl
  have hf_45 := ht 442 (.fieldLink RX5 45 "ApartCostModel" "rests" "[I") rfl
  have hf_48 := ht 443 (.fieldLink RX5 48 "ApartCostModel" "restWorths" "[J") rfl
  refine lv_lconst (v := 0) hx hb dX5_valueOf_0 (by decide) ?_
  refine lv_lstore_n (lv' := [(2, .long 0), (0, .ref (ad 0)), (1, .int x)]) hx hb dX5_valueOf_1 rfl hl (by decide) rfl (fun ls hl => ?_)
  refine lv_iconst (v := 0) hx hb dX5_valueOf_2 (by decide) ?_
  refine lv_istore (lv' := [(4, .int 0), (2, .long 0), (0, .ref (ad 0)), (1, .int x)]) hx hb dX5_valueOf_3 hl (by decide) rfl (fun ls hl => ?_)
  refine am_loopR (σ := Nat) (fun q n9 ls => n9 = 12 - q ∧ q ≤ 12 ∧ lv_has ls 6 [(0, .ref (ad 0)), (1, .int x), (2, .long (rc_vs (rc_brings (ai 1) (ai 5) (ai 10) (ai 11) (al 9) (fi 7) (fi 8) na x) q)), (4, .int (nI q))]) ?_ 0 (12 - 0) ls ⟨rfl, (by omega), lv_sub hl [2, 3, 1, 0] rfl⟩
  rintro k n9 ls ⟨hn_5, hk, hl⟩ ih_5
  refine lv_iload hx hb dX5_valueOf_5 (lv_at hl 3 rfl) ?_
  refine lv_bipush (v := 12) hx hb dX5_valueOf_7 (by decide) ?_
  refine lv_icmp_ge (tgt := 28) hx hb dX5_valueOf_9 (by decide) (fun c_9 => ?_) (fun c_9 => ?_)
  · skip
    have c_9 : 12 ≤ (nI k) := c_9
    have hke_9 : 12 ≤ k := (am_ge (rfl : (12 : Int32) = nI 12) (by decide) (by omega)).mp c_9
    have hkq_9 : k = 12 := by omega
    subst hkq_9
    refine lv_aload_n hx hb dX5_valueOf_28 rfl (lv_at hl 0 rfl) ?_
    refine lv_iload_n hx hb dX5_valueOf_29 rfl (lv_at hl 1 rfl) ?_
    refine am_callRi (W.runV (As := [.int x]) (rest := []) ⟨hx, hb, hml, hown, hts⟩ (c_X5_restOf l D ad cI cL cZ fi fl ai al x na hna hnl) (cwV 1 hts (am_gV (am_in 572 rfl) (am_in 573 rfl) (am_in 18 rfl) (am_in 35 rfl) (am_in 574 rfl)) rfl rfl rfl (by decide +kernel) ⟨Nat.le_of_ble_eq_true rfl, Nat.le_of_ble_eq_true rfl⟩) (am_preVR 5 0 rfl rfl rfl hP hK hN) rfl rfl hl.1 rfl (lv_room (Nat.le_of_ble_eq_true rfl)) dX5_valueOf_30 ⟨Nat.zero_le _, Nat.zero_le _⟩) ?_
    refine lv_istore (lv' := [(4, .int (rc_rest (ai 1) x na)), (0, .ref (ad 0)), (1, .int x), (2, .long (rc_vs (rc_brings (ai 1) (ai 5) (ai 10) (ai 11) (al 9) (fi 7) (fi 8) na x) 12))]) hx hb dX5_valueOf_33 hl (by decide) rfl (fun ls hl => ?_)
    refine lv_iconst (v := 0) hx hb dX5_valueOf_35 (by decide) ?_
    refine lv_istore (lv' := [(5, .int 0), (4, .int (rc_rest (ai 1) x na)), (0, .ref (ad 0)), (1, .int x), (2, .long (rc_vs (rc_brings (ai 1) (ai 5) (ai 10) (ai 11) (al 9) (fi 7) (fi 8) na x) 12))]) hx hb dX5_valueOf_36 hl (by decide) rfl (fun ls hl => ?_)
    refine am_loopR (σ := Nat) (fun q n9 ls => n9 = nr - q ∧ q ≤ nr ∧ lv_has ls 6 [(0, .ref (ad 0)), (1, .int x), (2, .long (rc_vr (ai 12) (al 13) (rc_rest (ai 1) x na) (rc_vs (rc_brings (ai 1) (ai 5) (ai 10) (ai 11) (al 9) (fi 7) (fi 8) na x) 12) q)), (4, .int (rc_rest (ai 1) x na)), (5, .int (nI q))]) ?_ 0 (nr - 0) ls ⟨rfl, (by omega), lv_sub hl [2, 3, 4, 1, 0] rfl⟩
    rintro h n9 ls ⟨hn_38, hh, hl⟩ ih_38
    refine lv_iload hx hb dX5_valueOf_38 (lv_at hl 4 rfl) ?_
    refine lv_aload_n hx hb dX5_valueOf_40 rfl (lv_at hl 0 rfl) ?_
    refine va_get (D := D) (ci := 5) (v := .int (fi 1)) (C := RX5) (T := TX5) (N := 31) hx hb hts hin_X5 hown hK hP 0 rfl rfl 14 (by decide) hf_116 (fun _ h9 => h9) rfl dX5_valueOf_41 ?_
    refine lv_icmp_ge (tgt := 83) hx hb dX5_valueOf_44 (by decide) (fun c_44 => ?_) (fun c_44 => ?_)
    · skip
      have c_44 : (fi 1) ≤ (nI h) := c_44
      have hke_44 : nr ≤ h := (am_ge hnr (by omega) (by omega)).mp c_44
      have hkq_44 : nr = h := by omega
      subst hkq_44
      refine lv_lload_n hx hb dX5_valueOf_83 rfl (lv_at hl 2 rfl) ?_
      exact am_lretR hx hb hr hlocks (by first | rfl | (simp only [c_44, if_true, if_false, eq_self, not_true_eq_false, not_false_eq_true, ite_true, ite_false, ↓reduceIte]; done) | (simp [c_44]; done)) dX5_valueOf_84
    · skip
      have c_44 : ¬ ((fi 1) ≤ (nI h)) := c_44
      have hkl_44 : h < nr := Nat.lt_of_not_le (fun z => c_44 ((am_ge hnr (by omega) (by omega)).mpr z))
      refine lv_lload_n hx hb dX5_valueOf_47 rfl (lv_at hl 2 rfl) ?_
      refine lv_aload_n hx hb dX5_valueOf_48 rfl (lv_at hl 0 rfl) ?_
      refine va_get (D := D) (ci := 5) (v := .ref (ad 12)) (C := RX5) (T := TX5) (N := 31) hx hb hts hin_X5 hown hK hP 0 rfl rfl 12 (by decide) hf_45 (fun _ h9 => h9) rfl dX5_valueOf_49 ?_
      refine lv_iload hx hb dX5_valueOf_52 (lv_at hl 4 rfl) ?_
      refine am_iald hx hb hK hP 12 0 rfl rfl h rfl (by omega) (by decide) dX5_valueOf_54 ?_
      refine lv_iload hx hb dX5_valueOf_55 (lv_at hl 3 rfl) ?_
      refine lv_icmp_ne (tgt := 74) hx hb dX5_valueOf_57 (by decide) (fun c_57 => ?_) (fun c_57 => ?_)
      · skip
        have c_57 : ¬ ((ai 12) h) = (rc_rest (ai 1) x na) := c_57
        refine lv_lconst (v := 0) hx hb dX5_valueOf_74 (by decide) ?_
        refine lv_ladd hx hb dX5_valueOf_75 ?_
        refine lv_lstore_n (lv' := [(2, .long ((rc_vr (ai 12) (al 13) (rc_rest (ai 1) x na) (rc_vs (rc_brings (ai 1) (ai 5) (ai 10) (ai 11) (al 9) (fi 7) (fi 8) na x) 12) h) + 0)), (0, .ref (ad 0)), (1, .int x), (4, .int (rc_rest (ai 1) x na)), (5, .int (nI h))]) hx hb dX5_valueOf_76 rfl hl (by decide) rfl (fun ls hl => ?_)
        refine lv_iinc (v := nI (h + 1)) (lv' := [(5, .int (nI (h + 1))), (2, .long ((rc_vr (ai 12) (al 13) (rc_rest (ai 1) x na) (rc_vs (rc_brings (ai 1) (ai 5) (ai 10) (ai 11) (al 9) (fi 7) (fi 8) na x) 12) h) + 0)), (0, .ref (ad 0)), (1, .int x), (4, .int (rc_rest (ai 1) x na))]) hx hb dX5_valueOf_77 hl (k := 4) rfl (nI_1 h) (by decide) rfl (fun ls hl => ?_)
        refine lv_goto (tgt := 38) hx hb dX5_valueOf_80 (by decide) ?_
        have e_38_0 : rc_vr (ai 12) (al 13) (rc_rest (ai 1) x na) (rc_vs (rc_brings (ai 1) (ai 5) (ai 10) (ai 11) (al 9) (fi 7) (fi 8) na x) 12) (h + 1) = (rc_vr (ai 12) (al 13) (rc_rest (ai 1) x na) (rc_vs (rc_brings (ai 1) (ai 5) (ai 10) (ai 11) (al 9) (fi 7) (fi 8) na x) 12) h) + 0 := by first | rfl | (simp only [rc_vr, c_44, c_57, if_true, if_false, eq_self, not_true_eq_false, not_false_eq_true, ite_true, ite_false, ↓reduceIte]; done) | (simp [rc_vr, c_44, c_57]; done)
        refine ih_38 (h + 1) (nr - (h + 1)) ls (by omega) ⟨rfl, (by omega), ?_⟩
        try dsimp only
        rw [e_38_0]
        exact lv_sub hl [2, 3, 1, 4, 0] rfl
      · skip
        have c_57 : ((ai 12) h) = (rc_rest (ai 1) x na) := c_57
        refine lv_ldc2 (v := 27720) hx hb hown (ht 571 _ rfl) dX5_valueOf_60 ?_
        refine lv_aload_n hx hb dX5_valueOf_63 rfl (lv_at hl 0 rfl) ?_
        refine va_get (D := D) (ci := 5) (v := .ref (ad 13)) (C := RX5) (T := TX5) (N := 31) hx hb hts hin_X5 hown hK hP 0 rfl rfl 13 (by decide) hf_48 (fun _ h9 => h9) rfl dX5_valueOf_64 ?_
        refine lv_iload hx hb dX5_valueOf_67 (lv_at hl 4 rfl) ?_
        refine am_lald hx hb hK hP 13 1 rfl rfl h rfl (by omega) (by decide) dX5_valueOf_69 ?_
        refine lv_lmul hx hb dX5_valueOf_70 ?_
        refine lv_goto (tgt := 75) hx hb dX5_valueOf_71 (by decide) ?_
        refine lv_ladd hx hb dX5_valueOf_75 ?_
        refine lv_lstore_n (lv' := [(2, .long ((rc_vr (ai 12) (al 13) (rc_rest (ai 1) x na) (rc_vs (rc_brings (ai 1) (ai 5) (ai 10) (ai 11) (al 9) (fi 7) (fi 8) na x) 12) h) + (27720 * ((al 13) h)))), (0, .ref (ad 0)), (1, .int x), (4, .int (rc_rest (ai 1) x na)), (5, .int (nI h))]) hx hb dX5_valueOf_76 rfl hl (by decide) rfl (fun ls hl => ?_)
        refine lv_iinc (v := nI (h + 1)) (lv' := [(5, .int (nI (h + 1))), (2, .long ((rc_vr (ai 12) (al 13) (rc_rest (ai 1) x na) (rc_vs (rc_brings (ai 1) (ai 5) (ai 10) (ai 11) (al 9) (fi 7) (fi 8) na x) 12) h) + (27720 * ((al 13) h)))), (0, .ref (ad 0)), (1, .int x), (4, .int (rc_rest (ai 1) x na))]) hx hb dX5_valueOf_77 hl (k := 4) rfl (nI_1 h) (by decide) rfl (fun ls hl => ?_)
        refine lv_goto (tgt := 38) hx hb dX5_valueOf_80 (by decide) ?_
        have e_38_0 : rc_vr (ai 12) (al 13) (rc_rest (ai 1) x na) (rc_vs (rc_brings (ai 1) (ai 5) (ai 10) (ai 11) (al 9) (fi 7) (fi 8) na x) 12) (h + 1) = (rc_vr (ai 12) (al 13) (rc_rest (ai 1) x na) (rc_vs (rc_brings (ai 1) (ai 5) (ai 10) (ai 11) (al 9) (fi 7) (fi 8) na x) 12) h) + (27720 * ((al 13) h)) := by first | rfl | (simp only [rc_vr, c_44, c_57, if_true, if_false, eq_self, not_true_eq_false, not_false_eq_true, ite_true, ite_false, ↓reduceIte]; done) | (simp [rc_vr, c_44, c_57]; done)
        refine ih_38 (h + 1) (nr - (h + 1)) ls (by omega) ⟨rfl, (by omega), ?_⟩
        try dsimp only
        rw [e_38_0]
        exact lv_sub hl [2, 3, 1, 4, 0] rfl
  · skip
    have c_9 : ¬ (12 ≤ (nI k)) := c_9
    have hkl_9 : k < 12 := Nat.lt_of_not_le (fun z => c_9 ((am_ge (rfl : (12 : Int32) = nI 12) (by decide) (by omega)).mpr z))
    refine lv_lload_n hx hb dX5_valueOf_12 rfl (lv_at hl 2 rfl) ?_
    refine lv_aload_n hx hb dX5_valueOf_13 rfl (lv_at hl 0 rfl) ?_
    refine lv_iload hx hb dX5_valueOf_14 (lv_at hl 3 rfl) ?_
    refine lv_iload_n hx hb dX5_valueOf_16 rfl (lv_at hl 1 rfl) ?_
    refine am_callRl (W.runV (As := [.int (nI k), .int x]) (rest := [.long (rc_vs (rc_brings (ai 1) (ai 5) (ai 10) (ai 11) (al 9) (fi 7) (fi 8) na x) k)]) ⟨hx, hb, hml, hown, hts⟩ (c_X5_bringsOf l D ad cI cL cZ fi fl ai al k x na hna hnl hbe (by omega)) (cwV 2 hts (am_gV (am_in 568 rfl) (am_in 569 rfl) (am_in 17 rfl) (am_in 35 rfl) (am_in 570 rfl)) rfl rfl rfl (by decide +kernel) ⟨Nat.le_of_ble_eq_true rfl, Nat.le_of_ble_eq_true rfl⟩) (am_preVR 5 0 rfl rfl rfl hP hK hN) rfl rfl hl.1 rfl (lv_room (Nat.le_of_ble_eq_true rfl)) dX5_valueOf_17 ⟨Nat.zero_le _, Nat.zero_le _⟩) ?_
    refine lv_ladd hx hb dX5_valueOf_20 ?_
    refine lv_lstore_n (lv' := [(2, .long ((rc_vs (rc_brings (ai 1) (ai 5) (ai 10) (ai 11) (al 9) (fi 7) (fi 8) na x) k) + (rc_brings (ai 1) (ai 5) (ai 10) (ai 11) (al 9) (fi 7) (fi 8) na x k))), (0, .ref (ad 0)), (1, .int x), (4, .int (nI k))]) hx hb dX5_valueOf_21 rfl hl (by decide) rfl (fun ls hl => ?_)
    refine lv_iinc (v := nI (k + 1)) (lv' := [(4, .int (nI (k + 1))), (2, .long ((rc_vs (rc_brings (ai 1) (ai 5) (ai 10) (ai 11) (al 9) (fi 7) (fi 8) na x) k) + (rc_brings (ai 1) (ai 5) (ai 10) (ai 11) (al 9) (fi 7) (fi 8) na x k))), (0, .ref (ad 0)), (1, .int x)]) hx hb dX5_valueOf_22 hl (k := 3) rfl (nI_1 k) (by decide) rfl (fun ls hl => ?_)
    refine lv_goto (tgt := 5) hx hb dX5_valueOf_25 (by decide) ?_
    have e_5_0 : rc_vs (rc_brings (ai 1) (ai 5) (ai 10) (ai 11) (al 9) (fi 7) (fi 8) na x) (k + 1) = (rc_vs (rc_brings (ai 1) (ai 5) (ai 10) (ai 11) (al 9) (fi 7) (fi 8) na x) k) + (rc_brings (ai 1) (ai 5) (ai 10) (ai 11) (al 9) (fi 7) (fi 8) na x k) := by first | rfl | (simp only [rc_vs, c_9, if_true, if_false, eq_self, not_true_eq_false, not_false_eq_true, ite_true, ite_false, ↓reduceIte]; done) | (simp [rc_vs, c_9]; done)
    refine ih_5 (k + 1) (12 - (k + 1)) ls (by omega) ⟨rfl, (by omega), ?_⟩
    try dsimp only
    rw [e_5_0]
    exact lv_sub hl [2, 3, 1, 0] rfl

set_option maxHeartbeats 4000000 in
set_option maxRecDepth 100000 in
theorem c_X5_reckonValues (l : Launch) (D : va_G) (ad : Nat → Nat) (cI cL cZ : ClassId) (fi : Nat → Int32) (fl : Nat → Int64) (ai : Nat → Nat → Int32) (al : Nat → Nat → Int64) (A : Nat → Prop) (na : Nat) (nr : Nat) (hna : fi 0 = nI na) (hnl : na ≤ 10) (hnr : fi 1 = nI nr) (hnrl : nr ≤ 16) (hbe : ∀ p, p < 12 → ¬ ((ai 11) p).toInt64 = 0) : Met l yX5_reckonValues wsX5_reckonValues (am_rm 3 72) (va_Pc [.ref (ad 0)] (am_M nwL vwCl D A (rm_w ad cI cL cZ fi fl ai al) [(cI, .int), (cL, .long), (cZ, .boolean)])) (am_Mv vwCl D (rm_w ad cI cL cZ fi fl (va_up ai 17 (rc_no (ai 6) na (ai 17) na)) (va_up al 19 (rc_vals (rc_val (ai 1) (ai 5) (ai 10) (ai 11) (ai 12) (al 9) (al 13) (fi 7) (fi 8) na nr) (al 19) (2 ^ na)))) A) 0 0 A := by
  refine am_startM (cc := cX5_reckonValues) (maxL := 3) (ret := none) (by decide) rfl (Nat.le_of_ble_eq_true rfl) [(0, .ref (ad 0))] rfl ?_
  intro p e s m below meth c ls hx hb hr hml hown hts hlocks hK hN hD H locs hP hS hl
  have hown : s.vm.findClass RX5 = some m.cls := hown
  have ht := am_ht hts
  have hin_X5 : ∀ w ∈ u_ws RX5 TX5 31, w ∈ wsX5_reckonValues := fun w h => List.mem_cons_of_mem _ (am_inX5 w h)
  have hf_27 := ht 436 (.fieldLink RX5 27 "ApartCostModel" "needs" "[Z") rfl
  have hf_67 := ht 456 (.fieldLink RX5 67 "ApartCostModel" "needed" "[I") rfl
  have hf_73 := ht 458 (.fieldLink RX5 73 "ApartCostModel" "values" "[J") rfl
  have hf_86 := ht 430 (.fieldLink RX5 86 "ApartCostModel" "count" "I") rfl
  have hp2 := am_p2 hnl
  refine lv_iconst (v := 0) hx hb dX5_reckonValues_0 (by decide) ?_
  refine lv_istore_n (lv' := [(1, .int 0), (0, .ref (ad 0))]) hx hb dX5_reckonValues_1 rfl hl (by decide) rfl (fun ls hl => ?_)
  refine am_loop (σ := Nat) (fun q n9 H locs ls => n9 = na - q ∧ q ≤ na ∧ va_P D vwCl (rm_w ad cI cL cZ fi fl (va_up ai 17 (rc_no (ai 6) na (ai 17) q)) al) H ∧ va_S A s.heap H locs ∧ lv_has ls 3 [(0, .ref (ad 0)), (1, .int (nI q))]) ?_ 0 (na - 0) H locs ls ⟨rfl, (by omega), hP, hS, lv_sub hl [1, 0] rfl⟩
  rintro a n9 H locs ls ⟨hn_2, hka, hP, hS, hl⟩ ih_2
  have hD : va_D A (rm_w ad cI cL cZ fi fl (va_up ai 17 (rc_no (ai 6) na (ai 17) a)) al) := am_D hD rfl
  refine lv_iload_n hx hb dX5_reckonValues_2 rfl (lv_at hl 1 rfl) ?_
  refine lv_aload_n hx hb dX5_reckonValues_3 rfl (lv_at hl 0 rfl) ?_
  refine va_get (D := D) (ci := 5) (v := .int (fi 0)) (C := RX5) (T := TX5) (N := 31) hx hb hts hin_X5 hown hK hP 0 rfl rfl 0 (by decide) hf_86 (fun _ h9 => h9) rfl dX5_reckonValues_4 ?_
  refine lv_icmp_ge (tgt := 78) hx hb dX5_reckonValues_7 (by decide) (fun c_7 => ?_) (fun c_7 => ?_)
  · skip
    have c_7 : (fi 0) ≤ (nI a) := c_7
    have hke_7 : na ≤ a := (am_ge hna (by omega) (by omega)).mp c_7
    have hkq_7 : na = a := by omega
    subst hkq_7
    refine lv_iconst (v := 0) hx hb dX5_reckonValues_78 (by decide) ?_
    refine lv_istore_n (lv' := [(1, .int 0), (0, .ref (ad 0))]) hx hb dX5_reckonValues_79 rfl hl (by decide) rfl (fun ls hl => ?_)
    refine am_loop (σ := Nat) (fun q n9 H locs ls => n9 = 2 ^ na - q ∧ q ≤ 2 ^ na ∧ va_P D vwCl (rm_w ad cI cL cZ fi fl (va_up ai 17 (rc_no (ai 6) na (ai 17) na)) (va_up al 19 (rc_vals (rc_val (ai 1) (ai 5) (ai 10) (ai 11) (ai 12) (al 9) (al 13) (fi 7) (fi 8) na nr) (al 19) q))) H ∧ va_S A s.heap H locs ∧ lv_has ls 3 [(0, .ref (ad 0)), (1, .int (nI q))]) ?_ 0 (2 ^ na - 0) H locs ls ⟨rfl, (by omega), hP, hS, lv_sub hl [1, 0] rfl⟩
    rintro k n9 H locs ls ⟨hn_80, hk, hP, hS, hl⟩ ih_80
    have hD : va_D A (rm_w ad cI cL cZ fi fl (va_up ai 17 (rc_no (ai 6) na (ai 17) na)) (va_up al 19 (rc_vals (rc_val (ai 1) (ai 5) (ai 10) (ai 11) (ai 12) (al 9) (al 13) (fi 7) (fi 8) na nr) (al 19) k))) := am_D hD rfl
    refine lv_iload_n hx hb dX5_reckonValues_80 rfl (lv_at hl 1 rfl) ?_
    refine lv_iconst (v := 1) hx hb dX5_reckonValues_81 (by decide) ?_
    refine lv_aload_n hx hb dX5_reckonValues_82 rfl (lv_at hl 0 rfl) ?_
    refine va_get (D := D) (ci := 5) (v := .int (fi 0)) (C := RX5) (T := TX5) (N := 31) hx hb hts hin_X5 hown hK hP 0 rfl rfl 0 (by decide) hf_86 (fun _ h9 => h9) rfl dX5_reckonValues_83 ?_
    refine lv_ishl hx hb dX5_reckonValues_86 ?_
    refine am_topi (am_shlc hna hnl) ?_
    refine lv_icmp_ge (tgt := 107) hx hb dX5_reckonValues_87 (by decide) (fun c_87 => ?_) (fun c_87 => ?_)
    · skip
      have c_87 : (nI (2 ^ na)) ≤ (nI k) := c_87
      have hkq : k = 2 ^ na := by have := (am_ge (rfl : nI (2 ^ na) = nI (2 ^ na)) (by omega) (by omega)).mp c_87; omega
      subst hkq
      exact am_vretM hx hb hr hlocks hP hS dX5_reckonValues_107
    · skip
      have c_87 : ¬ ((nI (2 ^ na)) ≤ (nI k)) := c_87
      have hkl : k < 2 ^ na := Nat.lt_of_not_le (fun z => c_87 ((am_ge (rfl : nI (2 ^ na) = nI (2 ^ na)) (by omega) (by omega)).mpr z))
      refine lv_aload_n hx hb dX5_reckonValues_90 rfl (lv_at hl 0 rfl) ?_
      refine va_get (D := D) (ci := 5) (v := .ref (ad 19)) (C := RX5) (T := TX5) (N := 31) hx hb hts hin_X5 hown hK hP 0 rfl rfl 28 (by decide) hf_73 (fun _ h9 => h9) rfl dX5_reckonValues_91 ?_
      refine lv_iload_n hx hb dX5_reckonValues_94 rfl (lv_at hl 1 rfl) ?_
      refine lv_aload_n hx hb dX5_reckonValues_95 rfl (lv_at hl 0 rfl) ?_
      refine lv_iload_n hx hb dX5_reckonValues_96 rfl (lv_at hl 1 rfl) ?_
      refine am_callRl (W.runV (As := [.int (nI k)]) (rest := [.int (nI k), .ref (ad 19)]) ⟨hx, hb, hml, hown, hts⟩ (c_X5_valueOf l D ad cI cL cZ fi fl (va_up ai 17 (rc_no (ai 6) na (ai 17) na)) (va_up al 19 (rc_vals (rc_val (ai 1) (ai 5) (ai 10) (ai 11) (ai 12) (al 9) (al 13) (fi 7) (fi 8) na nr) (al 19) k)) (nI k) na nr hna hnl hnr hnrl hbe) (cwV 1 hts (am_gV (am_in 565 rfl) (am_in 566 rfl) (am_in 16 rfl) (am_in 35 rfl) (am_in 567 rfl)) rfl rfl rfl (by decide +kernel) ⟨Nat.le_of_ble_eq_true rfl, Nat.le_of_ble_eq_true rfl⟩) (am_preVR 5 0 rfl rfl rfl hP hK hN) rfl rfl hl.1 rfl (lv_room (Nat.le_of_ble_eq_true rfl)) dX5_reckonValues_97 ⟨Nat.zero_le _, Nat.zero_le _⟩) ?_
      refine am_last hx hb hK hP hD hS 19 1 rfl rfl k rfl (by omega) (by decide) (rm_w ad cI cL cZ fi fl (va_up ai 17 (rc_no (ai 6) na (ai 17) na)) (va_up al 19 (vp_updL (rc_vals (rc_val (ai 1) (ai 5) (ai 10) (ai 11) (ai 12) (al 9) (al 13) (fi 7) (fi 8) na nr) (al 19) k) k (rc_val (ai 1) (ai 5) (ai 10) (ai 11) (ai 12) (al 9) (al 13) (fi 7) (fi 8) na nr (nI k))))) rfl dX5_reckonValues_100 (fun H locs hP hD hS => ?_)
      refine lv_iinc (v := nI (k + 1)) (lv' := [(1, .int (nI (k + 1))), (0, .ref (ad 0))]) hx hb dX5_reckonValues_101 hl (k := 1) rfl (nI_1 k) (by decide) rfl (fun ls hl => ?_)
      refine lv_goto (tgt := 80) hx hb dX5_reckonValues_104 (by decide) ?_
      have e_80_0 : (rc_vals (rc_val (ai 1) (ai 5) (ai 10) (ai 11) (ai 12) (al 9) (al 13) (fi 7) (fi 8) na nr) (al 19) (k + 1)) = (vp_updL (rc_vals (rc_val (ai 1) (ai 5) (ai 10) (ai 11) (ai 12) (al 9) (al 13) (fi 7) (fi 8) na nr) (al 19) k) k (rc_val (ai 1) (ai 5) (ai 10) (ai 11) (ai 12) (al 9) (al 13) (fi 7) (fi 8) na nr (nI k))) := by first | rfl | (simp only [rc_vals, c_87, if_true, if_false, eq_self, not_true_eq_false, not_false_eq_true, ite_true, ite_false, ↓reduceIte]; done) | (simp [rc_vals, c_87]; done)
      refine ih_80 (k + 1) (2 ^ na - (k + 1)) H locs ls (by omega) ⟨rfl, (by omega), ?_, hS, ?_⟩
      · (try dsimp only); (try rw [e_80_0]); exact hP
      · (try dsimp only); (try rw [e_80_0]); exact lv_sub hl [1, 0] rfl
  · skip
    have c_7 : ¬ ((fi 0) ≤ (nI a)) := c_7
    have hkl_7 : a < na := Nat.lt_of_not_le (fun z => c_7 ((am_ge hna (by omega) (by omega)).mpr z))
    refine lv_aload_n hx hb dX5_reckonValues_10 rfl (lv_at hl 0 rfl) ?_
    refine va_get (D := D) (ci := 5) (v := .ref (ad 17)) (C := RX5) (T := TX5) (N := 31) hx hb hts hin_X5 hown hK hP 0 rfl rfl 26 (by decide) hf_67 (fun _ h9 => h9) rfl dX5_reckonValues_11 ?_
    refine lv_iload_n hx hb dX5_reckonValues_14 rfl (lv_at hl 1 rfl) ?_
    refine lv_iconst (v := 0) hx hb dX5_reckonValues_15 (by decide) ?_
    refine am_iast hx hb hK hP hD hS 17 0 rfl rfl a rfl (by omega) (by decide) (rm_w ad cI cL cZ fi fl (va_up ai 17 (upd (rc_no (ai 6) na (ai 17) a) a 0)) al) rfl dX5_reckonValues_16 (fun H locs hP hD hS => ?_)
    refine lv_iconst (v := 0) hx hb dX5_reckonValues_17 (by decide) ?_
    refine lv_istore_n (lv' := [(2, .int 0), (0, .ref (ad 0)), (1, .int (nI a))]) hx hb dX5_reckonValues_18 rfl hl (by decide) rfl (fun ls hl => ?_)
    refine am_loop (σ := Nat) (fun q n9 H locs ls => n9 = na - q ∧ q ≤ na ∧ va_P D vwCl (rm_w ad cI cL cZ fi fl (va_up ai 17 (rc_ni (ai 6) a (rc_no (ai 6) na (ai 17) a) q)) al) H ∧ va_S A s.heap H locs ∧ lv_has ls 3 [(0, .ref (ad 0)), (1, .int (nI a)), (2, .int (nI q))]) ?_ 0 (na - 0) H locs ls ⟨rfl, (by omega), hP, hS, lv_sub hl [1, 2, 0] rfl⟩
    rintro b n9 H locs ls ⟨hn_19, hkb, hP, hS, hl⟩ ih_19
    have hD : va_D A (rm_w ad cI cL cZ fi fl (va_up ai 17 (rc_ni (ai 6) a (rc_no (ai 6) na (ai 17) a) b)) al) := am_D hD rfl
    refine lv_iload_n hx hb dX5_reckonValues_19 rfl (lv_at hl 2 rfl) ?_
    refine lv_aload_n hx hb dX5_reckonValues_20 rfl (lv_at hl 0 rfl) ?_
    refine va_get (D := D) (ci := 5) (v := .int (fi 0)) (C := RX5) (T := TX5) (N := 31) hx hb hts hin_X5 hown hK hP 0 rfl rfl 0 (by decide) hf_86 (fun _ h9 => h9) rfl dX5_reckonValues_21 ?_
    refine lv_icmp_ge (tgt := 72) hx hb dX5_reckonValues_24 (by decide) (fun c_24 => ?_) (fun c_24 => ?_)
    · skip
      have c_24 : (fi 0) ≤ (nI b) := c_24
      have hke_24 : na ≤ b := (am_ge hna (by omega) (by omega)).mp c_24
      have hkq_24 : na = b := by omega
      subst hkq_24
      refine lv_iinc (v := nI (a + 1)) (lv' := [(1, .int (nI (a + 1))), (0, .ref (ad 0)), (2, .int (nI na))]) hx hb dX5_reckonValues_72 hl (k := 1) rfl (nI_1 a) (by decide) rfl (fun ls hl => ?_)
      refine lv_goto (tgt := 2) hx hb dX5_reckonValues_75 (by decide) ?_
      have e_2_0 : (rc_no (ai 6) na (ai 17) (a + 1)) = (rc_ni (ai 6) a (rc_no (ai 6) na (ai 17) a) na) := by first | rfl | (simp only [rc_no, c_24, if_true, if_false, eq_self, not_true_eq_false, not_false_eq_true, ite_true, ite_false, ↓reduceIte]; done) | (simp [rc_no, c_24]; done)
      refine ih_2 (a + 1) (na - (a + 1)) H locs ls (by omega) ⟨rfl, (by omega), ?_, hS, ?_⟩
      · (try dsimp only); (try rw [e_2_0]); exact hP
      · (try dsimp only); (try rw [e_2_0]); exact lv_sub hl [1, 0] rfl
    · skip
      have c_24 : ¬ ((fi 0) ≤ (nI b)) := c_24
      have hkl_24 : b < na := Nat.lt_of_not_le (fun z => c_24 ((am_ge hna (by omega) (by omega)).mpr z))
      refine lv_aload_n hx hb dX5_reckonValues_27 rfl (lv_at hl 0 rfl) ?_
      refine va_get (D := D) (ci := 5) (v := .ref (ad 17)) (C := RX5) (T := TX5) (N := 31) hx hb hts hin_X5 hown hK hP 0 rfl rfl 26 (by decide) hf_67 (fun _ h9 => h9) rfl dX5_reckonValues_28 ?_
      refine lv_iload_n hx hb dX5_reckonValues_31 rfl (lv_at hl 1 rfl) ?_
      refine lv_aload_n hx hb dX5_reckonValues_32 rfl (lv_at hl 0 rfl) ?_
      refine va_get (D := D) (ci := 5) (v := .ref (ad 6)) (C := RX5) (T := TX5) (N := 31) hx hb hts hin_X5 hown hK hP 0 rfl rfl 6 (by decide) hf_27 (fun _ h9 => h9) rfl dX5_reckonValues_33 ?_
      refine lv_bipush (v := 10) hx hb dX5_reckonValues_36 (by decide) ?_
      refine lv_iload_n hx hb dX5_reckonValues_38 rfl (lv_at hl 1 rfl) ?_
      refine lv_imul hx hb dX5_reckonValues_39 ?_
      refine lv_iload_n hx hb dX5_reckonValues_40 rfl (lv_at hl 2 rfl) ?_
      refine lv_iadd hx hb dX5_reckonValues_41 ?_
      refine am_zald hx hb hK hP 6 2 rfl rfl (10 * a + b) (am_x10 a b) (by omega) (by decide) dX5_reckonValues_42 ?_
      refine lv_if_eq (tgt := 59) hx hb dX5_reckonValues_43 (by decide) (fun c_43 => ?_) (fun c_43 => ?_)
      · skip
        have c_43 : ((ai 6) (10 * a + b)) = 0 := c_43
        refine lv_aload_n hx hb dX5_reckonValues_59 rfl (lv_at hl 0 rfl) ?_
        refine va_get (D := D) (ci := 5) (v := .ref (ad 17)) (C := RX5) (T := TX5) (N := 31) hx hb hts hin_X5 hown hK hP 0 rfl rfl 26 (by decide) hf_67 (fun _ h9 => h9) rfl dX5_reckonValues_60 ?_
        refine lv_iload_n hx hb dX5_reckonValues_63 rfl (lv_at hl 1 rfl) ?_
        refine am_iald hx hb hK hP 17 0 rfl rfl a rfl (by omega) (by decide) dX5_reckonValues_64 ?_
        refine am_iast hx hb hK hP hD hS 17 0 rfl rfl a rfl (by omega) (by decide) (rm_w ad cI cL cZ fi fl (va_up ai 17 (upd (rc_ni (ai 6) a (rc_no (ai 6) na (ai 17) a) b) a ((rc_ni (ai 6) a (rc_no (ai 6) na (ai 17) a) b) a))) al) rfl dX5_reckonValues_65 (fun H locs hP hD hS => ?_)
        refine lv_iinc (v := nI (b + 1)) (lv' := [(2, .int (nI (b + 1))), (0, .ref (ad 0)), (1, .int (nI a))]) hx hb dX5_reckonValues_66 hl (k := 2) rfl (nI_1 b) (by decide) rfl (fun ls hl => ?_)
        refine lv_goto (tgt := 19) hx hb dX5_reckonValues_69 (by decide) ?_
        have e_19_0 : (rc_ni (ai 6) a (rc_no (ai 6) na (ai 17) a) (b + 1)) = (upd (rc_ni (ai 6) a (rc_no (ai 6) na (ai 17) a) b) a ((rc_ni (ai 6) a (rc_no (ai 6) na (ai 17) a) b) a)) := by first | rfl | (simp only [rc_ni, c_24, c_43, if_true, if_false, eq_self, not_true_eq_false, not_false_eq_true, ite_true, ite_false, ↓reduceIte]; done) | (simp [rc_ni, c_24, c_43]; done)
        refine ih_19 (b + 1) (na - (b + 1)) H locs ls (by omega) ⟨rfl, (by omega), ?_, hS, ?_⟩
        · (try dsimp only); (try rw [e_19_0]); exact hP
        · (try dsimp only); (try rw [e_19_0]); exact lv_sub hl [1, 2, 0] rfl
      · skip
        have c_43 : ¬ (((ai 6) (10 * a + b)) = 0) := c_43
        refine lv_aload_n hx hb dX5_reckonValues_46 rfl (lv_at hl 0 rfl) ?_
        refine va_get (D := D) (ci := 5) (v := .ref (ad 17)) (C := RX5) (T := TX5) (N := 31) hx hb hts hin_X5 hown hK hP 0 rfl rfl 26 (by decide) hf_67 (fun _ h9 => h9) rfl dX5_reckonValues_47 ?_
        refine lv_iload_n hx hb dX5_reckonValues_50 rfl (lv_at hl 1 rfl) ?_
        refine am_iald hx hb hK hP 17 0 rfl rfl a rfl (by omega) (by decide) dX5_reckonValues_51 ?_
        refine lv_iconst (v := 1) hx hb dX5_reckonValues_52 (by decide) ?_
        refine lv_iload_n hx hb dX5_reckonValues_53 rfl (lv_at hl 2 rfl) ?_
        refine lv_ishl hx hb dX5_reckonValues_54 ?_
        refine lv_ior hx hb dX5_reckonValues_55 ?_
        refine lv_goto (tgt := 65) hx hb dX5_reckonValues_56 (by decide) ?_
        refine am_iast hx hb hK hP hD hS 17 0 rfl rfl a rfl (by omega) (by decide) (rm_w ad cI cL cZ fi fl (va_up ai 17 (upd (rc_ni (ai 6) a (rc_no (ai 6) na (ai 17) a) b) a (((rc_ni (ai 6) a (rc_no (ai 6) na (ai 17) a) b) a) ||| ((1 : Int32) <<< ((nI b) &&& 31))))) al) rfl dX5_reckonValues_65 (fun H locs hP hD hS => ?_)
        refine lv_iinc (v := nI (b + 1)) (lv' := [(2, .int (nI (b + 1))), (0, .ref (ad 0)), (1, .int (nI a))]) hx hb dX5_reckonValues_66 hl (k := 2) rfl (nI_1 b) (by decide) rfl (fun ls hl => ?_)
        refine lv_goto (tgt := 19) hx hb dX5_reckonValues_69 (by decide) ?_
        have e_19_0 : (rc_ni (ai 6) a (rc_no (ai 6) na (ai 17) a) (b + 1)) = (upd (rc_ni (ai 6) a (rc_no (ai 6) na (ai 17) a) b) a (((rc_ni (ai 6) a (rc_no (ai 6) na (ai 17) a) b) a) ||| ((1 : Int32) <<< ((nI b) &&& 31)))) := by first | rfl | (simp only [rc_ni, c_24, c_43, if_true, if_false, eq_self, not_true_eq_false, not_false_eq_true, ite_true, ite_false, ↓reduceIte]; done) | (simp [rc_ni, c_24, c_43]; done)
        refine ih_19 (b + 1) (na - (b + 1)) H locs ls (by omega) ⟨rfl, (by omega), ?_, hS, ?_⟩
        · (try dsimp only); (try rw [e_19_0]); exact hP
        · (try dsimp only); (try rw [e_19_0]); exact lv_sub hl [1, 2, 0] rfl

