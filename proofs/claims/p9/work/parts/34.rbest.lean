set_option maxHeartbeats 4000000 in
set_option maxRecDepth 100000 in
theorem c_X5_spread (l : Launch) (D : va_G) (ad : Nat → Nat) (cI cL cZ : ClassId) (fi : Nat → Int32) (fl : Nat → Int64) (ai : Nat → Nat → Int32) (al : Nat → Nat → Int64) (A : Nat → Prop) (sn : Nat) (en : Nat) (z : Int64) (na : Nat) (hna : fi 0 = nI na) (hnl : na ≤ 10) (hto : ∀ a, a < na → ∃ t, t < 6 ∧ (ai 2) a = nI t) (hsi : ∀ a, a < na → ∃ t, t < 6 ∧ (ai 3) a = nI t) (hsn : sn < 1024) (hen : en < na) : Met l yX5_spread wsX5_spread (am_rm 2 43) (va_Pc [.ref (ad 0), .int (nI sn), .int (nI en), .long z] (am_M nwL vwCl D A (rm_w ad cI cL cZ fi fl ai al) [(cI, .int), (cL, .long), (cZ, .boolean)])) (am_Mv vwCl D (rm_w ad cI cL cZ fi fl ai (va_up al 18 (rc_spr (ai 17) (rc_step (ai 2) (ai 3) (al 4) (al 7) (al 8)) sn en z (al 18) na))) A) 0 0 A := by
  refine am_startM (cc := cX5_spread) (maxL := 9) (ret := none) (by decide) rfl (Nat.le_of_ble_eq_true rfl) [(0, .ref (ad 0)), (1, .int (nI sn)), (2, .int (nI en)), (3, .long z)] rfl ?_
  intro p e s m below meth c ls hx hb hr hml hown hts hlocks hK hN hD H locs hP hS hl
  have hown : s.vm.findClass RX5 = some m.cls := hown
  have ht := am_ht hts
  have hin_X5 : ∀ w ∈ u_ws RX5 TX5 31, w ∈ wsX5_spread := fun w h => List.mem_cons_of_mem _ (am_inX5 w h)
  have hf_70 := ht 457 (.fieldLink RX5 70 "ApartCostModel" "least" "[J") rfl
  have hf_86 := ht 430 (.fieldLink RX5 86 "ApartCostModel" "count" "I") rfl
  refine lv_iconst (v := 0) hx hb dX5_spread_0 (by decide) ?_
  refine lv_istore (lv' := [(5, .int 0), (0, .ref (ad 0)), (1, .int (nI sn)), (2, .int (nI en)), (3, .long z)]) hx hb dX5_spread_1 hl (by decide) rfl (fun ls hl => ?_)
  refine am_loop (σ := Nat) (fun q n9 H locs ls => n9 = na - q ∧ q ≤ na ∧ va_P D vwCl (rm_w ad cI cL cZ fi fl ai (va_up al 18 (rc_spr (ai 17) (rc_step (ai 2) (ai 3) (al 4) (al 7) (al 8)) sn en z (al 18) q))) H ∧ va_S A s.heap H locs ∧ lv_has ls 9 [(0, .ref (ad 0)), (1, .int (nI sn)), (2, .int (nI en)), (3, .long z), (5, .int (nI q))]) ?_ 0 (na - 0) H locs ls ⟨rfl, (by omega), hP, hS, lv_sub hl [1, 2, 3, 4, 0] rfl⟩
  rintro k n9 H locs ls ⟨hn_3, hk, hP, hS, hl⟩ ih_3
  have hD : va_D A (rm_w ad cI cL cZ fi fl ai (va_up al 18 (rc_spr (ai 17) (rc_step (ai 2) (ai 3) (al 4) (al 7) (al 8)) sn en z (al 18) k))) := am_D hD rfl
  refine lv_iload hx hb dX5_spread_3 (lv_at hl 4 rfl) ?_
  refine lv_aload_n hx hb dX5_spread_5 rfl (lv_at hl 0 rfl) ?_
  refine va_get (D := D) (ci := 5) (v := .int (fi 0)) (C := RX5) (T := TX5) (N := 31) hx hb hts hin_X5 hown hK hP 0 rfl rfl 0 (by decide) hf_86 (fun _ h9 => h9) rfl dX5_spread_6 ?_
  refine lv_icmp_ge (tgt := 85) hx hb dX5_spread_9 (by decide) (fun c_9 => ?_) (fun c_9 => ?_)
  · skip
    have c_9 : (fi 0) ≤ (nI k) := c_9
    have hke_9 : na ≤ k := (am_ge hna (by omega) (by omega)).mp c_9
    have hkq_9 : na = k := by omega
    subst hkq_9
    exact am_vretM hx hb hr hlocks hP hS dX5_spread_85
  · skip
    have c_9 : ¬ ((fi 0) ≤ (nI k)) := c_9
    have hkl_9 : k < na := Nat.lt_of_not_le (fun z => c_9 ((am_ge hna (by omega) (by omega)).mpr z))
    refine lv_aload_n hx hb dX5_spread_12 rfl (lv_at hl 0 rfl) ?_
    refine lv_iload_n hx hb dX5_spread_13 rfl (lv_at hl 1 rfl) ?_
    refine lv_iload hx hb dX5_spread_14 (lv_at hl 4 rfl) ?_
    refine am_callRi (W.runV (As := [.int (nI sn), .int (nI k)]) (rest := []) ⟨hx, hb, hml, hown, hts⟩ (c_X5_canDo l D ad cI cL cZ fi fl ai (va_up al 18 (rc_spr (ai 17) (rc_step (ai 2) (ai 3) (al 4) (al 7) (al 8)) sn en z (al 18) k)) (nI sn) k (by omega)) (cwV 2 hts (am_gV (am_in 579 rfl) (am_in 580 rfl) (am_in 20 rfl) (am_in 35 rfl) (am_in 581 rfl)) rfl rfl rfl (by decide +kernel) ⟨Nat.le_of_ble_eq_true rfl, Nat.le_of_ble_eq_true rfl⟩) (am_preVR 5 0 rfl rfl rfl hP hK hN) rfl rfl hl.1 rfl (lv_room (Nat.le_of_ble_eq_true rfl)) dX5_spread_16 ⟨Nat.zero_le _, Nat.zero_le _⟩) ?_
    refine lv_if_eq (tgt := 79) hx hb dX5_spread_19 (by decide) (fun c_19 => ?_) (fun c_19 => ?_)
    · skip
      have c_19 : (rc_can (ai 17) (nI sn) k) = 0 := c_19
      refine lv_iinc (v := nI (k + 1)) (lv' := [(5, .int (nI (k + 1))), (0, .ref (ad 0)), (1, .int (nI sn)), (2, .int (nI en)), (3, .long z)]) hx hb dX5_spread_79 hl (k := 4) rfl (nI_1 k) (by decide) rfl (fun ls hl => ?_)
      refine lv_goto (tgt := 3) hx hb dX5_spread_82 (by decide) ?_
      have e_3_0 : (rc_spr (ai 17) (rc_step (ai 2) (ai 3) (al 4) (al 7) (al 8)) sn en z (al 18) (k + 1)) = (rc_spr (ai 17) (rc_step (ai 2) (ai 3) (al 4) (al 7) (al 8)) sn en z (al 18) k) := by first | rfl | (simp only [rc_spr, c_9, c_19, if_true, if_false, eq_self, not_true_eq_false, not_false_eq_true, ite_true, ite_false, ↓reduceIte]; done) | (simp [rc_spr, c_9, c_19]; done)
      refine ih_3 (k + 1) (na - (k + 1)) H locs ls (by omega) ⟨rfl, (by omega), ?_, hS, ?_⟩
      · (try dsimp only); (try rw [e_3_0]); exact hP
      · (try dsimp only); (try rw [e_3_0]); exact lv_sub hl [1, 2, 3, 4, 0] rfl
    · skip
      have c_19 : ¬ ((rc_can (ai 17) (nI sn) k) = 0) := c_19
      refine lv_bipush (v := 10) hx hb dX5_spread_22 (by decide) ?_
      refine lv_iload_n hx hb dX5_spread_24 rfl (lv_at hl 1 rfl) ?_
      refine lv_iconst (v := 1) hx hb dX5_spread_25 (by decide) ?_
      refine lv_iload hx hb dX5_spread_26 (lv_at hl 4 rfl) ?_
      refine lv_ishl hx hb dX5_spread_28 ?_
      refine lv_ior hx hb dX5_spread_29 ?_
      refine lv_imul hx hb dX5_spread_30 ?_
      refine lv_iload hx hb dX5_spread_31 (lv_at hl 4 rfl) ?_
      refine lv_iadd hx hb dX5_spread_33 ?_
      refine am_topi (am_six2 (by omega)) ?_
      refine lv_istore (lv' := [(6, .int (nI (10 * (sn ||| 2 ^ k) + k))), (0, .ref (ad 0)), (1, .int (nI sn)), (2, .int (nI en)), (3, .long z), (5, .int (nI k))]) hx hb dX5_spread_34 hl (by decide) rfl (fun ls hl => ?_)
      refine lv_lload_n hx hb dX5_spread_36 rfl (lv_at hl 4 rfl) ?_
      refine lv_aload_n hx hb dX5_spread_37 rfl (lv_at hl 1 rfl) ?_
      refine lv_iload_n hx hb dX5_spread_38 rfl (lv_at hl 3 rfl) ?_
      refine lv_iload hx hb dX5_spread_39 (lv_at hl 5 rfl) ?_
      refine am_callRl (W.runV (As := [.int (nI en), .int (nI k)]) (rest := [.long z]) ⟨hx, hb, hml, hown, hts⟩ (c_X5_stepCost l D ad cI cL cZ fi fl ai (va_up al 18 (rc_spr (ai 17) (rc_step (ai 2) (ai 3) (al 4) (al 7) (al 8)) sn en z (al 18) k)) (en + 1) k na hna hnl hto hsi (by omega) (by omega)) (cwV 2 hts (am_gV (am_in 582 rfl) (am_in 583 rfl) (am_in 21 rfl) (am_in 35 rfl) (am_in 584 rfl)) rfl rfl rfl (by decide +kernel) ⟨Nat.le_of_ble_eq_true rfl, Nat.le_of_ble_eq_true rfl⟩) (am_preVR 5 0 rfl rfl rfl hP hK hN) rfl rfl hl.1 rfl (lv_room (Nat.le_of_ble_eq_true rfl)) dX5_spread_41 ⟨Nat.zero_le _, Nat.zero_le _⟩) ?_
      refine lv_ladd hx hb dX5_spread_44 ?_
      refine lv_lstore (lv' := [(7, .long (z + ((rc_step (ai 2) (ai 3) (al 4) (al 7) (al 8)) (en + 1) k))), (6, .int (nI (10 * (sn ||| 2 ^ k) + k))), (0, .ref (ad 0)), (1, .int (nI sn)), (2, .int (nI en)), (3, .long z), (5, .int (nI k))]) hx hb dX5_spread_45 hl (by decide) rfl (fun ls hl => ?_)
      refine lv_aload_n hx hb dX5_spread_47 rfl (lv_at hl 2 rfl) ?_
      refine va_get (D := D) (ci := 5) (v := .ref (ad 18)) (C := RX5) (T := TX5) (N := 31) hx hb hts hin_X5 hown hK hP 0 rfl rfl 27 (by decide) hf_70 (fun _ h9 => h9) rfl dX5_spread_48 ?_
      refine lv_iload hx hb dX5_spread_51 (lv_at hl 1 rfl) ?_
      refine lv_lload hx hb dX5_spread_53 (lv_at hl 0 rfl) ?_
      refine lv_aload_n hx hb dX5_spread_55 rfl (lv_at hl 2 rfl) ?_
      refine va_get (D := D) (ci := 5) (v := .ref (ad 18)) (C := RX5) (T := TX5) (N := 31) hx hb hts hin_X5 hown hK hP 0 rfl rfl 27 (by decide) hf_70 (fun _ h9 => h9) rfl dX5_spread_56 ?_
      refine lv_iload hx hb dX5_spread_59 (lv_at hl 1 rfl) ?_
      refine am_lald hx hb hK hP 18 1 rfl rfl (10 * (sn ||| 2 ^ k) + k) rfl (by have := am_or_lt hsn (show k < 10 by omega); omega) (by decide) dX5_spread_61 ?_
      refine W.lcmp hx hb dX5_spread_62 ?_
      refine lv_if_ge (tgt := 71) hx hb dX5_spread_63 (by decide) (fun c_63 => ?_) (fun c_63 => ?_)
      · skip
        have c_63 : ((rc_spr (ai 17) (rc_step (ai 2) (ai 3) (al 4) (al 7) (al 8)) sn en z (al 18) k) (10 * (sn ||| 2 ^ k) + k)) ≤ (z + ((rc_step (ai 2) (ai 3) (al 4) (al 7) (al 8)) (en + 1) k)) := (lg_cmp_ge _ _).mp c_63
        refine lv_aload_n hx hb dX5_spread_71 rfl (lv_at hl 2 rfl) ?_
        refine va_get (D := D) (ci := 5) (v := .ref (ad 18)) (C := RX5) (T := TX5) (N := 31) hx hb hts hin_X5 hown hK hP 0 rfl rfl 27 (by decide) hf_70 (fun _ h9 => h9) rfl dX5_spread_72 ?_
        refine lv_iload hx hb dX5_spread_75 (lv_at hl 1 rfl) ?_
        refine am_lald hx hb hK hP 18 1 rfl rfl (10 * (sn ||| 2 ^ k) + k) rfl (by have := am_or_lt hsn (show k < 10 by omega); omega) (by decide) dX5_spread_77 ?_
        refine am_last hx hb hK hP hD hS 18 1 rfl rfl (10 * (sn ||| 2 ^ k) + k) rfl (by have := am_or_lt hsn (show k < 10 by omega); omega) (by decide) (rm_w ad cI cL cZ fi fl ai (va_up al 18 (vp_updL (rc_spr (ai 17) (rc_step (ai 2) (ai 3) (al 4) (al 7) (al 8)) sn en z (al 18) k) (10 * (sn ||| 2 ^ k) + k) ((rc_spr (ai 17) (rc_step (ai 2) (ai 3) (al 4) (al 7) (al 8)) sn en z (al 18) k) (10 * (sn ||| 2 ^ k) + k))))) rfl dX5_spread_78 (fun H locs hP hD hS => ?_)
        refine lv_iinc (v := nI (k + 1)) (lv' := [(5, .int (nI (k + 1))), (7, .long (z + ((rc_step (ai 2) (ai 3) (al 4) (al 7) (al 8)) (en + 1) k))), (6, .int (nI (10 * (sn ||| 2 ^ k) + k))), (0, .ref (ad 0)), (1, .int (nI sn)), (2, .int (nI en)), (3, .long z)]) hx hb dX5_spread_79 hl (k := 6) rfl (nI_1 k) (by decide) rfl (fun ls hl => ?_)
        refine lv_goto (tgt := 3) hx hb dX5_spread_82 (by decide) ?_
        have e_3_0 : (rc_spr (ai 17) (rc_step (ai 2) (ai 3) (al 4) (al 7) (al 8)) sn en z (al 18) (k + 1)) = (vp_updL (rc_spr (ai 17) (rc_step (ai 2) (ai 3) (al 4) (al 7) (al 8)) sn en z (al 18) k) (10 * (sn ||| 2 ^ k) + k) ((rc_spr (ai 17) (rc_step (ai 2) (ai 3) (al 4) (al 7) (al 8)) sn en z (al 18) k) (10 * (sn ||| 2 ^ k) + k))) := by first | rfl | (simp only [rc_spr, c_9, c_19, c_63, if_true, if_false, eq_self, not_true_eq_false, not_false_eq_true, ite_true, ite_false, ↓reduceIte]; done) | (simp [rc_spr, c_9, c_19, c_63]; done)
        refine ih_3 (k + 1) (na - (k + 1)) H locs ls (by omega) ⟨rfl, (by omega), ?_, hS, ?_⟩
        · (try dsimp only); (try rw [e_3_0]); exact hP
        · (try dsimp only); (try rw [e_3_0]); exact lv_sub hl [3, 4, 5, 6, 0] rfl
      · skip
        have c_63 : ¬ (((rc_spr (ai 17) (rc_step (ai 2) (ai 3) (al 4) (al 7) (al 8)) sn en z (al 18) k) (10 * (sn ||| 2 ^ k) + k)) ≤ (z + ((rc_step (ai 2) (ai 3) (al 4) (al 7) (al 8)) (en + 1) k))) := (fun z => c_63 ((lg_cmp_ge _ _).mpr z))
        refine lv_lload hx hb dX5_spread_66 (lv_at hl 0 rfl) ?_
        refine lv_goto (tgt := 78) hx hb dX5_spread_68 (by decide) ?_
        refine am_last hx hb hK hP hD hS 18 1 rfl rfl (10 * (sn ||| 2 ^ k) + k) rfl (by have := am_or_lt hsn (show k < 10 by omega); omega) (by decide) (rm_w ad cI cL cZ fi fl ai (va_up al 18 (vp_updL (rc_spr (ai 17) (rc_step (ai 2) (ai 3) (al 4) (al 7) (al 8)) sn en z (al 18) k) (10 * (sn ||| 2 ^ k) + k) (z + ((rc_step (ai 2) (ai 3) (al 4) (al 7) (al 8)) (en + 1) k))))) rfl dX5_spread_78 (fun H locs hP hD hS => ?_)
        refine lv_iinc (v := nI (k + 1)) (lv' := [(5, .int (nI (k + 1))), (7, .long (z + ((rc_step (ai 2) (ai 3) (al 4) (al 7) (al 8)) (en + 1) k))), (6, .int (nI (10 * (sn ||| 2 ^ k) + k))), (0, .ref (ad 0)), (1, .int (nI sn)), (2, .int (nI en)), (3, .long z)]) hx hb dX5_spread_79 hl (k := 6) rfl (nI_1 k) (by decide) rfl (fun ls hl => ?_)
        refine lv_goto (tgt := 3) hx hb dX5_spread_82 (by decide) ?_
        have e_3_0 : (rc_spr (ai 17) (rc_step (ai 2) (ai 3) (al 4) (al 7) (al 8)) sn en z (al 18) (k + 1)) = (vp_updL (rc_spr (ai 17) (rc_step (ai 2) (ai 3) (al 4) (al 7) (al 8)) sn en z (al 18) k) (10 * (sn ||| 2 ^ k) + k) (z + ((rc_step (ai 2) (ai 3) (al 4) (al 7) (al 8)) (en + 1) k))) := by first | rfl | (simp only [rc_spr, c_9, c_19, c_63, if_true, if_false, eq_self, not_true_eq_false, not_false_eq_true, ite_true, ite_false, ↓reduceIte]; done) | (simp [rc_spr, c_9, c_19, c_63]; done)
        refine ih_3 (k + 1) (na - (k + 1)) H locs ls (by omega) ⟨rfl, (by omega), ?_, hS, ?_⟩
        · (try dsimp only); (try rw [e_3_0]); exact hP
        · (try dsimp only); (try rw [e_3_0]); exact lv_sub hl [3, 4, 5, 6, 0] rfl

set_option maxHeartbeats 4000000 in
set_option maxRecDepth 100000 in
theorem c_X5_bestFrom (l : Launch) (D : va_G) (ad : Nat → Nat) (cI cL cZ : ClassId) (fi : Nat → Int32) (fl : Nat → Int64) (ai : Nat → Nat → Int32) (al : Nat → Nat → Int64) (A : Nat → Prop) (sn : Nat) (j : Nat) (z : Int64) (na : Nat) (hna : fi 0 = nI na) (hnl : na ≤ 10) (hto : ∀ a, a < na → ∃ t, t < 6 ∧ (ai 2) a = nI t) (hsi : ∀ a, a < na → ∃ t, t < 6 ∧ (ai 3) a = nI t) (hs2 : sn < 2 ^ na) (hj : j ≤ na) : Met l yX5_bestFrom wsX5_bestFrom (am_rm 3 71) (va_Pc [.ref (ad 0), .int (nI sn), .int (ac_la j), .long z] (am_M nwL vwCl D A (rm_w ad cI cL cZ fi fl ai al) [(cI, .int), (cL, .long), (cZ, .boolean)])) (am_Ml vwCl D ((rc_best (ai 17) (rc_step (ai 2) (ai 3) (al 4) (al 7) (al 8)) (al 19) na sn j z (al 18)).1) (rm_w ad cI cL cZ fi fl ai (va_up al 18 ((rc_best (ai 17) (rc_step (ai 2) (ai 3) (al 4) (al 7) (al 8)) (al 19) na sn j z (al 18)).2))) A) 0 0 A := by
  refine am_startM (cc := cX5_bestFrom) (maxL := 11) (ret := (some .long)) (by decide) rfl (Nat.le_of_ble_eq_true rfl) [(0, .ref (ad 0)), (1, .int (nI sn)), (2, .int (ac_la j)), (3, .long z)] rfl ?_
  intro p e s m below meth c ls hx hb hr hml hown hts hlocks hK hN hD H locs hP hS hl
  have hown : s.vm.findClass RX5 = some m.cls := hown
  have ht := am_ht hts
  have hin_X5 : ∀ w ∈ u_ws RX5 TX5 31, w ∈ wsX5_bestFrom := fun w h => List.mem_cons_of_mem _ (am_inX5 w h)
  have hf_70 := ht 457 (.fieldLink RX5 70 "ApartCostModel" "least" "[J") rfl
  have hf_73 := ht 458 (.fieldLink RX5 73 "ApartCostModel" "values" "[J") rfl
  have hf_86 := ht 430 (.fieldLink RX5 86 "ApartCostModel" "count" "I") rfl
  have hp2 := am_p2 hnl
  have hsn : sn < 1024 := by omega
  refine lv_aload_n hx hb dX5_bestFrom_0 rfl (lv_at hl 0 rfl) ?_
  refine va_get (D := D) (ci := 5) (v := .ref (ad 19)) (C := RX5) (T := TX5) (N := 31) hx hb hts hin_X5 hown hK hP 0 rfl rfl 28 (by decide) hf_73 (fun _ h9 => h9) rfl dX5_bestFrom_1 ?_
  refine lv_iload_n hx hb dX5_bestFrom_4 rfl (lv_at hl 1 rfl) ?_
  refine am_lald hx hb hK hP 19 1 rfl rfl sn rfl (by omega) (by decide) dX5_bestFrom_5 ?_
  refine lv_lload_n hx hb dX5_bestFrom_6 rfl (lv_at hl 3 rfl) ?_
  refine lv_lsub hx hb dX5_bestFrom_7 ?_
  refine lv_lstore (lv' := [(5, .long (((al 19) sn) - z)), (0, .ref (ad 0)), (1, .int (nI sn)), (2, .int (ac_la j)), (3, .long z)]) hx hb dX5_bestFrom_8 hl (by decide) rfl (fun ls hl => ?_)
  refine lv_iconst (v := 0) hx hb dX5_bestFrom_10 (by decide) ?_
  refine lv_istore (lv' := [(7, .int 0), (5, .long (((al 19) sn) - z)), (0, .ref (ad 0)), (1, .int (nI sn)), (2, .int (ac_la j)), (3, .long z)]) hx hb dX5_bestFrom_11 hl (by decide) rfl (fun ls hl => ?_)
  refine am_loop (σ := Nat) (fun q n9 H locs ls => n9 = 10 * 2 ^ na - q ∧ q ≤ 10 * 2 ^ na ∧ va_P D vwCl (rm_w ad cI cL cZ fi fl ai (va_up al 18 (rc_far (al 18) q))) H ∧ va_S A s.heap H locs ∧ lv_has ls 11 [(0, .ref (ad 0)), (1, .int (nI sn)), (2, .int (ac_la j)), (3, .long z), (5, .long (((al 19) sn) - z)), (7, .int (nI q))]) ?_ 0 (10 * 2 ^ na - 0) H locs ls ⟨rfl, (by omega), hP, hS, lv_sub hl [2, 3, 4, 5, 1, 0] rfl⟩
  rintro k n9 H locs ls ⟨hn_13, hk, hP, hS, hl⟩ ih_13
  have hD : va_D A (rm_w ad cI cL cZ fi fl ai (va_up al 18 (rc_far (al 18) k))) := am_D hD rfl
  refine lv_iload hx hb dX5_bestFrom_13 (lv_at hl 5 rfl) ?_
  refine lv_bipush (v := 10) hx hb dX5_bestFrom_15 (by decide) ?_
  refine lv_aload_n hx hb dX5_bestFrom_17 rfl (lv_at hl 0 rfl) ?_
  refine va_get (D := D) (ci := 5) (v := .int (fi 0)) (C := RX5) (T := TX5) (N := 31) hx hb hts hin_X5 hown hK hP 0 rfl rfl 0 (by decide) hf_86 (fun _ h9 => h9) rfl dX5_bestFrom_18 ?_
  refine lv_ishl hx hb dX5_bestFrom_21 ?_
  refine am_topi (am_shlt' hna hnl) ?_
  refine lv_icmp_ge (tgt := 41) hx hb dX5_bestFrom_22 (by decide) (fun c_22 => ?_) (fun c_22 => ?_)
  · skip
    have c_22 : (nI (10 * 2 ^ na)) ≤ (nI k) := c_22
    have hkq : k = 10 * 2 ^ na := by have := (am_ge (rfl : nI (10 * 2 ^ na) = nI (10 * 2 ^ na)) (by omega) (by omega)).mp c_22; omega
    subst hkq
    refine lv_iconst (v := 0) hx hb dX5_bestFrom_41 (by decide) ?_
    refine lv_istore (lv' := [(7, .int 0), (0, .ref (ad 0)), (1, .int (nI sn)), (2, .int (ac_la j)), (3, .long z), (5, .long (((al 19) sn) - z))]) hx hb dX5_bestFrom_42 hl (by decide) rfl (fun ls hl => ?_)
    refine am_loop (σ := Nat) (fun q n9 H locs ls => n9 = na - q ∧ q ≤ na ∧ va_P D vwCl (rm_w ad cI cL cZ fi fl ai (va_up al 18 (rc_b2 (ai 17) (rc_step (ai 2) (ai 3) (al 4) (al 7) (al 8)) j sn z (rc_far (al 18) (10 * 2 ^ na)) q))) H ∧ va_S A s.heap H locs ∧ lv_has ls 11 [(0, .ref (ad 0)), (1, .int (nI sn)), (2, .int (ac_la j)), (3, .long z), (5, .long (((al 19) sn) - z)), (7, .int (nI q))]) ?_ 0 (na - 0) H locs ls ⟨rfl, (by omega), hP, hS, lv_sub hl [1, 2, 3, 4, 5, 0] rfl⟩
    rintro a n9 H locs ls ⟨hn_44, hka, hP, hS, hl⟩ ih_44
    have hD : va_D A (rm_w ad cI cL cZ fi fl ai (va_up al 18 (rc_b2 (ai 17) (rc_step (ai 2) (ai 3) (al 4) (al 7) (al 8)) j sn z (rc_far (al 18) (10 * 2 ^ na)) a))) := am_D hD rfl
    refine lv_iload hx hb dX5_bestFrom_44 (lv_at hl 5 rfl) ?_
    refine lv_aload_n hx hb dX5_bestFrom_46 rfl (lv_at hl 0 rfl) ?_
    refine va_get (D := D) (ci := 5) (v := .int (fi 0)) (C := RX5) (T := TX5) (N := 31) hx hb hts hin_X5 hown hK hP 0 rfl rfl 0 (by decide) hf_86 (fun _ h9 => h9) rfl dX5_bestFrom_47 ?_
    refine lv_icmp_ge (tgt := 95) hx hb dX5_bestFrom_50 (by decide) (fun c_50 => ?_) (fun c_50 => ?_)
    · skip
      have c_50 : (fi 0) ≤ (nI a) := c_50
      have hke_50 : na ≤ a := (am_ge hna (by omega) (by omega)).mp c_50
      have hkq_50 : na = a := by omega
      subst hkq_50
      refine lv_iload_n hx hb dX5_bestFrom_95 rfl (lv_at hl 1 rfl) ?_
      refine lv_iconst (v := 1) hx hb dX5_bestFrom_96 (by decide) ?_
      refine lv_iadd hx hb dX5_bestFrom_97 ?_
      refine am_topi (nI_1 sn) ?_
      refine lv_istore (lv' := [(7, .int (nI (sn + 1))), (0, .ref (ad 0)), (1, .int (nI sn)), (2, .int (ac_la j)), (3, .long z), (5, .long (((al 19) sn) - z))]) hx hb dX5_bestFrom_98 hl (by decide) rfl (fun ls hl => ?_)
      refine am_loop (σ := Nat) (fun q n9 H locs ls => n9 = 2 ^ na - (sn + 1) - q ∧ q ≤ 2 ^ na - (sn + 1) ∧ va_P D vwCl (rm_w ad cI cL cZ fi fl ai (va_up al 18 ((rc_b3 (ai 17) (rc_step (ai 2) (ai 3) (al 4) (al 7) (al 8)) (al 19) na sn ((al 19) sn - z, rc_b2 (ai 17) (rc_step (ai 2) (ai 3) (al 4) (al 7) (al 8)) j sn z (rc_far (al 18) (10 * 2 ^ na)) na) q).2))) H ∧ va_S A s.heap H locs ∧ lv_has ls 11 [(0, .ref (ad 0)), (1, .int (nI sn)), (2, .int (ac_la j)), (3, .long z), (5, .long ((rc_b3 (ai 17) (rc_step (ai 2) (ai 3) (al 4) (al 7) (al 8)) (al 19) na sn ((al 19) sn - z, rc_b2 (ai 17) (rc_step (ai 2) (ai 3) (al 4) (al 7) (al 8)) j sn z (rc_far (al 18) (10 * 2 ^ na)) na) q).1)), (7, .int (nI (sn + 1 + q)))]) ?_ 0 (2 ^ na - (sn + 1) - 0) H locs ls ⟨rfl, (by omega), hP, hS, lv_sub hl [1, 2, 3, 4, 5, 0] rfl⟩
      rintro t n9 H locs ls ⟨hn_100, ht9, hP, hS, hl⟩ ih_100
      have hD : va_D A (rm_w ad cI cL cZ fi fl ai (va_up al 18 ((rc_b3 (ai 17) (rc_step (ai 2) (ai 3) (al 4) (al 7) (al 8)) (al 19) na sn ((al 19) sn - z, rc_b2 (ai 17) (rc_step (ai 2) (ai 3) (al 4) (al 7) (al 8)) j sn z (rc_far (al 18) (10 * 2 ^ na)) na) t).2))) := am_D hD rfl
      refine lv_iload hx hb dX5_bestFrom_100 (lv_at hl 5 rfl) ?_
      refine lv_iconst (v := 1) hx hb dX5_bestFrom_102 (by decide) ?_
      refine lv_aload_n hx hb dX5_bestFrom_103 rfl (lv_at hl 0 rfl) ?_
      refine va_get (D := D) (ci := 5) (v := .int (fi 0)) (C := RX5) (T := TX5) (N := 31) hx hb hts hin_X5 hown hK hP 0 rfl rfl 0 (by decide) hf_86 (fun _ h9 => h9) rfl dX5_bestFrom_104 ?_
      refine lv_ishl hx hb dX5_bestFrom_107 ?_
      refine am_topi (am_shlc hna hnl) ?_
      refine lv_icmp_ge (tgt := 202) hx hb dX5_bestFrom_108 (by decide) (fun c_108 => ?_) (fun c_108 => ?_)
      · skip
        have c_108 : (nI (2 ^ na)) ≤ (nI (sn + 1 + t)) := c_108
        have hkq : t = 2 ^ na - (sn + 1) := by have := (am_ge (rfl : nI (2 ^ na) = nI (2 ^ na)) (by omega) (by omega)).mp c_108; omega
        subst hkq
        refine lv_lload hx hb dX5_bestFrom_202 (lv_at hl 4 rfl) ?_
        exact am_lretM hx hb hr hlocks hP hS rfl dX5_bestFrom_204
      · skip
        have c_108 : ¬ ((nI (2 ^ na)) ≤ (nI (sn + 1 + t))) := c_108
        have htl : sn + 1 + t < 2 ^ na := Nat.lt_of_not_le (fun z => c_108 ((am_ge (rfl : nI (2 ^ na) = nI (2 ^ na)) (by omega) (by omega)).mpr z))
        refine lv_iconst (v := 0) hx hb dX5_bestFrom_111 (by decide) ?_
        refine lv_istore (lv' := [(8, .int 0), (0, .ref (ad 0)), (1, .int (nI sn)), (2, .int (ac_la j)), (3, .long z), (5, .long ((rc_b3 (ai 17) (rc_step (ai 2) (ai 3) (al 4) (al 7) (al 8)) (al 19) na sn ((al 19) sn - z, rc_b2 (ai 17) (rc_step (ai 2) (ai 3) (al 4) (al 7) (al 8)) j sn z (rc_far (al 18) (10 * 2 ^ na)) na) t).1)), (7, .int (nI (sn + 1 + t)))]) hx hb dX5_bestFrom_112 hl (by decide) rfl (fun ls hl => ?_)
        refine am_loop (σ := Nat) (fun q n9 H locs ls => n9 = na - q ∧ q ≤ na ∧ va_P D vwCl (rm_w ad cI cL cZ fi fl ai (va_up al 18 ((rc_b3i (ai 17) (rc_step (ai 2) (ai 3) (al 4) (al 7) (al 8)) (al 19) na (sn + 1 + t) (rc_b3 (ai 17) (rc_step (ai 2) (ai 3) (al 4) (al 7) (al 8)) (al 19) na sn ((al 19) sn - z, rc_b2 (ai 17) (rc_step (ai 2) (ai 3) (al 4) (al 7) (al 8)) j sn z (rc_far (al 18) (10 * 2 ^ na)) na) t) q).2))) H ∧ va_S A s.heap H locs ∧ lv_has ls 11 [(0, .ref (ad 0)), (1, .int (nI sn)), (2, .int (ac_la j)), (3, .long z), (5, .long ((rc_b3i (ai 17) (rc_step (ai 2) (ai 3) (al 4) (al 7) (al 8)) (al 19) na (sn + 1 + t) (rc_b3 (ai 17) (rc_step (ai 2) (ai 3) (al 4) (al 7) (al 8)) (al 19) na sn ((al 19) sn - z, rc_b2 (ai 17) (rc_step (ai 2) (ai 3) (al 4) (al 7) (al 8)) j sn z (rc_far (al 18) (10 * 2 ^ na)) na) t) q).1)), (7, .int (nI (sn + 1 + t))), (8, .int (nI q))]) ?_ 0 (na - 0) H locs ls ⟨rfl, (by omega), hP, hS, lv_sub hl [1, 2, 3, 4, 5, 6, 0] rfl⟩
        rintro e9 n9 H locs ls ⟨hn_114, hke, hP, hS, hl⟩ ih_114
        have hD : va_D A (rm_w ad cI cL cZ fi fl ai (va_up al 18 ((rc_b3i (ai 17) (rc_step (ai 2) (ai 3) (al 4) (al 7) (al 8)) (al 19) na (sn + 1 + t) (rc_b3 (ai 17) (rc_step (ai 2) (ai 3) (al 4) (al 7) (al 8)) (al 19) na sn ((al 19) sn - z, rc_b2 (ai 17) (rc_step (ai 2) (ai 3) (al 4) (al 7) (al 8)) j sn z (rc_far (al 18) (10 * 2 ^ na)) na) t) e9).2))) := am_D hD rfl
        refine lv_iload hx hb dX5_bestFrom_114 (lv_at hl 6 rfl) ?_
        refine lv_aload_n hx hb dX5_bestFrom_116 rfl (lv_at hl 0 rfl) ?_
        refine va_get (D := D) (ci := 5) (v := .int (fi 0)) (C := RX5) (T := TX5) (N := 31) hx hb hts hin_X5 hown hK hP 0 rfl rfl 0 (by decide) hf_86 (fun _ h9 => h9) rfl dX5_bestFrom_117 ?_
        refine lv_icmp_ge (tgt := 196) hx hb dX5_bestFrom_120 (by decide) (fun c_120 => ?_) (fun c_120 => ?_)
        · skip
          have c_120 : (fi 0) ≤ (nI e9) := c_120
          have hke_120 : na ≤ e9 := (am_ge hna (by omega) (by omega)).mp c_120
          have hkq_120 : na = e9 := by omega
          subst hkq_120
          refine lv_iinc (v := nI ((sn + 1 + t) + 1)) (lv' := [(7, .int (nI ((sn + 1 + t) + 1))), (0, .ref (ad 0)), (1, .int (nI sn)), (2, .int (ac_la j)), (3, .long z), (5, .long ((rc_b3i (ai 17) (rc_step (ai 2) (ai 3) (al 4) (al 7) (al 8)) (al 19) na (sn + 1 + t) (rc_b3 (ai 17) (rc_step (ai 2) (ai 3) (al 4) (al 7) (al 8)) (al 19) na sn ((al 19) sn - z, rc_b2 (ai 17) (rc_step (ai 2) (ai 3) (al 4) (al 7) (al 8)) j sn z (rc_far (al 18) (10 * 2 ^ na)) na) t) na).1)), (8, .int (nI na))]) hx hb dX5_bestFrom_196 hl (k := 5) rfl (nI_1 (sn + 1 + t)) (by decide) rfl (fun ls hl => ?_)
          refine lv_goto (tgt := 100) hx hb dX5_bestFrom_199 (by decide) ?_
          have e_100_0 : (rc_b3 (ai 17) (rc_step (ai 2) (ai 3) (al 4) (al 7) (al 8)) (al 19) na sn ((al 19) sn - z, rc_b2 (ai 17) (rc_step (ai 2) (ai 3) (al 4) (al 7) (al 8)) j sn z (rc_far (al 18) (10 * 2 ^ na)) na) (t + 1)).1 = (rc_b3i (ai 17) (rc_step (ai 2) (ai 3) (al 4) (al 7) (al 8)) (al 19) na (sn + 1 + t) (rc_b3 (ai 17) (rc_step (ai 2) (ai 3) (al 4) (al 7) (al 8)) (al 19) na sn ((al 19) sn - z, rc_b2 (ai 17) (rc_step (ai 2) (ai 3) (al 4) (al 7) (al 8)) j sn z (rc_far (al 18) (10 * 2 ^ na)) na) t) na).1 := by first | rfl | (simp only [rc_b3, c_120, if_true, if_false, eq_self, not_true_eq_false, not_false_eq_true, ite_true, ite_false, ↓reduceIte]; done) | (simp [rc_b3, c_120]; done)
          have e_100_1 : nI (sn + 1 + (t + 1)) = nI ((sn + 1 + t) + 1) := by first | rfl | (simp only [rc_b3, c_120, if_true, if_false, eq_self, not_true_eq_false, not_false_eq_true, ite_true, ite_false, ↓reduceIte]; done) | (simp [rc_b3, c_120]; done)
          have e_100_2 : ((rc_b3 (ai 17) (rc_step (ai 2) (ai 3) (al 4) (al 7) (al 8)) (al 19) na sn ((al 19) sn - z, rc_b2 (ai 17) (rc_step (ai 2) (ai 3) (al 4) (al 7) (al 8)) j sn z (rc_far (al 18) (10 * 2 ^ na)) na) (t + 1)).2) = ((rc_b3i (ai 17) (rc_step (ai 2) (ai 3) (al 4) (al 7) (al 8)) (al 19) na (sn + 1 + t) (rc_b3 (ai 17) (rc_step (ai 2) (ai 3) (al 4) (al 7) (al 8)) (al 19) na sn ((al 19) sn - z, rc_b2 (ai 17) (rc_step (ai 2) (ai 3) (al 4) (al 7) (al 8)) j sn z (rc_far (al 18) (10 * 2 ^ na)) na) t) na).2) := by first | rfl | (simp only [rc_b3, c_120, if_true, if_false, eq_self, not_true_eq_false, not_false_eq_true, ite_true, ite_false, ↓reduceIte]; done) | (simp [rc_b3, c_120]; done)
          refine ih_100 (t + 1) (2 ^ na - (sn + 1) - (t + 1)) H locs ls (by omega) ⟨rfl, (by omega), ?_, hS, ?_⟩
          · (try dsimp only); (try rw [e_100_0]); (try rw [e_100_1]); (try rw [e_100_2]); exact hP
          · (try dsimp only); (try rw [e_100_0]); (try rw [e_100_1]); (try rw [e_100_2]); exact lv_sub hl [1, 2, 3, 4, 5, 0] rfl
        · skip
          have c_120 : ¬ ((fi 0) ≤ (nI e9)) := c_120
          have hkl_120 : e9 < na := Nat.lt_of_not_le (fun z => c_120 ((am_ge hna (by omega) (by omega)).mpr z))
          refine lv_aload_n hx hb dX5_bestFrom_123 rfl (lv_at hl 0 rfl) ?_
          refine va_get (D := D) (ci := 5) (v := .ref (ad 18)) (C := RX5) (T := TX5) (N := 31) hx hb hts hin_X5 hown hK hP 0 rfl rfl 27 (by decide) hf_70 (fun _ h9 => h9) rfl dX5_bestFrom_124 ?_
          refine lv_bipush (v := 10) hx hb dX5_bestFrom_127 (by decide) ?_
          refine lv_iload hx hb dX5_bestFrom_129 (lv_at hl 5 rfl) ?_
          refine lv_imul hx hb dX5_bestFrom_131 ?_
          refine lv_iload hx hb dX5_bestFrom_132 (lv_at hl 6 rfl) ?_
          refine lv_iadd hx hb dX5_bestFrom_134 ?_
          refine am_lald hx hb hK hP 18 1 rfl rfl (10 * (sn + 1 + t) + e9) (am_x10 (sn + 1 + t) e9) (by omega) (by decide) dX5_bestFrom_135 ?_
          refine lv_lstore (lv' := [(9, .long (((rc_b3i (ai 17) (rc_step (ai 2) (ai 3) (al 4) (al 7) (al 8)) (al 19) na (sn + 1 + t) (rc_b3 (ai 17) (rc_step (ai 2) (ai 3) (al 4) (al 7) (al 8)) (al 19) na sn ((al 19) sn - z, rc_b2 (ai 17) (rc_step (ai 2) (ai 3) (al 4) (al 7) (al 8)) j sn z (rc_far (al 18) (10 * 2 ^ na)) na) t) e9).2) (10 * (sn + 1 + t) + e9))), (0, .ref (ad 0)), (1, .int (nI sn)), (2, .int (ac_la j)), (3, .long z), (5, .long ((rc_b3i (ai 17) (rc_step (ai 2) (ai 3) (al 4) (al 7) (al 8)) (al 19) na (sn + 1 + t) (rc_b3 (ai 17) (rc_step (ai 2) (ai 3) (al 4) (al 7) (al 8)) (al 19) na sn ((al 19) sn - z, rc_b2 (ai 17) (rc_step (ai 2) (ai 3) (al 4) (al 7) (al 8)) j sn z (rc_far (al 18) (10 * 2 ^ na)) na) t) e9).1)), (7, .int (nI (sn + 1 + t))), (8, .int (nI e9))]) hx hb dX5_bestFrom_136 hl (by decide) rfl (fun ls hl => ?_)
          refine lv_lload hx hb dX5_bestFrom_138 (lv_at hl 0 rfl) ?_
          refine lv_ldc2 (v := 1000000000000000) hx hb hown (ht 578 _ rfl) dX5_bestFrom_140 ?_
          refine W.lcmp hx hb dX5_bestFrom_143 ?_
          refine lv_if_ge (tgt := 190) hx hb dX5_bestFrom_144 (by decide) (fun c_144 => ?_) (fun c_144 => ?_)
          · skip
            have c_144 : 1000000000000000 ≤ (((rc_b3i (ai 17) (rc_step (ai 2) (ai 3) (al 4) (al 7) (al 8)) (al 19) na (sn + 1 + t) (rc_b3 (ai 17) (rc_step (ai 2) (ai 3) (al 4) (al 7) (al 8)) (al 19) na sn ((al 19) sn - z, rc_b2 (ai 17) (rc_step (ai 2) (ai 3) (al 4) (al 7) (al 8)) j sn z (rc_far (al 18) (10 * 2 ^ na)) na) t) e9).2) (10 * (sn + 1 + t) + e9)) := (lg_cmp_ge _ _).mp c_144
            refine lv_iinc (v := nI (e9 + 1)) (lv' := [(8, .int (nI (e9 + 1))), (9, .long (((rc_b3i (ai 17) (rc_step (ai 2) (ai 3) (al 4) (al 7) (al 8)) (al 19) na (sn + 1 + t) (rc_b3 (ai 17) (rc_step (ai 2) (ai 3) (al 4) (al 7) (al 8)) (al 19) na sn ((al 19) sn - z, rc_b2 (ai 17) (rc_step (ai 2) (ai 3) (al 4) (al 7) (al 8)) j sn z (rc_far (al 18) (10 * 2 ^ na)) na) t) e9).2) (10 * (sn + 1 + t) + e9))), (0, .ref (ad 0)), (1, .int (nI sn)), (2, .int (ac_la j)), (3, .long z), (5, .long ((rc_b3i (ai 17) (rc_step (ai 2) (ai 3) (al 4) (al 7) (al 8)) (al 19) na (sn + 1 + t) (rc_b3 (ai 17) (rc_step (ai 2) (ai 3) (al 4) (al 7) (al 8)) (al 19) na sn ((al 19) sn - z, rc_b2 (ai 17) (rc_step (ai 2) (ai 3) (al 4) (al 7) (al 8)) j sn z (rc_far (al 18) (10 * 2 ^ na)) na) t) e9).1)), (7, .int (nI (sn + 1 + t)))]) hx hb dX5_bestFrom_190 hl (k := 7) rfl (nI_1 e9) (by decide) rfl (fun ls hl => ?_)
            refine lv_goto (tgt := 114) hx hb dX5_bestFrom_193 (by decide) ?_
            have e_114_0 : (rc_b3i (ai 17) (rc_step (ai 2) (ai 3) (al 4) (al 7) (al 8)) (al 19) na (sn + 1 + t) (rc_b3 (ai 17) (rc_step (ai 2) (ai 3) (al 4) (al 7) (al 8)) (al 19) na sn ((al 19) sn - z, rc_b2 (ai 17) (rc_step (ai 2) (ai 3) (al 4) (al 7) (al 8)) j sn z (rc_far (al 18) (10 * 2 ^ na)) na) t) (e9 + 1)).1 = (rc_b3i (ai 17) (rc_step (ai 2) (ai 3) (al 4) (al 7) (al 8)) (al 19) na (sn + 1 + t) (rc_b3 (ai 17) (rc_step (ai 2) (ai 3) (al 4) (al 7) (al 8)) (al 19) na sn ((al 19) sn - z, rc_b2 (ai 17) (rc_step (ai 2) (ai 3) (al 4) (al 7) (al 8)) j sn z (rc_far (al 18) (10 * 2 ^ na)) na) t) e9).1 := by first | rfl | (simp only [rc_b3i, rc_b3e, c_120, c_144, if_true, if_false, eq_self, not_true_eq_false, not_false_eq_true, ite_true, ite_false, ↓reduceIte]; done) | (simp [rc_b3i, rc_b3e, c_120, c_144]; done)
            have e_114_1 : ((rc_b3i (ai 17) (rc_step (ai 2) (ai 3) (al 4) (al 7) (al 8)) (al 19) na (sn + 1 + t) (rc_b3 (ai 17) (rc_step (ai 2) (ai 3) (al 4) (al 7) (al 8)) (al 19) na sn ((al 19) sn - z, rc_b2 (ai 17) (rc_step (ai 2) (ai 3) (al 4) (al 7) (al 8)) j sn z (rc_far (al 18) (10 * 2 ^ na)) na) t) (e9 + 1)).2) = ((rc_b3i (ai 17) (rc_step (ai 2) (ai 3) (al 4) (al 7) (al 8)) (al 19) na (sn + 1 + t) (rc_b3 (ai 17) (rc_step (ai 2) (ai 3) (al 4) (al 7) (al 8)) (al 19) na sn ((al 19) sn - z, rc_b2 (ai 17) (rc_step (ai 2) (ai 3) (al 4) (al 7) (al 8)) j sn z (rc_far (al 18) (10 * 2 ^ na)) na) t) e9).2) := by first | rfl | (simp only [rc_b3i, rc_b3e, c_120, c_144, if_true, if_false, eq_self, not_true_eq_false, not_false_eq_true, ite_true, ite_false, ↓reduceIte]; done) | (simp [rc_b3i, rc_b3e, c_120, c_144]; done)
            refine ih_114 (e9 + 1) (na - (e9 + 1)) H locs ls (by omega) ⟨rfl, (by omega), ?_, hS, ?_⟩
            · (try dsimp only); (try rw [e_114_0]); (try rw [e_114_1]); exact hP
            · (try dsimp only); (try rw [e_114_0]); (try rw [e_114_1]); exact lv_sub hl [2, 3, 4, 5, 6, 7, 0] rfl
          · skip
            have c_144 : ¬ (1000000000000000 ≤ (((rc_b3i (ai 17) (rc_step (ai 2) (ai 3) (al 4) (al 7) (al 8)) (al 19) na (sn + 1 + t) (rc_b3 (ai 17) (rc_step (ai 2) (ai 3) (al 4) (al 7) (al 8)) (al 19) na sn ((al 19) sn - z, rc_b2 (ai 17) (rc_step (ai 2) (ai 3) (al 4) (al 7) (al 8)) j sn z (rc_far (al 18) (10 * 2 ^ na)) na) t) e9).2) (10 * (sn + 1 + t) + e9))) := (fun z => c_144 ((lg_cmp_ge _ _).mpr z))
            refine lv_aload_n hx hb dX5_bestFrom_147 rfl (lv_at hl 1 rfl) ?_
            refine va_get (D := D) (ci := 5) (v := .ref (ad 19)) (C := RX5) (T := TX5) (N := 31) hx hb hts hin_X5 hown hK hP 0 rfl rfl 28 (by decide) hf_73 (fun _ h9 => h9) rfl dX5_bestFrom_148 ?_
            refine lv_iload hx hb dX5_bestFrom_151 (lv_at hl 6 rfl) ?_
            refine am_lald hx hb hK hP 19 1 rfl rfl (sn + 1 + t) rfl (by omega) (by decide) dX5_bestFrom_153 ?_
            refine lv_lload hx hb dX5_bestFrom_154 (lv_at hl 0 rfl) ?_
            refine lv_lsub hx hb dX5_bestFrom_156 ?_
            refine lv_lload hx hb dX5_bestFrom_157 (lv_at hl 5 rfl) ?_
            refine W.lcmp hx hb dX5_bestFrom_159 ?_
            refine lv_if_le (tgt := 176) hx hb dX5_bestFrom_160 (by decide) (fun c_160 => ?_) (fun c_160 => ?_)
            · skip
              have c_160 : (((al 19) (sn + 1 + t)) - (((rc_b3i (ai 17) (rc_step (ai 2) (ai 3) (al 4) (al 7) (al 8)) (al 19) na (sn + 1 + t) (rc_b3 (ai 17) (rc_step (ai 2) (ai 3) (al 4) (al 7) (al 8)) (al 19) na sn ((al 19) sn - z, rc_b2 (ai 17) (rc_step (ai 2) (ai 3) (al 4) (al 7) (al 8)) j sn z (rc_far (al 18) (10 * 2 ^ na)) na) t) e9).2) (10 * (sn + 1 + t) + e9))) ≤ ((rc_b3i (ai 17) (rc_step (ai 2) (ai 3) (al 4) (al 7) (al 8)) (al 19) na (sn + 1 + t) (rc_b3 (ai 17) (rc_step (ai 2) (ai 3) (al 4) (al 7) (al 8)) (al 19) na sn ((al 19) sn - z, rc_b2 (ai 17) (rc_step (ai 2) (ai 3) (al 4) (al 7) (al 8)) j sn z (rc_far (al 18) (10 * 2 ^ na)) na) t) e9).1) := (lg_cmp_le _ _).mp c_160
              refine lv_lload hx hb dX5_bestFrom_176 (lv_at hl 5 rfl) ?_
              refine lv_lstore (lv' := [(5, .long ((rc_b3i (ai 17) (rc_step (ai 2) (ai 3) (al 4) (al 7) (al 8)) (al 19) na (sn + 1 + t) (rc_b3 (ai 17) (rc_step (ai 2) (ai 3) (al 4) (al 7) (al 8)) (al 19) na sn ((al 19) sn - z, rc_b2 (ai 17) (rc_step (ai 2) (ai 3) (al 4) (al 7) (al 8)) j sn z (rc_far (al 18) (10 * 2 ^ na)) na) t) e9).1)), (9, .long (((rc_b3i (ai 17) (rc_step (ai 2) (ai 3) (al 4) (al 7) (al 8)) (al 19) na (sn + 1 + t) (rc_b3 (ai 17) (rc_step (ai 2) (ai 3) (al 4) (al 7) (al 8)) (al 19) na sn ((al 19) sn - z, rc_b2 (ai 17) (rc_step (ai 2) (ai 3) (al 4) (al 7) (al 8)) j sn z (rc_far (al 18) (10 * 2 ^ na)) na) t) e9).2) (10 * (sn + 1 + t) + e9))), (0, .ref (ad 0)), (1, .int (nI sn)), (2, .int (ac_la j)), (3, .long z), (7, .int (nI (sn + 1 + t))), (8, .int (nI e9))]) hx hb dX5_bestFrom_178 hl (by decide) rfl (fun ls hl => ?_)
              refine lv_aload_n hx hb dX5_bestFrom_180 rfl (lv_at hl 2 rfl) ?_
              refine lv_iload hx hb dX5_bestFrom_181 (lv_at hl 6 rfl) ?_
              refine lv_iload hx hb dX5_bestFrom_183 (lv_at hl 7 rfl) ?_
              refine lv_lload hx hb dX5_bestFrom_185 (lv_at hl 1 rfl) ?_
              refine am_callMv (va_runV (As := [.int (nI (sn + 1 + t)), .int (nI e9), .long (((rc_b3i (ai 17) (rc_step (ai 2) (ai 3) (al 4) (al 7) (al 8)) (al 19) na (sn + 1 + t) (rc_b3 (ai 17) (rc_step (ai 2) (ai 3) (al 4) (al 7) (al 8)) (al 19) na sn ((al 19) sn - z, rc_b2 (ai 17) (rc_step (ai 2) (ai 3) (al 4) (al 7) (al 8)) j sn z (rc_far (al 18) (10 * 2 ^ na)) na) t) e9).2) (10 * (sn + 1 + t) + e9))]) (rest := []) ⟨hx, hb, hml, hown, hts⟩ (c_X5_spread l D ad cI cL cZ fi fl ai (va_up al 18 ((rc_b3i (ai 17) (rc_step (ai 2) (ai 3) (al 4) (al 7) (al 8)) (al 19) na (sn + 1 + t) (rc_b3 (ai 17) (rc_step (ai 2) (ai 3) (al 4) (al 7) (al 8)) (al 19) na sn ((al 19) sn - z, rc_b2 (ai 17) (rc_step (ai 2) (ai 3) (al 4) (al 7) (al 8)) j sn z (rc_far (al 18) (10 * 2 ^ na)) na) t) e9).2)) A (sn + 1 + t) e9 (((rc_b3i (ai 17) (rc_step (ai 2) (ai 3) (al 4) (al 7) (al 8)) (al 19) na (sn + 1 + t) (rc_b3 (ai 17) (rc_step (ai 2) (ai 3) (al 4) (al 7) (al 8)) (al 19) na sn ((al 19) sn - z, rc_b2 (ai 17) (rc_step (ai 2) (ai 3) (al 4) (al 7) (al 8)) j sn z (rc_far (al 18) (10 * 2 ^ na)) na) t) e9).2) (10 * (sn + 1 + t) + e9)) na hna hnl hto hsi (by omega) (by omega)) (cwV 3 hts (am_gV (am_in 585 rfl) (am_in 586 rfl) (am_in 22 rfl) (am_in 35 rfl) (am_in 587 rfl)) rfl rfl rfl (by decide +kernel) ⟨Nat.le_of_ble_eq_true rfl, Nat.le_of_ble_eq_true rfl⟩) (am_preVM 5 0 rfl rfl rfl hP hK hN hD) rfl rfl hl.1 rfl (lv_room (Nat.le_of_ble_eq_true rfl)) dX5_bestFrom_187 ⟨Nat.zero_le _, Nat.zero_le _⟩) hS (fun H locs hP hS => ?_)
              have hP : va_P D vwCl (rm_w ad cI cL cZ fi fl ai (va_up al 18 (rc_spr (ai 17) (rc_step (ai 2) (ai 3) (al 4) (al 7) (al 8)) (sn + 1 + t) e9 (((rc_b3i (ai 17) (rc_step (ai 2) (ai 3) (al 4) (al 7) (al 8)) (al 19) na (sn + 1 + t) (rc_b3 (ai 17) (rc_step (ai 2) (ai 3) (al 4) (al 7) (al 8)) (al 19) na sn ((al 19) sn - z, rc_b2 (ai 17) (rc_step (ai 2) (ai 3) (al 4) (al 7) (al 8)) j sn z (rc_far (al 18) (10 * 2 ^ na)) na) t) e9).2) (10 * (sn + 1 + t) + e9)) ((rc_b3i (ai 17) (rc_step (ai 2) (ai 3) (al 4) (al 7) (al 8)) (al 19) na (sn + 1 + t) (rc_b3 (ai 17) (rc_step (ai 2) (ai 3) (al 4) (al 7) (al 8)) (al 19) na sn ((al 19) sn - z, rc_b2 (ai 17) (rc_step (ai 2) (ai 3) (al 4) (al 7) (al 8)) j sn z (rc_far (al 18) (10 * 2 ^ na)) na) t) e9).2) na))) H := hP
              have hD : va_D A (rm_w ad cI cL cZ fi fl ai (va_up al 18 (rc_spr (ai 17) (rc_step (ai 2) (ai 3) (al 4) (al 7) (al 8)) (sn + 1 + t) e9 (((rc_b3i (ai 17) (rc_step (ai 2) (ai 3) (al 4) (al 7) (al 8)) (al 19) na (sn + 1 + t) (rc_b3 (ai 17) (rc_step (ai 2) (ai 3) (al 4) (al 7) (al 8)) (al 19) na sn ((al 19) sn - z, rc_b2 (ai 17) (rc_step (ai 2) (ai 3) (al 4) (al 7) (al 8)) j sn z (rc_far (al 18) (10 * 2 ^ na)) na) t) e9).2) (10 * (sn + 1 + t) + e9)) ((rc_b3i (ai 17) (rc_step (ai 2) (ai 3) (al 4) (al 7) (al 8)) (al 19) na (sn + 1 + t) (rc_b3 (ai 17) (rc_step (ai 2) (ai 3) (al 4) (al 7) (al 8)) (al 19) na sn ((al 19) sn - z, rc_b2 (ai 17) (rc_step (ai 2) (ai 3) (al 4) (al 7) (al 8)) j sn z (rc_far (al 18) (10 * 2 ^ na)) na) t) e9).2) na))) := am_D hD rfl
              refine lv_iinc (v := nI (e9 + 1)) (lv' := [(8, .int (nI (e9 + 1))), (5, .long ((rc_b3i (ai 17) (rc_step (ai 2) (ai 3) (al 4) (al 7) (al 8)) (al 19) na (sn + 1 + t) (rc_b3 (ai 17) (rc_step (ai 2) (ai 3) (al 4) (al 7) (al 8)) (al 19) na sn ((al 19) sn - z, rc_b2 (ai 17) (rc_step (ai 2) (ai 3) (al 4) (al 7) (al 8)) j sn z (rc_far (al 18) (10 * 2 ^ na)) na) t) e9).1)), (9, .long (((rc_b3i (ai 17) (rc_step (ai 2) (ai 3) (al 4) (al 7) (al 8)) (al 19) na (sn + 1 + t) (rc_b3 (ai 17) (rc_step (ai 2) (ai 3) (al 4) (al 7) (al 8)) (al 19) na sn ((al 19) sn - z, rc_b2 (ai 17) (rc_step (ai 2) (ai 3) (al 4) (al 7) (al 8)) j sn z (rc_far (al 18) (10 * 2 ^ na)) na) t) e9).2) (10 * (sn + 1 + t) + e9))), (0, .ref (ad 0)), (1, .int (nI sn)), (2, .int (ac_la j)), (3, .long z), (7, .int (nI (sn + 1 + t)))]) hx hb dX5_bestFrom_190 hl (k := 7) rfl (nI_1 e9) (by decide) rfl (fun ls hl => ?_)
              refine lv_goto (tgt := 114) hx hb dX5_bestFrom_193 (by decide) ?_
              have e_114_0 : (rc_b3i (ai 17) (rc_step (ai 2) (ai 3) (al 4) (al 7) (al 8)) (al 19) na (sn + 1 + t) (rc_b3 (ai 17) (rc_step (ai 2) (ai 3) (al 4) (al 7) (al 8)) (al 19) na sn ((al 19) sn - z, rc_b2 (ai 17) (rc_step (ai 2) (ai 3) (al 4) (al 7) (al 8)) j sn z (rc_far (al 18) (10 * 2 ^ na)) na) t) (e9 + 1)).1 = (rc_b3i (ai 17) (rc_step (ai 2) (ai 3) (al 4) (al 7) (al 8)) (al 19) na (sn + 1 + t) (rc_b3 (ai 17) (rc_step (ai 2) (ai 3) (al 4) (al 7) (al 8)) (al 19) na sn ((al 19) sn - z, rc_b2 (ai 17) (rc_step (ai 2) (ai 3) (al 4) (al 7) (al 8)) j sn z (rc_far (al 18) (10 * 2 ^ na)) na) t) e9).1 := by first | rfl | (simp only [rc_b3i, rc_b3e, c_120, c_144, c_160, if_true, if_false, eq_self, not_true_eq_false, not_false_eq_true, ite_true, ite_false, ↓reduceIte]; done) | (simp [rc_b3i, rc_b3e, c_120, c_144, c_160]; done)
              have e_114_1 : ((rc_b3i (ai 17) (rc_step (ai 2) (ai 3) (al 4) (al 7) (al 8)) (al 19) na (sn + 1 + t) (rc_b3 (ai 17) (rc_step (ai 2) (ai 3) (al 4) (al 7) (al 8)) (al 19) na sn ((al 19) sn - z, rc_b2 (ai 17) (rc_step (ai 2) (ai 3) (al 4) (al 7) (al 8)) j sn z (rc_far (al 18) (10 * 2 ^ na)) na) t) (e9 + 1)).2) = (rc_spr (ai 17) (rc_step (ai 2) (ai 3) (al 4) (al 7) (al 8)) (sn + 1 + t) e9 (((rc_b3i (ai 17) (rc_step (ai 2) (ai 3) (al 4) (al 7) (al 8)) (al 19) na (sn + 1 + t) (rc_b3 (ai 17) (rc_step (ai 2) (ai 3) (al 4) (al 7) (al 8)) (al 19) na sn ((al 19) sn - z, rc_b2 (ai 17) (rc_step (ai 2) (ai 3) (al 4) (al 7) (al 8)) j sn z (rc_far (al 18) (10 * 2 ^ na)) na) t) e9).2) (10 * (sn + 1 + t) + e9)) ((rc_b3i (ai 17) (rc_step (ai 2) (ai 3) (al 4) (al 7) (al 8)) (al 19) na (sn + 1 + t) (rc_b3 (ai 17) (rc_step (ai 2) (ai 3) (al 4) (al 7) (al 8)) (al 19) na sn ((al 19) sn - z, rc_b2 (ai 17) (rc_step (ai 2) (ai 3) (al 4) (al 7) (al 8)) j sn z (rc_far (al 18) (10 * 2 ^ na)) na) t) e9).2) na) := by first | rfl | (simp only [rc_b3i, rc_b3e, c_120, c_144, c_160, if_true, if_false, eq_self, not_true_eq_false, not_false_eq_true, ite_true, ite_false, ↓reduceIte]; done) | (simp [rc_b3i, rc_b3e, c_120, c_144, c_160]; done)
              refine ih_114 (e9 + 1) (na - (e9 + 1)) H locs ls (by omega) ⟨rfl, (by omega), ?_, hS, ?_⟩
              · (try dsimp only); (try rw [e_114_0]); (try rw [e_114_1]); exact hP
              · (try dsimp only); (try rw [e_114_0]); (try rw [e_114_1]); exact lv_sub hl [3, 4, 5, 6, 1, 7, 0] rfl
            · skip
              have c_160 : ¬ ((((al 19) (sn + 1 + t)) - (((rc_b3i (ai 17) (rc_step (ai 2) (ai 3) (al 4) (al 7) (al 8)) (al 19) na (sn + 1 + t) (rc_b3 (ai 17) (rc_step (ai 2) (ai 3) (al 4) (al 7) (al 8)) (al 19) na sn ((al 19) sn - z, rc_b2 (ai 17) (rc_step (ai 2) (ai 3) (al 4) (al 7) (al 8)) j sn z (rc_far (al 18) (10 * 2 ^ na)) na) t) e9).2) (10 * (sn + 1 + t) + e9))) ≤ ((rc_b3i (ai 17) (rc_step (ai 2) (ai 3) (al 4) (al 7) (al 8)) (al 19) na (sn + 1 + t) (rc_b3 (ai 17) (rc_step (ai 2) (ai 3) (al 4) (al 7) (al 8)) (al 19) na sn ((al 19) sn - z, rc_b2 (ai 17) (rc_step (ai 2) (ai 3) (al 4) (al 7) (al 8)) j sn z (rc_far (al 18) (10 * 2 ^ na)) na) t) e9).1)) := (fun z => c_160 ((lg_cmp_le _ _).mpr z))
              refine lv_aload_n hx hb dX5_bestFrom_163 rfl (lv_at hl 1 rfl) ?_
              refine va_get (D := D) (ci := 5) (v := .ref (ad 19)) (C := RX5) (T := TX5) (N := 31) hx hb hts hin_X5 hown hK hP 0 rfl rfl 28 (by decide) hf_73 (fun _ h9 => h9) rfl dX5_bestFrom_164 ?_
              refine lv_iload hx hb dX5_bestFrom_167 (lv_at hl 6 rfl) ?_
              refine am_lald hx hb hK hP 19 1 rfl rfl (sn + 1 + t) rfl (by omega) (by decide) dX5_bestFrom_169 ?_
              refine lv_lload hx hb dX5_bestFrom_170 (lv_at hl 0 rfl) ?_
              refine lv_lsub hx hb dX5_bestFrom_172 ?_
              refine lv_goto (tgt := 178) hx hb dX5_bestFrom_173 (by decide) ?_
              refine lv_lstore (lv' := [(5, .long (((al 19) (sn + 1 + t)) - (((rc_b3i (ai 17) (rc_step (ai 2) (ai 3) (al 4) (al 7) (al 8)) (al 19) na (sn + 1 + t) (rc_b3 (ai 17) (rc_step (ai 2) (ai 3) (al 4) (al 7) (al 8)) (al 19) na sn ((al 19) sn - z, rc_b2 (ai 17) (rc_step (ai 2) (ai 3) (al 4) (al 7) (al 8)) j sn z (rc_far (al 18) (10 * 2 ^ na)) na) t) e9).2) (10 * (sn + 1 + t) + e9)))), (9, .long (((rc_b3i (ai 17) (rc_step (ai 2) (ai 3) (al 4) (al 7) (al 8)) (al 19) na (sn + 1 + t) (rc_b3 (ai 17) (rc_step (ai 2) (ai 3) (al 4) (al 7) (al 8)) (al 19) na sn ((al 19) sn - z, rc_b2 (ai 17) (rc_step (ai 2) (ai 3) (al 4) (al 7) (al 8)) j sn z (rc_far (al 18) (10 * 2 ^ na)) na) t) e9).2) (10 * (sn + 1 + t) + e9))), (0, .ref (ad 0)), (1, .int (nI sn)), (2, .int (ac_la j)), (3, .long z), (7, .int (nI (sn + 1 + t))), (8, .int (nI e9))]) hx hb dX5_bestFrom_178 hl (by decide) rfl (fun ls hl => ?_)
              refine lv_aload_n hx hb dX5_bestFrom_180 rfl (lv_at hl 2 rfl) ?_
              refine lv_iload hx hb dX5_bestFrom_181 (lv_at hl 6 rfl) ?_
              refine lv_iload hx hb dX5_bestFrom_183 (lv_at hl 7 rfl) ?_
              refine lv_lload hx hb dX5_bestFrom_185 (lv_at hl 1 rfl) ?_
              refine am_callMv (va_runV (As := [.int (nI (sn + 1 + t)), .int (nI e9), .long (((rc_b3i (ai 17) (rc_step (ai 2) (ai 3) (al 4) (al 7) (al 8)) (al 19) na (sn + 1 + t) (rc_b3 (ai 17) (rc_step (ai 2) (ai 3) (al 4) (al 7) (al 8)) (al 19) na sn ((al 19) sn - z, rc_b2 (ai 17) (rc_step (ai 2) (ai 3) (al 4) (al 7) (al 8)) j sn z (rc_far (al 18) (10 * 2 ^ na)) na) t) e9).2) (10 * (sn + 1 + t) + e9))]) (rest := []) ⟨hx, hb, hml, hown, hts⟩ (c_X5_spread l D ad cI cL cZ fi fl ai (va_up al 18 ((rc_b3i (ai 17) (rc_step (ai 2) (ai 3) (al 4) (al 7) (al 8)) (al 19) na (sn + 1 + t) (rc_b3 (ai 17) (rc_step (ai 2) (ai 3) (al 4) (al 7) (al 8)) (al 19) na sn ((al 19) sn - z, rc_b2 (ai 17) (rc_step (ai 2) (ai 3) (al 4) (al 7) (al 8)) j sn z (rc_far (al 18) (10 * 2 ^ na)) na) t) e9).2)) A (sn + 1 + t) e9 (((rc_b3i (ai 17) (rc_step (ai 2) (ai 3) (al 4) (al 7) (al 8)) (al 19) na (sn + 1 + t) (rc_b3 (ai 17) (rc_step (ai 2) (ai 3) (al 4) (al 7) (al 8)) (al 19) na sn ((al 19) sn - z, rc_b2 (ai 17) (rc_step (ai 2) (ai 3) (al 4) (al 7) (al 8)) j sn z (rc_far (al 18) (10 * 2 ^ na)) na) t) e9).2) (10 * (sn + 1 + t) + e9)) na hna hnl hto hsi (by omega) (by omega)) (cwV 3 hts (am_gV (am_in 585 rfl) (am_in 586 rfl) (am_in 22 rfl) (am_in 35 rfl) (am_in 587 rfl)) rfl rfl rfl (by decide +kernel) ⟨Nat.le_of_ble_eq_true rfl, Nat.le_of_ble_eq_true rfl⟩) (am_preVM 5 0 rfl rfl rfl hP hK hN hD) rfl rfl hl.1 rfl (lv_room (Nat.le_of_ble_eq_true rfl)) dX5_bestFrom_187 ⟨Nat.zero_le _, Nat.zero_le _⟩) hS (fun H locs hP hS => ?_)
              have hP : va_P D vwCl (rm_w ad cI cL cZ fi fl ai (va_up al 18 (rc_spr (ai 17) (rc_step (ai 2) (ai 3) (al 4) (al 7) (al 8)) (sn + 1 + t) e9 (((rc_b3i (ai 17) (rc_step (ai 2) (ai 3) (al 4) (al 7) (al 8)) (al 19) na (sn + 1 + t) (rc_b3 (ai 17) (rc_step (ai 2) (ai 3) (al 4) (al 7) (al 8)) (al 19) na sn ((al 19) sn - z, rc_b2 (ai 17) (rc_step (ai 2) (ai 3) (al 4) (al 7) (al 8)) j sn z (rc_far (al 18) (10 * 2 ^ na)) na) t) e9).2) (10 * (sn + 1 + t) + e9)) ((rc_b3i (ai 17) (rc_step (ai 2) (ai 3) (al 4) (al 7) (al 8)) (al 19) na (sn + 1 + t) (rc_b3 (ai 17) (rc_step (ai 2) (ai 3) (al 4) (al 7) (al 8)) (al 19) na sn ((al 19) sn - z, rc_b2 (ai 17) (rc_step (ai 2) (ai 3) (al 4) (al 7) (al 8)) j sn z (rc_far (al 18) (10 * 2 ^ na)) na) t) e9).2) na))) H := hP
              have hD : va_D A (rm_w ad cI cL cZ fi fl ai (va_up al 18 (rc_spr (ai 17) (rc_step (ai 2) (ai 3) (al 4) (al 7) (al 8)) (sn + 1 + t) e9 (((rc_b3i (ai 17) (rc_step (ai 2) (ai 3) (al 4) (al 7) (al 8)) (al 19) na (sn + 1 + t) (rc_b3 (ai 17) (rc_step (ai 2) (ai 3) (al 4) (al 7) (al 8)) (al 19) na sn ((al 19) sn - z, rc_b2 (ai 17) (rc_step (ai 2) (ai 3) (al 4) (al 7) (al 8)) j sn z (rc_far (al 18) (10 * 2 ^ na)) na) t) e9).2) (10 * (sn + 1 + t) + e9)) ((rc_b3i (ai 17) (rc_step (ai 2) (ai 3) (al 4) (al 7) (al 8)) (al 19) na (sn + 1 + t) (rc_b3 (ai 17) (rc_step (ai 2) (ai 3) (al 4) (al 7) (al 8)) (al 19) na sn ((al 19) sn - z, rc_b2 (ai 17) (rc_step (ai 2) (ai 3) (al 4) (al 7) (al 8)) j sn z (rc_far (al 18) (10 * 2 ^ na)) na) t) e9).2) na))) := am_D hD rfl
              refine lv_iinc (v := nI (e9 + 1)) (lv' := [(8, .int (nI (e9 + 1))), (5, .long (((al 19) (sn + 1 + t)) - (((rc_b3i (ai 17) (rc_step (ai 2) (ai 3) (al 4) (al 7) (al 8)) (al 19) na (sn + 1 + t) (rc_b3 (ai 17) (rc_step (ai 2) (ai 3) (al 4) (al 7) (al 8)) (al 19) na sn ((al 19) sn - z, rc_b2 (ai 17) (rc_step (ai 2) (ai 3) (al 4) (al 7) (al 8)) j sn z (rc_far (al 18) (10 * 2 ^ na)) na) t) e9).2) (10 * (sn + 1 + t) + e9)))), (9, .long (((rc_b3i (ai 17) (rc_step (ai 2) (ai 3) (al 4) (al 7) (al 8)) (al 19) na (sn + 1 + t) (rc_b3 (ai 17) (rc_step (ai 2) (ai 3) (al 4) (al 7) (al 8)) (al 19) na sn ((al 19) sn - z, rc_b2 (ai 17) (rc_step (ai 2) (ai 3) (al 4) (al 7) (al 8)) j sn z (rc_far (al 18) (10 * 2 ^ na)) na) t) e9).2) (10 * (sn + 1 + t) + e9))), (0, .ref (ad 0)), (1, .int (nI sn)), (2, .int (ac_la j)), (3, .long z), (7, .int (nI (sn + 1 + t)))]) hx hb dX5_bestFrom_190 hl (k := 7) rfl (nI_1 e9) (by decide) rfl (fun ls hl => ?_)
              refine lv_goto (tgt := 114) hx hb dX5_bestFrom_193 (by decide) ?_
              have e_114_0 : (rc_b3i (ai 17) (rc_step (ai 2) (ai 3) (al 4) (al 7) (al 8)) (al 19) na (sn + 1 + t) (rc_b3 (ai 17) (rc_step (ai 2) (ai 3) (al 4) (al 7) (al 8)) (al 19) na sn ((al 19) sn - z, rc_b2 (ai 17) (rc_step (ai 2) (ai 3) (al 4) (al 7) (al 8)) j sn z (rc_far (al 18) (10 * 2 ^ na)) na) t) (e9 + 1)).1 = ((al 19) (sn + 1 + t)) - (((rc_b3i (ai 17) (rc_step (ai 2) (ai 3) (al 4) (al 7) (al 8)) (al 19) na (sn + 1 + t) (rc_b3 (ai 17) (rc_step (ai 2) (ai 3) (al 4) (al 7) (al 8)) (al 19) na sn ((al 19) sn - z, rc_b2 (ai 17) (rc_step (ai 2) (ai 3) (al 4) (al 7) (al 8)) j sn z (rc_far (al 18) (10 * 2 ^ na)) na) t) e9).2) (10 * (sn + 1 + t) + e9)) := by first | rfl | (simp only [rc_b3i, rc_b3e, c_120, c_144, c_160, if_true, if_false, eq_self, not_true_eq_false, not_false_eq_true, ite_true, ite_false, ↓reduceIte]; done) | (simp [rc_b3i, rc_b3e, c_120, c_144, c_160]; done)
              have e_114_1 : ((rc_b3i (ai 17) (rc_step (ai 2) (ai 3) (al 4) (al 7) (al 8)) (al 19) na (sn + 1 + t) (rc_b3 (ai 17) (rc_step (ai 2) (ai 3) (al 4) (al 7) (al 8)) (al 19) na sn ((al 19) sn - z, rc_b2 (ai 17) (rc_step (ai 2) (ai 3) (al 4) (al 7) (al 8)) j sn z (rc_far (al 18) (10 * 2 ^ na)) na) t) (e9 + 1)).2) = (rc_spr (ai 17) (rc_step (ai 2) (ai 3) (al 4) (al 7) (al 8)) (sn + 1 + t) e9 (((rc_b3i (ai 17) (rc_step (ai 2) (ai 3) (al 4) (al 7) (al 8)) (al 19) na (sn + 1 + t) (rc_b3 (ai 17) (rc_step (ai 2) (ai 3) (al 4) (al 7) (al 8)) (al 19) na sn ((al 19) sn - z, rc_b2 (ai 17) (rc_step (ai 2) (ai 3) (al 4) (al 7) (al 8)) j sn z (rc_far (al 18) (10 * 2 ^ na)) na) t) e9).2) (10 * (sn + 1 + t) + e9)) ((rc_b3i (ai 17) (rc_step (ai 2) (ai 3) (al 4) (al 7) (al 8)) (al 19) na (sn + 1 + t) (rc_b3 (ai 17) (rc_step (ai 2) (ai 3) (al 4) (al 7) (al 8)) (al 19) na sn ((al 19) sn - z, rc_b2 (ai 17) (rc_step (ai 2) (ai 3) (al 4) (al 7) (al 8)) j sn z (rc_far (al 18) (10 * 2 ^ na)) na) t) e9).2) na) := by first | rfl | (simp only [rc_b3i, rc_b3e, c_120, c_144, c_160, if_true, if_false, eq_self, not_true_eq_false, not_false_eq_true, ite_true, ite_false, ↓reduceIte]; done) | (simp [rc_b3i, rc_b3e, c_120, c_144, c_160]; done)
              refine ih_114 (e9 + 1) (na - (e9 + 1)) H locs ls (by omega) ⟨rfl, (by omega), ?_, hS, ?_⟩
              · (try dsimp only); (try rw [e_114_0]); (try rw [e_114_1]); exact hP
              · (try dsimp only); (try rw [e_114_0]); (try rw [e_114_1]); exact lv_sub hl [3, 4, 5, 6, 1, 7, 0] rfl
    · skip
      have c_50 : ¬ ((fi 0) ≤ (nI a)) := c_50
      have hkl_50 : a < na := Nat.lt_of_not_le (fun z => c_50 ((am_ge hna (by omega) (by omega)).mpr z))
      refine lv_aload_n hx hb dX5_bestFrom_53 rfl (lv_at hl 0 rfl) ?_
      refine lv_iload_n hx hb dX5_bestFrom_54 rfl (lv_at hl 1 rfl) ?_
      refine lv_iload hx hb dX5_bestFrom_55 (lv_at hl 5 rfl) ?_
      refine am_callRi (W.runV (As := [.int (nI sn), .int (nI a)]) (rest := []) ⟨hx, hb, hml, hown, hts⟩ (c_X5_canDo l D ad cI cL cZ fi fl ai (va_up al 18 (rc_b2 (ai 17) (rc_step (ai 2) (ai 3) (al 4) (al 7) (al 8)) j sn z (rc_far (al 18) (10 * 2 ^ na)) a)) (nI sn) a (by omega)) (cwV 2 hts (am_gV (am_in 579 rfl) (am_in 580 rfl) (am_in 20 rfl) (am_in 35 rfl) (am_in 581 rfl)) rfl rfl rfl (by decide +kernel) ⟨Nat.le_of_ble_eq_true rfl, Nat.le_of_ble_eq_true rfl⟩) (am_preVR 5 0 rfl rfl rfl hP hK hN) rfl rfl hl.1 rfl (lv_room (Nat.le_of_ble_eq_true rfl)) dX5_bestFrom_57 ⟨Nat.zero_le _, Nat.zero_le _⟩) ?_
      refine lv_if_eq (tgt := 89) hx hb dX5_bestFrom_60 (by decide) (fun c_60 => ?_) (fun c_60 => ?_)
      · skip
        have c_60 : (rc_can (ai 17) (nI sn) a) = 0 := c_60
        refine lv_iinc (v := nI (a + 1)) (lv' := [(7, .int (nI (a + 1))), (0, .ref (ad 0)), (1, .int (nI sn)), (2, .int (ac_la j)), (3, .long z), (5, .long (((al 19) sn) - z))]) hx hb dX5_bestFrom_89 hl (k := 5) rfl (nI_1 a) (by decide) rfl (fun ls hl => ?_)
        refine lv_goto (tgt := 44) hx hb dX5_bestFrom_92 (by decide) ?_
        have e_44_0 : (rc_b2 (ai 17) (rc_step (ai 2) (ai 3) (al 4) (al 7) (al 8)) j sn z (rc_far (al 18) (10 * 2 ^ na)) (a + 1)) = (rc_b2 (ai 17) (rc_step (ai 2) (ai 3) (al 4) (al 7) (al 8)) j sn z (rc_far (al 18) (10 * 2 ^ na)) a) := by first | rfl | (simp only [rc_b2, c_50, c_60, if_true, if_false, eq_self, not_true_eq_false, not_false_eq_true, ite_true, ite_false, ↓reduceIte]; done) | (simp [rc_b2, c_50, c_60]; done)
        refine ih_44 (a + 1) (na - (a + 1)) H locs ls (by omega) ⟨rfl, (by omega), ?_, hS, ?_⟩
        · (try dsimp only); (try rw [e_44_0]); exact hP
        · (try dsimp only); (try rw [e_44_0]); exact lv_sub hl [1, 2, 3, 4, 5, 0] rfl
      · skip
        have c_60 : ¬ ((rc_can (ai 17) (nI sn) a) = 0) := c_60
        refine lv_aload_n hx hb dX5_bestFrom_63 rfl (lv_at hl 0 rfl) ?_
        refine va_get (D := D) (ci := 5) (v := .ref (ad 18)) (C := RX5) (T := TX5) (N := 31) hx hb hts hin_X5 hown hK hP 0 rfl rfl 27 (by decide) hf_70 (fun _ h9 => h9) rfl dX5_bestFrom_64 ?_
        refine lv_bipush (v := 10) hx hb dX5_bestFrom_67 (by decide) ?_
        refine lv_iload_n hx hb dX5_bestFrom_69 rfl (lv_at hl 1 rfl) ?_
        refine lv_iconst (v := 1) hx hb dX5_bestFrom_70 (by decide) ?_
        refine lv_iload hx hb dX5_bestFrom_71 (lv_at hl 5 rfl) ?_
        refine lv_ishl hx hb dX5_bestFrom_73 ?_
        refine lv_ior hx hb dX5_bestFrom_74 ?_
        refine lv_imul hx hb dX5_bestFrom_75 ?_
        refine lv_iload hx hb dX5_bestFrom_76 (lv_at hl 5 rfl) ?_
        refine lv_iadd hx hb dX5_bestFrom_78 ?_
        refine lv_lload_n hx hb dX5_bestFrom_79 rfl (lv_at hl 3 rfl) ?_
        refine lv_aload_n hx hb dX5_bestFrom_80 rfl (lv_at hl 0 rfl) ?_
        refine lv_iload_n hx hb dX5_bestFrom_81 rfl (lv_at hl 2 rfl) ?_
        refine lv_iload hx hb dX5_bestFrom_82 (lv_at hl 5 rfl) ?_
        refine am_callRl (W.runV (As := [.int (ac_la j), .int (nI a)]) (rest := [.long z, .int ((10 * ((nI sn) ||| ((1 : Int32) <<< ((nI a) &&& 31)))) + (nI a)), .ref (ad 18)]) ⟨hx, hb, hml, hown, hts⟩ (c_X5_stepCost l D ad cI cL cZ fi fl ai (va_up al 18 (rc_b2 (ai 17) (rc_step (ai 2) (ai 3) (al 4) (al 7) (al 8)) j sn z (rc_far (al 18) (10 * 2 ^ na)) a)) j a na hna hnl hto hsi hj (by omega)) (cwV 2 hts (am_gV (am_in 582 rfl) (am_in 583 rfl) (am_in 21 rfl) (am_in 35 rfl) (am_in 584 rfl)) rfl rfl rfl (by decide +kernel) ⟨Nat.le_of_ble_eq_true rfl, Nat.le_of_ble_eq_true rfl⟩) (am_preVR 5 0 rfl rfl rfl hP hK hN) rfl rfl hl.1 rfl (lv_room (Nat.le_of_ble_eq_true rfl)) dX5_bestFrom_84 ⟨Nat.zero_le _, Nat.zero_le _⟩) ?_
        refine lv_ladd hx hb dX5_bestFrom_87 ?_
        refine am_last hx hb hK hP hD hS 18 1 rfl rfl (10 * (sn ||| 2 ^ a) + a) (am_six2 (by omega)) (by have := am_or_lt hsn (show a < 10 by omega); omega) (by decide) (rm_w ad cI cL cZ fi fl ai (va_up al 18 (vp_updL (rc_b2 (ai 17) (rc_step (ai 2) (ai 3) (al 4) (al 7) (al 8)) j sn z (rc_far (al 18) (10 * 2 ^ na)) a) (10 * (sn ||| 2 ^ a) + a) (z + ((rc_step (ai 2) (ai 3) (al 4) (al 7) (al 8)) j a))))) rfl dX5_bestFrom_88 (fun H locs hP hD hS => ?_)
        refine lv_iinc (v := nI (a + 1)) (lv' := [(7, .int (nI (a + 1))), (0, .ref (ad 0)), (1, .int (nI sn)), (2, .int (ac_la j)), (3, .long z), (5, .long (((al 19) sn) - z))]) hx hb dX5_bestFrom_89 hl (k := 5) rfl (nI_1 a) (by decide) rfl (fun ls hl => ?_)
        refine lv_goto (tgt := 44) hx hb dX5_bestFrom_92 (by decide) ?_
        have e_44_0 : (rc_b2 (ai 17) (rc_step (ai 2) (ai 3) (al 4) (al 7) (al 8)) j sn z (rc_far (al 18) (10 * 2 ^ na)) (a + 1)) = (vp_updL (rc_b2 (ai 17) (rc_step (ai 2) (ai 3) (al 4) (al 7) (al 8)) j sn z (rc_far (al 18) (10 * 2 ^ na)) a) (10 * (sn ||| 2 ^ a) + a) (z + ((rc_step (ai 2) (ai 3) (al 4) (al 7) (al 8)) j a))) := by first | rfl | (simp only [rc_b2, c_50, c_60, if_true, if_false, eq_self, not_true_eq_false, not_false_eq_true, ite_true, ite_false, ↓reduceIte]; done) | (simp [rc_b2, c_50, c_60]; done)
        refine ih_44 (a + 1) (na - (a + 1)) H locs ls (by omega) ⟨rfl, (by omega), ?_, hS, ?_⟩
        · (try dsimp only); (try rw [e_44_0]); exact hP
        · (try dsimp only); (try rw [e_44_0]); exact lv_sub hl [1, 2, 3, 4, 5, 0] rfl
  · skip
    have c_22 : ¬ ((nI (10 * 2 ^ na)) ≤ (nI k)) := c_22
    have hkl : k < 10 * 2 ^ na := Nat.lt_of_not_le (fun z => c_22 ((am_ge (rfl : nI (10 * 2 ^ na) = nI (10 * 2 ^ na)) (by omega) (by omega)).mpr z))
    refine lv_aload_n hx hb dX5_bestFrom_25 rfl (lv_at hl 0 rfl) ?_
    refine va_get (D := D) (ci := 5) (v := .ref (ad 18)) (C := RX5) (T := TX5) (N := 31) hx hb hts hin_X5 hown hK hP 0 rfl rfl 27 (by decide) hf_70 (fun _ h9 => h9) rfl dX5_bestFrom_26 ?_
    refine lv_iload hx hb dX5_bestFrom_29 (lv_at hl 5 rfl) ?_
    refine lv_ldc2 (v := 1000000000000000) hx hb hown (ht 578 _ rfl) dX5_bestFrom_31 ?_
    refine am_last hx hb hK hP hD hS 18 1 rfl rfl k rfl (by omega) (by decide) (rm_w ad cI cL cZ fi fl ai (va_up al 18 (vp_updL (rc_far (al 18) k) k 1000000000000000))) rfl dX5_bestFrom_34 (fun H locs hP hD hS => ?_)
    refine lv_iinc (v := nI (k + 1)) (lv' := [(7, .int (nI (k + 1))), (0, .ref (ad 0)), (1, .int (nI sn)), (2, .int (ac_la j)), (3, .long z), (5, .long (((al 19) sn) - z))]) hx hb dX5_bestFrom_35 hl (k := 5) rfl (nI_1 k) (by decide) rfl (fun ls hl => ?_)
    refine lv_goto (tgt := 13) hx hb dX5_bestFrom_38 (by decide) ?_
    have e_13_0 : (rc_far (al 18) (k + 1)) = (vp_updL (rc_far (al 18) k) k 1000000000000000) := by first | rfl | (simp only [rc_far, c_22, if_true, if_false, eq_self, not_true_eq_false, not_false_eq_true, ite_true, ite_false, ↓reduceIte]; done) | (simp [rc_far, c_22]; done)
    refine ih_13 (k + 1) (10 * 2 ^ na - (k + 1)) H locs ls (by omega) ⟨rfl, (by omega), ?_, hS, ?_⟩
    · (try dsimp only); (try rw [e_13_0]); exact hP
    · (try dsimp only); (try rw [e_13_0]); exact lv_sub hl [1, 2, 3, 4, 5, 0] rfl

