set_option maxHeartbeats 4000000 in
set_option maxRecDepth 100000 in
theorem c_X4_setLimits (l : Launch) (D : va_G) (ad : Nat → Nat) (cI cL : ClassId) (fi : Nat → Int32) (fl : Nat → Int64) (ai : Nat → Nat → Int32) (al : Nat → Nat → Int64) (A : Nat → Prop) (na : Nat) (hna : fi 0 = nI na) (hnl : na ≤ 10) : Met l yX4_setLimits wsX4_setLimits (am_rm 1 21) (va_Pc [.ref (ad 4)] (am_M nwL vwCl D A (ac_w ad cI cL fi fl ai al) [(cI, .int), (cL, .long)])) (am_Mv vwCl D (ac_w ad cI cL fi (vp_updL (vp_updL fl 1 (ac_tot (al 8) (fi 8) na + 1)) 2 (ac_least (al 8) (fi 8) (fi 9) na)) ai al) A) 0 0 A := by
  refine am_startM (cc := cX4_setLimits) (maxL := 6) (ret := none) (by decide) rfl (Nat.le_of_ble_eq_true rfl) [(0, .ref (ad 4))] rfl ?_
  intro p e s m below meth c ls hx hb hr hml hown hts hlocks hK hN hD H locs hP hS hl
  have hown : s.vm.findClass RX4 = some m.cls := hown
  have ht := am_ht hts
  have hin_X4 : ∀ w ∈ u_ws RX4 TX4 8, w ∈ wsX4_setLimits := fun w h => List.mem_cons_of_mem _ (am_inX4 w h)
  have hin_X1 : ∀ w ∈ u_ws RX1 TX1 14, w ∈ wsX4_setLimits := fun w h => List.mem_cons_of_mem _ (am_inX1 w h)
  have hf_22 := ht 155 (.fieldLink RX4 22 "ApartCost$Line" "product" "LApartCost$Product;") rfl
  have hf_32 := ht 158 (.fieldLink RX4 32 "ApartCost$Line" "set" "I") rfl
  have hf_36 := ht 159 (.fieldLink RX4 36 "ApartCost$Line" "stations" "I") rfl
  have hf_49 := ht 160 (.fieldLink RX4 49 "ApartCost$Line" "longest" "J") rfl
  have hf_53 := ht 58 (.fieldLink RX4 53 "ApartCost$Product" "acts" "I") rfl
  have hf_62 := ht 64 (.fieldLink RX4 62 "ApartCost$Product" "cents" "[J") rfl
  have hf_71 := ht 161 (.fieldLink RX4 71 "ApartCost$Line" "least" "J") rfl
  refine lv_lconst (v := 0) hx hb dX4_setLimits_0 (by decide) ?_
  refine lv_lstore_n (lv' := [(1, .long 0), (0, .ref (ad 4))]) hx hb dX4_setLimits_1 rfl hl (by decide) rfl (fun ls hl => ?_)
  refine lv_lconst (v := 0) hx hb dX4_setLimits_2 (by decide) ?_
  refine lv_lstore_n (lv' := [(3, .long 0), (1, .long 0), (0, .ref (ad 4))]) hx hb dX4_setLimits_3 rfl hl (by decide) rfl (fun ls hl => ?_)
  refine lv_iconst (v := 0) hx hb dX4_setLimits_4 (by decide) ?_
  refine lv_istore (lv' := [(5, .int 0), (3, .long 0), (1, .long 0), (0, .ref (ad 4))]) hx hb dX4_setLimits_5 hl (by decide) rfl (fun ls hl => ?_)
  refine am_loop (σ := Nat) (fun q n9 H locs ls => n9 = na - q ∧ q ≤ na ∧ va_P D vwCl (ac_w ad cI cL fi fl ai al) H ∧ va_S A s.heap H locs ∧ lv_has ls 6 [(0, .ref (ad 4)), (1, .long (ac_tot (al 8) (fi 8) q)), (3, .long (ac_dear (al 8) (fi 8) q)), (5, .int (nI q))]) ?_ 0 (na - 0) H locs ls ⟨rfl, (by omega), hP, hS, lv_sub hl [3, 2, 1, 0] rfl⟩
  rintro k n9 H locs ls ⟨hn_7, hk, hP, hS, hl⟩ ih_7
  have hD : va_D A (ac_w ad cI cL fi fl ai al) := am_D hD rfl
  refine lv_iload hx hb dX4_setLimits_7 (lv_at hl 3 rfl) ?_
  refine lv_aload_n hx hb dX4_setLimits_9 rfl (lv_at hl 0 rfl) ?_
  refine va_get (D := D) (ci := 4) (v := .ref (ad 1)) (C := RX4) (T := TX4) (N := 8) hx hb hts hin_X4 hown hK hP 4 rfl rfl 1 (by decide) hf_22 (fun _ h9 => h9) rfl dX4_setLimits_10 ?_
  refine va_get (D := D) (ci := 1) (v := .int (fi 0)) (C := RX1) (T := TX1) (N := 14) hx hb hts hin_X1 hown hK hP 1 rfl rfl 0 (by decide) hf_53 (fun _ h9 => h9) rfl dX4_setLimits_13 ?_
  refine lv_icmp_ge (tgt := 65) hx hb dX4_setLimits_16 (by decide) (fun c_16 => ?_) (fun c_16 => ?_)
  · skip
    have hke_16 : na ≤ k := (am_ge hna (by omega) (by omega)).mp c_16
    have hkq_16 : na = k := by omega
    subst hkq_16
    refine lv_aload_n hx hb dX4_setLimits_65 rfl (lv_at hl 0 rfl) ?_
    refine lv_lload_n hx hb dX4_setLimits_66 rfl (lv_at hl 1 rfl) ?_
    refine lv_lconst (v := 1) hx hb dX4_setLimits_67 (by decide) ?_
    refine lv_ladd hx hb dX4_setLimits_68 ?_
    refine va_put (D := D) (ci := 4) (v := .long ((ac_tot (al 8) (fi 8) na) + 1)) (ty := .long) (C := RX4) (T := TX4) (N := 8) hx hb hts hin_X4 tyX4 tyX4_ok nmX4 hown hK hP hD hS 4 rfl rfl 6 (by decide) hf_49 (fun _ h9 => h9) rfl (by decide +kernel) rfl rfl (Nat.le_of_ble_eq_true rfl) dX4_setLimits_69 (fun H locs hP hD hS => ?_)
    have hP : va_P D vwCl (ac_w ad cI cL fi (vp_updL fl 1 ((ac_tot (al 8) (fi 8) na) + 1)) ai al) H := hP
    have hD : va_D A (ac_w ad cI cL fi (vp_updL fl 1 ((ac_tot (al 8) (fi 8) na) + 1)) ai al) := am_D hD rfl
    refine lv_aload_n hx hb dX4_setLimits_72 rfl (lv_at hl 0 rfl) ?_
    refine lv_aload_n hx hb dX4_setLimits_73 rfl (lv_at hl 0 rfl) ?_
    refine va_get (D := D) (ci := 4) (v := .int (fi 9)) (C := RX4) (T := TX4) (N := 8) hx hb hts hin_X4 hown hK hP 4 rfl rfl 5 (by decide) hf_36 (fun _ h9 => h9) rfl dX4_setLimits_74 ?_
    refine lv_if_le (tgt := 102) hx hb dX4_setLimits_77 (by decide) (fun c_77 => ?_) (fun c_77 => ?_)
    · skip
      refine lv_lload_n hx hb dX4_setLimits_102 rfl (lv_at hl 1 rfl) ?_
      refine va_put (D := D) (ci := 4) (v := .long (ac_tot (al 8) (fi 8) na)) (ty := .long) (C := RX4) (T := TX4) (N := 8) hx hb hts hin_X4 tyX4 tyX4_ok nmX4 hown hK hP hD hS 4 rfl rfl 7 (by decide) hf_71 (fun _ h9 => h9) rfl (by decide +kernel) rfl rfl (Nat.le_of_ble_eq_true rfl) dX4_setLimits_103 (fun H locs hP hD hS => ?_)
      have hP : va_P D vwCl (ac_w ad cI cL fi (vp_updL (vp_updL fl 1 ((ac_tot (al 8) (fi 8) na) + 1)) 2 (ac_tot (al 8) (fi 8) na)) ai al) H := hP
      have hD : va_D A (ac_w ad cI cL fi (vp_updL (vp_updL fl 1 ((ac_tot (al 8) (fi 8) na) + 1)) 2 (ac_tot (al 8) (fi 8) na)) ai al) := am_D hD rfl
      exact am_vretM hx hb hr hlocks (by simp only [ac_least, if_pos c_77]; exact hP) hS dX4_setLimits_106
    · skip
      refine lv_lload_n hx hb dX4_setLimits_80 rfl (lv_at hl 2 rfl) ?_
      refine lv_lload_n hx hb dX4_setLimits_81 rfl (lv_at hl 1 rfl) ?_
      refine lv_aload_n hx hb dX4_setLimits_82 rfl (lv_at hl 0 rfl) ?_
      refine va_get (D := D) (ci := 4) (v := .int (fi 9)) (C := RX4) (T := TX4) (N := 8) hx hb hts hin_X4 hown hK hP 4 rfl rfl 5 (by decide) hf_36 (fun _ h9 => h9) rfl dX4_setLimits_83 ?_
      refine lv_i2l (v := (fi 9).toInt64) hx hb dX4_setLimits_86 rfl ?_
      refine lv_ladd hx hb dX4_setLimits_87 ?_
      refine lv_lconst (v := 1) hx hb dX4_setLimits_88 (by decide) ?_
      refine lv_lsub hx hb dX4_setLimits_89 ?_
      refine lv_aload_n hx hb dX4_setLimits_90 rfl (lv_at hl 0 rfl) ?_
      refine va_get (D := D) (ci := 4) (v := .int (fi 9)) (C := RX4) (T := TX4) (N := 8) hx hb hts hin_X4 hown hK hP 4 rfl rfl 5 (by decide) hf_36 (fun _ h9 => h9) rfl dX4_setLimits_91 ?_
      refine lv_i2l (v := (fi 9).toInt64) hx hb dX4_setLimits_94 rfl ?_
      refine lv_ldiv hx hb dX4_setLimits_95 (am_ne0 c_77) ?_
      refine va_mmax_long hx hb (hml.trans hl.1.symm) hown (ht 400 _ rfl) (ht 336 _ rfl) (ht 37 _ rfl) (ht 337 _ rfl) (Nat.le_of_ble_eq_true rfl) (Nat.le_of_ble_eq_true rfl) (Nat.zero_le _) (Nat.zero_le _) dX4_setLimits_96 ?_
      refine am_topl (y := ac_max (ac_dear (al 8) (fi 8) na) ((((ac_tot (al 8) (fi 8) na) + ((fi 9).toInt64)) - 1) / ((fi 9).toInt64))) rfl ?_
      refine lv_goto (tgt := 103) hx hb dX4_setLimits_99 (by decide) ?_
      refine va_put (D := D) (ci := 4) (v := .long (ac_max (ac_dear (al 8) (fi 8) na) ((((ac_tot (al 8) (fi 8) na) + ((fi 9).toInt64)) - 1) / ((fi 9).toInt64)))) (ty := .long) (C := RX4) (T := TX4) (N := 8) hx hb hts hin_X4 tyX4 tyX4_ok nmX4 hown hK hP hD hS 4 rfl rfl 7 (by decide) hf_71 (fun _ h9 => h9) rfl (by decide +kernel) rfl rfl (Nat.le_of_ble_eq_true rfl) dX4_setLimits_103 (fun H locs hP hD hS => ?_)
      have hP : va_P D vwCl (ac_w ad cI cL fi (vp_updL (vp_updL fl 1 ((ac_tot (al 8) (fi 8) na) + 1)) 2 (ac_max (ac_dear (al 8) (fi 8) na) ((((ac_tot (al 8) (fi 8) na) + ((fi 9).toInt64)) - 1) / ((fi 9).toInt64)))) ai al) H := hP
      have hD : va_D A (ac_w ad cI cL fi (vp_updL (vp_updL fl 1 ((ac_tot (al 8) (fi 8) na) + 1)) 2 (ac_max (ac_dear (al 8) (fi 8) na) ((((ac_tot (al 8) (fi 8) na) + ((fi 9).toInt64)) - 1) / ((fi 9).toInt64)))) ai al) := am_D hD rfl
      exact am_vretM hx hb hr hlocks (by simp only [ac_least, if_neg c_77]; exact hP) hS dX4_setLimits_106
  · skip
    have hkl_16 : k < na := Nat.lt_of_not_le (fun z => c_16 ((am_ge hna (by omega) (by omega)).mpr z))
    refine lv_aload_n hx hb dX4_setLimits_19 rfl (lv_at hl 0 rfl) ?_
    refine va_get (D := D) (ci := 4) (v := .int (fi 8)) (C := RX4) (T := TX4) (N := 8) hx hb hts hin_X4 hown hK hP 4 rfl rfl 4 (by decide) hf_32 (fun _ h9 => h9) rfl dX4_setLimits_20 ?_
    refine lv_iload hx hb dX4_setLimits_23 (lv_at hl 3 rfl) ?_
    refine am_callRi (va_Run.run (va_runSN (As := [.int (fi 8), .int (nI k)]) (rest := []) ⟨hx, hb, hml, hown, hts⟩ (c_X0_has l D _ _ (fi 8) (nI k)) ⟨va_cnB 2 hts (am_gN (am_in 206 rfl)) rfl rfl rfl (am_nw_at hN 4 rfl) (ht 29 _ rfl) (by decide +kernel) ⟨Nat.le_of_ble_eq_true rfl, Nat.le_of_ble_eq_true rfl⟩, (ht 205 _ rfl), trivial⟩ (am_preSR hP hK hN) rfl rfl hl.1 rfl (lv_room (Nat.le_of_ble_eq_true rfl)) dX4_setLimits_25 ⟨Nat.zero_le _, Nat.zero_le _⟩)) ?_
    refine lv_if_eq (tgt := 59) hx hb dX4_setLimits_28 (by decide) (fun c_28 => ?_) (fun c_28 => ?_)
    · skip
      refine lv_iinc (v := nI (k + 1)) (lv' := [(5, .int (nI (k + 1))), (0, .ref (ad 4)), (1, .long (ac_tot (al 8) (fi 8) k)), (3, .long (ac_dear (al 8) (fi 8) k))]) hx hb dX4_setLimits_59 hl (k := 3) rfl (nI_1 k) (by decide) rfl (fun ls hl => ?_)
      refine lv_goto (tgt := 7) hx hb dX4_setLimits_62 (by decide) ?_
      have e_7_0 : ac_tot (al 8) (fi 8) (k + 1) = ac_tot (al 8) (fi 8) k := by first | rfl | (simp only [ac_tot, ac_dear, c_16, c_28, if_true, if_false, eq_self, not_true_eq_false, not_false_eq_true, ite_true, ite_false, ↓reduceIte]; done) | (simp [ac_tot, ac_dear, c_16, c_28]; done)
      have e_7_1 : ac_dear (al 8) (fi 8) (k + 1) = ac_dear (al 8) (fi 8) k := by first | rfl | (simp only [ac_tot, ac_dear, c_16, c_28, if_true, if_false, eq_self, not_true_eq_false, not_false_eq_true, ite_true, ite_false, ↓reduceIte]; done) | (simp [ac_tot, ac_dear, c_16, c_28]; done)
      refine ih_7 (k + 1) (na - (k + 1)) H locs ls (by omega) ⟨rfl, (by omega), ?_, hS, ?_⟩
      · (try dsimp only); (try rw [e_7_0] ; try rw [e_7_1]); exact hP
      · (try dsimp only); (try rw [e_7_0] ; try rw [e_7_1]); exact lv_sub hl [1, 2, 3, 0] rfl
    · skip
      refine lv_lload_n hx hb dX4_setLimits_31 rfl (lv_at hl 1 rfl) ?_
      refine lv_aload_n hx hb dX4_setLimits_32 rfl (lv_at hl 0 rfl) ?_
      refine va_get (D := D) (ci := 4) (v := .ref (ad 1)) (C := RX4) (T := TX4) (N := 8) hx hb hts hin_X4 hown hK hP 4 rfl rfl 1 (by decide) hf_22 (fun _ h9 => h9) rfl dX4_setLimits_33 ?_
      refine va_get (D := D) (ci := 1) (v := .ref (ad 8)) (C := RX1) (T := TX1) (N := 14) hx hb hts hin_X1 hown hK hP 1 rfl rfl 4 (by decide) hf_62 (fun _ h9 => h9) rfl dX4_setLimits_36 ?_
      refine lv_iload hx hb dX4_setLimits_39 (lv_at hl 3 rfl) ?_
      refine am_lald hx hb hK hP 8 1 rfl rfl k rfl (by omega) (by decide) dX4_setLimits_41 ?_
      refine lv_ladd hx hb dX4_setLimits_42 ?_
      refine lv_lstore_n (lv' := [(1, .long ((ac_tot (al 8) (fi 8) k) + ((al 8) k))), (0, .ref (ad 4)), (3, .long (ac_dear (al 8) (fi 8) k)), (5, .int (nI k))]) hx hb dX4_setLimits_43 rfl hl (by decide) rfl (fun ls hl => ?_)
      refine lv_lload_n hx hb dX4_setLimits_44 rfl (lv_at hl 2 rfl) ?_
      refine lv_aload_n hx hb dX4_setLimits_45 rfl (lv_at hl 1 rfl) ?_
      refine va_get (D := D) (ci := 4) (v := .ref (ad 1)) (C := RX4) (T := TX4) (N := 8) hx hb hts hin_X4 hown hK hP 4 rfl rfl 1 (by decide) hf_22 (fun _ h9 => h9) rfl dX4_setLimits_46 ?_
      refine va_get (D := D) (ci := 1) (v := .ref (ad 8)) (C := RX1) (T := TX1) (N := 14) hx hb hts hin_X1 hown hK hP 1 rfl rfl 4 (by decide) hf_62 (fun _ h9 => h9) rfl dX4_setLimits_49 ?_
      refine lv_iload hx hb dX4_setLimits_52 (lv_at hl 3 rfl) ?_
      refine am_lald hx hb hK hP 8 1 rfl rfl k rfl (by omega) (by decide) dX4_setLimits_54 ?_
      refine va_mmax_long hx hb (hml.trans hl.1.symm) hown (ht 400 _ rfl) (ht 336 _ rfl) (ht 37 _ rfl) (ht 337 _ rfl) (Nat.le_of_ble_eq_true rfl) (Nat.le_of_ble_eq_true rfl) (Nat.zero_le _) (Nat.zero_le _) dX4_setLimits_55 ?_
      refine am_topl (y := ac_max (ac_dear (al 8) (fi 8) k) ((al 8) k)) rfl ?_
      refine lv_lstore_n (lv' := [(3, .long (ac_max (ac_dear (al 8) (fi 8) k) ((al 8) k))), (1, .long ((ac_tot (al 8) (fi 8) k) + ((al 8) k))), (0, .ref (ad 4)), (5, .int (nI k))]) hx hb dX4_setLimits_58 rfl hl (by decide) rfl (fun ls hl => ?_)
      refine lv_iinc (v := nI (k + 1)) (lv' := [(5, .int (nI (k + 1))), (3, .long (ac_max (ac_dear (al 8) (fi 8) k) ((al 8) k))), (1, .long ((ac_tot (al 8) (fi 8) k) + ((al 8) k))), (0, .ref (ad 4))]) hx hb dX4_setLimits_59 hl (k := 3) rfl (nI_1 k) (by decide) rfl (fun ls hl => ?_)
      refine lv_goto (tgt := 7) hx hb dX4_setLimits_62 (by decide) ?_
      have e_7_0 : ac_tot (al 8) (fi 8) (k + 1) = (ac_tot (al 8) (fi 8) k) + ((al 8) k) := by first | rfl | (simp only [ac_tot, ac_dear, c_16, c_28, if_true, if_false, eq_self, not_true_eq_false, not_false_eq_true, ite_true, ite_false, ↓reduceIte]; done) | (simp [ac_tot, ac_dear, c_16, c_28]; done)
      have e_7_1 : ac_dear (al 8) (fi 8) (k + 1) = ac_max (ac_dear (al 8) (fi 8) k) ((al 8) k) := by first | rfl | (simp only [ac_tot, ac_dear, c_16, c_28, if_true, if_false, eq_self, not_true_eq_false, not_false_eq_true, ite_true, ite_false, ↓reduceIte]; done) | (simp [ac_tot, ac_dear, c_16, c_28]; done)
      refine ih_7 (k + 1) (na - (k + 1)) H locs ls (by omega) ⟨rfl, (by omega), ?_, hS, ?_⟩
      · (try dsimp only); (try rw [e_7_0] ; try rw [e_7_1]); exact hP
      · (try dsimp only); (try rw [e_7_0] ; try rw [e_7_1]); exact lv_sub hl [3, 2, 1, 0] rfl

set_option maxHeartbeats 4000000 in
set_option maxRecDepth 100000 in
theorem c_X4_keepTrial (l : Launch) (D : va_G) (ad : Nat → Nat) (cI cL : ClassId) (fi : Nat → Int32) (fl : Nat → Int64) (ai : Nat → Nat → Int32) (al : Nat → Nat → Int64) (A : Nat → Prop) (z : Int64) (na : Nat) (hna : fi 0 = nI na) (hnl : na ≤ 10) : Met l yX4_keepTrial wsX4_keepTrial (am_rm 1 21) (va_Pc [.ref (ad 4), .long z] (am_M nwL vwCl D A (ac_w ad cI cL fi fl ai al) [(cI, .int), (cL, .long)])) (am_Mv vwCl D (ac_w ad cI cL fi (vp_updL fl 1 z) (va_up ai 21 (ac_keep (fi 8) (ai 22) (ai 21) na)) al) A) 0 0 A := by
  refine am_startM (cc := cX4_keepTrial) (maxL := 4) (ret := none) (by decide) rfl (Nat.le_of_ble_eq_true rfl) [(0, .ref (ad 4)), (1, .long z)] rfl ?_
  intro p e s m below meth c ls hx hb hr hml hown hts hlocks hK hN hD H locs hP hS hl
  have hown : s.vm.findClass RX4 = some m.cls := hown
  have ht := am_ht hts
  have hin_X4 : ∀ w ∈ u_ws RX4 TX4 8, w ∈ wsX4_keepTrial := fun w h => List.mem_cons_of_mem _ (am_inX4 w h)
  have hin_X1 : ∀ w ∈ u_ws RX1 TX1 14, w ∈ wsX4_keepTrial := fun w h => List.mem_cons_of_mem _ (am_inX1 w h)
  have hf_15 := ht 156 (.fieldLink RX4 15 "ApartCost$Line" "trial" "[I") rfl
  have hf_22 := ht 155 (.fieldLink RX4 22 "ApartCost$Line" "product" "LApartCost$Product;") rfl
  have hf_32 := ht 158 (.fieldLink RX4 32 "ApartCost$Line" "set" "I") rfl
  have hf_49 := ht 160 (.fieldLink RX4 49 "ApartCost$Line" "longest" "J") rfl
  have hf_53 := ht 58 (.fieldLink RX4 53 "ApartCost$Product" "acts" "I") rfl
  have hf_9 := ht 153 (.fieldLink RX4 9 "ApartCost$Line" "told" "[I") rfl
  refine lv_aload_n hx hb dX4_keepTrial_0 rfl (lv_at hl 0 rfl) ?_
  refine lv_lload_n hx hb dX4_keepTrial_1 rfl (lv_at hl 1 rfl) ?_
  refine va_put (D := D) (ci := 4) (v := .long z) (ty := .long) (C := RX4) (T := TX4) (N := 8) hx hb hts hin_X4 tyX4 tyX4_ok nmX4 hown hK hP hD hS 4 rfl rfl 6 (by decide) hf_49 (fun _ h9 => h9) rfl (by decide +kernel) rfl rfl (Nat.le_of_ble_eq_true rfl) dX4_keepTrial_2 (fun H locs hP hD hS => ?_)
  have hP : va_P D vwCl (ac_w ad cI cL fi (vp_updL fl 1 z) ai al) H := hP
  have hD : va_D A (ac_w ad cI cL fi (vp_updL fl 1 z) ai al) := am_D hD rfl
  refine lv_iconst (v := 0) hx hb dX4_keepTrial_5 (by decide) ?_
  refine lv_istore_n (lv' := [(3, .int 0), (0, .ref (ad 4)), (1, .long z)]) hx hb dX4_keepTrial_6 rfl hl (by decide) rfl (fun ls hl => ?_)
  refine am_loop (σ := Nat) (fun q n9 H locs ls => n9 = na - q ∧ q ≤ na ∧ va_P D vwCl (ac_w ad cI cL fi (vp_updL fl 1 z) (va_up ai 21 (ac_keep (fi 8) (ai 22) (ai 21) q)) al) H ∧ va_S A s.heap H locs ∧ lv_has ls 4 [(0, .ref (ad 4)), (1, .long z), (3, .int (nI q))]) ?_ 0 (na - 0) H locs ls ⟨rfl, (by omega), hP, hS, lv_sub hl [1, 2, 0] rfl⟩
  rintro k n9 H locs ls ⟨hn_7, hk, hP, hS, hl⟩ ih_7
  have hD : va_D A (ac_w ad cI cL fi (vp_updL fl 1 z) (va_up ai 21 (ac_keep (fi 8) (ai 22) (ai 21) k)) al) := am_D hD rfl
  refine lv_iload_n hx hb dX4_keepTrial_7 rfl (lv_at hl 2 rfl) ?_
  refine lv_aload_n hx hb dX4_keepTrial_8 rfl (lv_at hl 0 rfl) ?_
  refine va_get (D := D) (ci := 4) (v := .ref (ad 1)) (C := RX4) (T := TX4) (N := 8) hx hb hts hin_X4 hown hK hP 4 rfl rfl 1 (by decide) hf_22 (fun _ h9 => h9) rfl dX4_keepTrial_9 ?_
  refine va_get (D := D) (ci := 1) (v := .int (fi 0)) (C := RX1) (T := TX1) (N := 14) hx hb hts hin_X1 hown hK hP 1 rfl rfl 0 (by decide) hf_53 (fun _ h9 => h9) rfl dX4_keepTrial_12 ?_
  refine lv_icmp_ge (tgt := 51) hx hb dX4_keepTrial_15 (by decide) (fun c_15 => ?_) (fun c_15 => ?_)
  · skip
    have hke_15 : na ≤ k := (am_ge hna (by omega) (by omega)).mp c_15
    have hkq_15 : na = k := by omega
    subst hkq_15
    exact am_vretM hx hb hr hlocks hP hS dX4_keepTrial_51
  · skip
    have hkl_15 : k < na := Nat.lt_of_not_le (fun z => c_15 ((am_ge hna (by omega) (by omega)).mpr z))
    refine lv_aload_n hx hb dX4_keepTrial_18 rfl (lv_at hl 0 rfl) ?_
    refine va_get (D := D) (ci := 4) (v := .ref (ad 21)) (C := RX4) (T := TX4) (N := 8) hx hb hts hin_X4 hown hK hP 4 rfl rfl 0 (by decide) hf_9 (fun _ h9 => h9) rfl dX4_keepTrial_19 ?_
    refine lv_iload_n hx hb dX4_keepTrial_22 rfl (lv_at hl 2 rfl) ?_
    refine lv_aload_n hx hb dX4_keepTrial_23 rfl (lv_at hl 0 rfl) ?_
    refine va_get (D := D) (ci := 4) (v := .int (fi 8)) (C := RX4) (T := TX4) (N := 8) hx hb hts hin_X4 hown hK hP 4 rfl rfl 4 (by decide) hf_32 (fun _ h9 => h9) rfl dX4_keepTrial_24 ?_
    refine lv_iload_n hx hb dX4_keepTrial_27 rfl (lv_at hl 2 rfl) ?_
    refine am_callRi (va_Run.run (va_runSN (As := [.int (fi 8), .int (nI k)]) (rest := [.int (nI k), .ref (ad 21)]) ⟨hx, hb, hml, hown, hts⟩ (c_X0_has l D _ _ (fi 8) (nI k)) ⟨va_cnB 2 hts (am_gN (am_in 206 rfl)) rfl rfl rfl (am_nw_at hN 4 rfl) (ht 29 _ rfl) (by decide +kernel) ⟨Nat.le_of_ble_eq_true rfl, Nat.le_of_ble_eq_true rfl⟩, (ht 205 _ rfl), trivial⟩ (am_preSR hP hK hN) rfl rfl hl.1 rfl (lv_room (Nat.le_of_ble_eq_true rfl)) dX4_keepTrial_28 ⟨Nat.zero_le _, Nat.zero_le _⟩)) ?_
    refine lv_if_eq (tgt := 43) hx hb dX4_keepTrial_31 (by decide) (fun c_31 => ?_) (fun c_31 => ?_)
    · skip
      refine lv_iconst (v := (-1)) hx hb dX4_keepTrial_43 (by decide) ?_
      refine am_iast hx hb hK hP hD hS 21 0 rfl rfl k rfl (by omega) (by decide) (ac_w ad cI cL fi (vp_updL fl 1 z) (va_up ai 21 (upd (ac_keep (fi 8) (ai 22) (ai 21) k) k (-1))) al) rfl dX4_keepTrial_44 (fun H locs hP hD hS => ?_)
      refine lv_iinc (v := nI (k + 1)) (lv' := [(3, .int (nI (k + 1))), (0, .ref (ad 4)), (1, .long z)]) hx hb dX4_keepTrial_45 hl (k := 2) rfl (nI_1 k) (by decide) rfl (fun ls hl => ?_)
      refine lv_goto (tgt := 7) hx hb dX4_keepTrial_48 (by decide) ?_
      have e_7_0 : (ac_keep (fi 8) (ai 22) (ai 21) (k + 1)) = (upd (ac_keep (fi 8) (ai 22) (ai 21) k) k (-1)) := by first | rfl | (simp only [ac_keep, c_15, c_31, if_true, if_false, eq_self, not_true_eq_false, not_false_eq_true, ite_true, ite_false, ↓reduceIte]; done) | (simp [ac_keep, c_15, c_31]; done)
      refine ih_7 (k + 1) (na - (k + 1)) H locs ls (by omega) ⟨rfl, (by omega), ?_, hS, ?_⟩
      · (try dsimp only); (try rw [e_7_0]); exact hP
      · (try dsimp only); (try rw [e_7_0]); exact lv_sub hl [1, 2, 0] rfl
    · skip
      refine lv_aload_n hx hb dX4_keepTrial_34 rfl (lv_at hl 0 rfl) ?_
      refine va_get (D := D) (ci := 4) (v := .ref (ad 22)) (C := RX4) (T := TX4) (N := 8) hx hb hts hin_X4 hown hK hP 4 rfl rfl 2 (by decide) hf_15 (fun _ h9 => h9) rfl dX4_keepTrial_35 ?_
      refine lv_iload_n hx hb dX4_keepTrial_38 rfl (lv_at hl 2 rfl) ?_
      refine am_iald hx hb hK hP 22 0 rfl rfl k rfl (by omega) (by decide) dX4_keepTrial_39 ?_
      refine lv_goto (tgt := 44) hx hb dX4_keepTrial_40 (by decide) ?_
      refine am_iast hx hb hK hP hD hS 21 0 rfl rfl k rfl (by omega) (by decide) (ac_w ad cI cL fi (vp_updL fl 1 z) (va_up ai 21 (upd (ac_keep (fi 8) (ai 22) (ai 21) k) k ((ai 22) k))) al) rfl dX4_keepTrial_44 (fun H locs hP hD hS => ?_)
      refine lv_iinc (v := nI (k + 1)) (lv' := [(3, .int (nI (k + 1))), (0, .ref (ad 4)), (1, .long z)]) hx hb dX4_keepTrial_45 hl (k := 2) rfl (nI_1 k) (by decide) rfl (fun ls hl => ?_)
      refine lv_goto (tgt := 7) hx hb dX4_keepTrial_48 (by decide) ?_
      have e_7_0 : (ac_keep (fi 8) (ai 22) (ai 21) (k + 1)) = (upd (ac_keep (fi 8) (ai 22) (ai 21) k) k ((ai 22) k)) := by first | rfl | (simp only [ac_keep, c_15, c_31, if_true, if_false, eq_self, not_true_eq_false, not_false_eq_true, ite_true, ite_false, ↓reduceIte]; done) | (simp [ac_keep, c_15, c_31]; done)
      refine ih_7 (k + 1) (na - (k + 1)) H locs ls (by omega) ⟨rfl, (by omega), ?_, hS, ?_⟩
      · (try dsimp only); (try rw [e_7_0]); exact hP
      · (try dsimp only); (try rw [e_7_0]); exact lv_sub hl [1, 2, 0] rfl

set_option maxHeartbeats 4000000 in
set_option maxRecDepth 100000 in
theorem c_X4_earliestFor (l : Launch) (D : va_G) (ad : Nat → Nat) (cI cL : ClassId) (fi : Nat → Int32) (fl : Nat → Int64) (ai : Nat → Nat → Int32) (al : Nat → Nat → Int64) (a : Nat) (ha : a < 10) : Met l yX4_earliestFor wsX4_earliestFor (am_rm 1 21) (va_Pc [.ref (ad 4), .int (nI a)] (am_R nwL vwCl D (ac_w ad cI cL fi fl ai al) [(cI, .int), (cL, .long)])) (vp_Si (fun r => r = ac_early (fi 8) ((ai 9) a) (ai 22) a)) 0 0 am_No := by
  refine am_startR (cc := cX4_earliestFor) (maxL := 4) (ret := (some .int)) (by decide) rfl (Nat.le_of_ble_eq_true rfl) [(0, .ref (ad 4)), (1, .int (nI a))] rfl ?_
  intro p e s m below meth c ls hx hb hr hml hown hts hlocks hP hK hN hl
  have hown : s.vm.findClass RX4 = some m.cls := hown
  have ht := am_ht hts
  have hin_X4 : ∀ w ∈ u_ws RX4 TX4 8, w ∈ wsX4_earliestFor := fun w h => List.mem_cons_of_mem _ (am_inX4 w h)
  have hin_X1 : ∀ w ∈ u_ws RX1 TX1 14, w ∈ wsX4_earliestFor := fun w h => List.mem_cons_of_mem _ (am_inX1 w h)
  have hf_15 := ht 156 (.fieldLink RX4 15 "ApartCost$Line" "trial" "[I") rfl
  have hf_22 := ht 155 (.fieldLink RX4 22 "ApartCost$Line" "product" "LApartCost$Product;") rfl
  have hf_32 := ht 158 (.fieldLink RX4 32 "ApartCost$Line" "set" "I") rfl
  have hf_85 := ht 67 (.fieldLink RX4 85 "ApartCost$Product" "needs" "[I") rfl
  refine lv_iconst (v := 0) hx hb dX4_earliestFor_0 (by decide) ?_
  refine lv_istore_n (lv' := [(2, .int 0), (0, .ref (ad 4)), (1, .int (nI a))]) hx hb dX4_earliestFor_1 rfl hl (by decide) rfl (fun ls hl => ?_)
  refine lv_iconst (v := 0) hx hb dX4_earliestFor_2 (by decide) ?_
  refine lv_istore_n (lv' := [(3, .int 0), (2, .int 0), (0, .ref (ad 4)), (1, .int (nI a))]) hx hb dX4_earliestFor_3 rfl hl (by decide) rfl (fun ls hl => ?_)
  refine am_loopR (σ := Nat) (fun q n9 ls => n9 = a - q ∧ q ≤ a ∧ lv_has ls 4 [(0, .ref (ad 4)), (1, .int (nI a)), (2, .int (ac_early (fi 8) ((ai 9) a) (ai 22) q)), (3, .int (nI q))]) ?_ 0 (a - 0) ls ⟨rfl, (by omega), lv_sub hl [2, 3, 1, 0] rfl⟩
  rintro k n9 ls ⟨hn_4, hk, hl⟩ ih_4
  refine lv_iload_n hx hb dX4_earliestFor_4 rfl (lv_at hl 3 rfl) ?_
  refine lv_iload_n hx hb dX4_earliestFor_5 rfl (lv_at hl 1 rfl) ?_
  refine lv_icmp_ge (tgt := 47) hx hb dX4_earliestFor_6 (by decide) (fun c_6 => ?_) (fun c_6 => ?_)
  · skip
    have hke_6 : a ≤ k := (am_ge (rfl : nI a = nI a) (by omega) (by omega)).mp c_6
    have hkq_6 : a = k := by omega
    subst hkq_6
    refine lv_iload_n hx hb dX4_earliestFor_47 rfl (lv_at hl 2 rfl) ?_
    exact am_iretR hx hb hr hlocks (by first | rfl | (simp only [c_6, if_true, if_false, eq_self, not_true_eq_false, not_false_eq_true, ite_true, ite_false, ↓reduceIte]; done) | (simp [c_6]; done)) dX4_earliestFor_48
  · skip
    have hkl_6 : k < a := Nat.lt_of_not_le (fun z => c_6 ((am_ge (rfl : nI a = nI a) (by omega) (by omega)).mpr z))
    refine lv_aload_n hx hb dX4_earliestFor_9 rfl (lv_at hl 0 rfl) ?_
    refine va_get (D := D) (ci := 4) (v := .int (fi 8)) (C := RX4) (T := TX4) (N := 8) hx hb hts hin_X4 hown hK hP 4 rfl rfl 4 (by decide) hf_32 (fun _ h9 => h9) rfl dX4_earliestFor_10 ?_
    refine lv_aload_n hx hb dX4_earliestFor_13 rfl (lv_at hl 0 rfl) ?_
    refine va_get (D := D) (ci := 4) (v := .ref (ad 1)) (C := RX4) (T := TX4) (N := 8) hx hb hts hin_X4 hown hK hP 4 rfl rfl 1 (by decide) hf_22 (fun _ h9 => h9) rfl dX4_earliestFor_14 ?_
    refine va_get (D := D) (ci := 1) (v := .ref (ad 9)) (C := RX1) (T := TX1) (N := 14) hx hb hts hin_X1 hown hK hP 1 rfl rfl 5 (by decide) hf_85 (fun _ h9 => h9) rfl dX4_earliestFor_17 ?_
    refine lv_iload_n hx hb dX4_earliestFor_20 rfl (lv_at hl 1 rfl) ?_
    refine am_iald hx hb hK hP 9 0 rfl rfl a rfl (by omega) (by decide) dX4_earliestFor_21 ?_
    refine lv_iand hx hb dX4_earliestFor_22 ?_
    refine lv_iload_n hx hb dX4_earliestFor_23 rfl (lv_at hl 3 rfl) ?_
    refine am_callRi (va_Run.run (va_runSN (As := [.int ((fi 8) &&& ((ai 9) a)), .int (nI k)]) (rest := []) ⟨hx, hb, hml, hown, hts⟩ (c_X0_has l D _ _ ((fi 8) &&& ((ai 9) a)) (nI k)) ⟨va_cnB 2 hts (am_gN (am_in 206 rfl)) rfl rfl rfl (am_nw_at hN 4 rfl) (ht 29 _ rfl) (by decide +kernel) ⟨Nat.le_of_ble_eq_true rfl, Nat.le_of_ble_eq_true rfl⟩, (ht 205 _ rfl), trivial⟩ (am_preSR hP hK hN) rfl rfl hl.1 rfl (lv_room (Nat.le_of_ble_eq_true rfl)) dX4_earliestFor_24 ⟨Nat.zero_le _, Nat.zero_le _⟩)) ?_
    refine lv_if_eq (tgt := 41) hx hb dX4_earliestFor_27 (by decide) (fun c_27 => ?_) (fun c_27 => ?_)
    · skip
      refine lv_iinc (v := nI (k + 1)) (lv' := [(3, .int (nI (k + 1))), (0, .ref (ad 4)), (1, .int (nI a)), (2, .int (ac_early (fi 8) ((ai 9) a) (ai 22) k))]) hx hb dX4_earliestFor_41 hl (k := 3) rfl (nI_1 k) (by decide) rfl (fun ls hl => ?_)
      refine lv_goto (tgt := 4) hx hb dX4_earliestFor_44 (by decide) ?_
      have e_4_0 : ac_early (fi 8) ((ai 9) a) (ai 22) (k + 1) = ac_early (fi 8) ((ai 9) a) (ai 22) k := by first | rfl | (simp only [ac_early, c_6, c_27, if_true, if_false, eq_self, not_true_eq_false, not_false_eq_true, ite_true, ite_false, ↓reduceIte]; done) | (simp [ac_early, c_6, c_27]; done)
      refine ih_4 (k + 1) (a - (k + 1)) ls (by omega) ⟨rfl, (by omega), ?_⟩
      try dsimp only
      rw [e_4_0]
      exact lv_sub hl [1, 2, 3, 0] rfl
    · skip
      refine lv_iload_n hx hb dX4_earliestFor_30 rfl (lv_at hl 2 rfl) ?_
      refine lv_aload_n hx hb dX4_earliestFor_31 rfl (lv_at hl 0 rfl) ?_
      refine va_get (D := D) (ci := 4) (v := .ref (ad 22)) (C := RX4) (T := TX4) (N := 8) hx hb hts hin_X4 hown hK hP 4 rfl rfl 2 (by decide) hf_15 (fun _ h9 => h9) rfl dX4_earliestFor_32 ?_
      refine lv_iload_n hx hb dX4_earliestFor_35 rfl (lv_at hl 3 rfl) ?_
      refine am_iald hx hb hK hP 22 0 rfl rfl k rfl (by omega) (by decide) dX4_earliestFor_36 ?_
      refine va_mmax hx hb (hml.trans hl.1.symm) hown (ht 417 _ rfl) (ht 418 _ rfl) (ht 37 _ rfl) (ht 419 _ rfl) (Nat.le_of_ble_eq_true rfl) (Nat.le_of_ble_eq_true rfl) (Nat.zero_le _) (Nat.zero_le _) dX4_earliestFor_37 ?_
      refine am_topi (y := ac_imax (ac_early (fi 8) ((ai 9) a) (ai 22) k) ((ai 22) k)) rfl ?_
      refine lv_istore_n (lv' := [(2, .int (ac_imax (ac_early (fi 8) ((ai 9) a) (ai 22) k) ((ai 22) k))), (0, .ref (ad 4)), (1, .int (nI a)), (3, .int (nI k))]) hx hb dX4_earliestFor_40 rfl hl (by decide) rfl (fun ls hl => ?_)
      refine lv_iinc (v := nI (k + 1)) (lv' := [(3, .int (nI (k + 1))), (2, .int (ac_imax (ac_early (fi 8) ((ai 9) a) (ai 22) k) ((ai 22) k))), (0, .ref (ad 4)), (1, .int (nI a))]) hx hb dX4_earliestFor_41 hl (k := 3) rfl (nI_1 k) (by decide) rfl (fun ls hl => ?_)
      refine lv_goto (tgt := 4) hx hb dX4_earliestFor_44 (by decide) ?_
      have e_4_0 : ac_early (fi 8) ((ai 9) a) (ai 22) (k + 1) = ac_imax (ac_early (fi 8) ((ai 9) a) (ai 22) k) ((ai 22) k) := by first | rfl | (simp only [ac_early, c_6, c_27, if_true, if_false, eq_self, not_true_eq_false, not_false_eq_true, ite_true, ite_false, ↓reduceIte]; done) | (simp [ac_early, c_6, c_27]; done)
      refine ih_4 (k + 1) (a - (k + 1)) ls (by omega) ⟨rfl, (by omega), ?_⟩
      try dsimp only
      rw [e_4_0]
      exact lv_sub hl [2, 3, 1, 0] rfl

set_option maxHeartbeats 4000000 in
set_option maxRecDepth 100000 in
theorem c_X4_latestFor (l : Launch) (D : va_G) (ad : Nat → Nat) (cI cL : ClassId) (fi : Nat → Int32) (fl : Nat → Int64) (ai : Nat → Nat → Int32) (al : Nat → Nat → Int64) (a : Nat) (ha : a < 10) : Met l yX4_latestFor wsX4_latestFor (am_rm 1 21) (va_Pc [.ref (ad 4), .int (nI a)] (am_R nwL vwCl D (ac_w ad cI cL fi fl ai al) [(cI, .int), (cL, .long)])) (vp_Si (fun r => r = ac_late (fi 8) (fi 9) (nI a) (ai 9) (ai 22) a)) 0 0 am_No := by
  refine am_startR (cc := cX4_latestFor) (maxL := 4) (ret := (some .int)) (by decide) rfl (Nat.le_of_ble_eq_true rfl) [(0, .ref (ad 4)), (1, .int (nI a))] rfl ?_
  intro p e s m below meth c ls hx hb hr hml hown hts hlocks hP hK hN hl
  have hown : s.vm.findClass RX4 = some m.cls := hown
  have ht := am_ht hts
  have hin_X4 : ∀ w ∈ u_ws RX4 TX4 8, w ∈ wsX4_latestFor := fun w h => List.mem_cons_of_mem _ (am_inX4 w h)
  have hin_X1 : ∀ w ∈ u_ws RX1 TX1 14, w ∈ wsX4_latestFor := fun w h => List.mem_cons_of_mem _ (am_inX1 w h)
  have hf_15 := ht 156 (.fieldLink RX4 15 "ApartCost$Line" "trial" "[I") rfl
  have hf_22 := ht 155 (.fieldLink RX4 22 "ApartCost$Line" "product" "LApartCost$Product;") rfl
  have hf_32 := ht 158 (.fieldLink RX4 32 "ApartCost$Line" "set" "I") rfl
  have hf_36 := ht 159 (.fieldLink RX4 36 "ApartCost$Line" "stations" "I") rfl
  have hf_85 := ht 67 (.fieldLink RX4 85 "ApartCost$Product" "needs" "[I") rfl
  refine lv_aload_n hx hb dX4_latestFor_0 rfl (lv_at hl 0 rfl) ?_
  refine va_get (D := D) (ci := 4) (v := .int (fi 9)) (C := RX4) (T := TX4) (N := 8) hx hb hts hin_X4 hown hK hP 4 rfl rfl 5 (by decide) hf_36 (fun _ h9 => h9) rfl dX4_latestFor_1 ?_
  refine lv_iconst (v := 1) hx hb dX4_latestFor_4 (by decide) ?_
  refine lv_isub hx hb dX4_latestFor_5 ?_
  refine lv_istore_n (lv' := [(2, .int ((fi 9) - 1)), (0, .ref (ad 4)), (1, .int (nI a))]) hx hb dX4_latestFor_6 rfl hl (by decide) rfl (fun ls hl => ?_)
  refine lv_iconst (v := 0) hx hb dX4_latestFor_7 (by decide) ?_
  refine lv_istore_n (lv' := [(3, .int 0), (2, .int ((fi 9) - 1)), (0, .ref (ad 4)), (1, .int (nI a))]) hx hb dX4_latestFor_8 rfl hl (by decide) rfl (fun ls hl => ?_)
  refine am_loopR (σ := Nat) (fun q n9 ls => n9 = a - q ∧ q ≤ a ∧ lv_has ls 4 [(0, .ref (ad 4)), (1, .int (nI a)), (2, .int (ac_late (fi 8) (fi 9) (nI a) (ai 9) (ai 22) q)), (3, .int (nI q))]) ?_ 0 (a - 0) ls ⟨rfl, (by omega), lv_sub hl [2, 3, 1, 0] rfl⟩
  rintro k n9 ls ⟨hn_9, hk, hl⟩ ih_9
  refine lv_iload_n hx hb dX4_latestFor_9 rfl (lv_at hl 3 rfl) ?_
  refine lv_iload_n hx hb dX4_latestFor_10 rfl (lv_at hl 1 rfl) ?_
  refine lv_icmp_ge (tgt := 58) hx hb dX4_latestFor_11 (by decide) (fun c_11 => ?_) (fun c_11 => ?_)
  · skip
    have hke_11 : a ≤ k := (am_ge (rfl : nI a = nI a) (by omega) (by omega)).mp c_11
    have hkq_11 : a = k := by omega
    subst hkq_11
    refine lv_iload_n hx hb dX4_latestFor_58 rfl (lv_at hl 2 rfl) ?_
    exact am_iretR hx hb hr hlocks (by first | rfl | (simp only [c_11, if_true, if_false, eq_self, not_true_eq_false, not_false_eq_true, ite_true, ite_false, ↓reduceIte]; done) | (simp [c_11]; done)) dX4_latestFor_59
  · skip
    have hkl_11 : k < a := Nat.lt_of_not_le (fun z => c_11 ((am_ge (rfl : nI a = nI a) (by omega) (by omega)).mpr z))
    refine lv_aload_n hx hb dX4_latestFor_14 rfl (lv_at hl 0 rfl) ?_
    refine va_get (D := D) (ci := 4) (v := .int (fi 8)) (C := RX4) (T := TX4) (N := 8) hx hb hts hin_X4 hown hK hP 4 rfl rfl 4 (by decide) hf_32 (fun _ h9 => h9) rfl dX4_latestFor_15 ?_
    refine lv_iload_n hx hb dX4_latestFor_18 rfl (lv_at hl 3 rfl) ?_
    refine am_callRi (va_Run.run (va_runSN (As := [.int (fi 8), .int (nI k)]) (rest := []) ⟨hx, hb, hml, hown, hts⟩ (c_X0_has l D _ _ (fi 8) (nI k)) ⟨va_cnB 2 hts (am_gN (am_in 206 rfl)) rfl rfl rfl (am_nw_at hN 4 rfl) (ht 29 _ rfl) (by decide +kernel) ⟨Nat.le_of_ble_eq_true rfl, Nat.le_of_ble_eq_true rfl⟩, (ht 205 _ rfl), trivial⟩ (am_preSR hP hK hN) rfl rfl hl.1 rfl (lv_room (Nat.le_of_ble_eq_true rfl)) dX4_latestFor_19 ⟨Nat.zero_le _, Nat.zero_le _⟩)) ?_
    refine lv_if_eq (tgt := 52) hx hb dX4_latestFor_22 (by decide) (fun c_22 => ?_) (fun c_22 => ?_)
    · skip
      refine lv_iinc (v := nI (k + 1)) (lv' := [(3, .int (nI (k + 1))), (0, .ref (ad 4)), (1, .int (nI a)), (2, .int (ac_late (fi 8) (fi 9) (nI a) (ai 9) (ai 22) k))]) hx hb dX4_latestFor_52 hl (k := 3) rfl (nI_1 k) (by decide) rfl (fun ls hl => ?_)
      refine lv_goto (tgt := 9) hx hb dX4_latestFor_55 (by decide) ?_
      have e_9_0 : ac_late (fi 8) (fi 9) (nI a) (ai 9) (ai 22) (k + 1) = ac_late (fi 8) (fi 9) (nI a) (ai 9) (ai 22) k := by first | rfl | (simp only [ac_late, c_11, c_22, if_true, if_false, eq_self, not_true_eq_false, not_false_eq_true, ite_true, ite_false, ↓reduceIte]; done) | (simp [ac_late, c_11, c_22]; done)
      refine ih_9 (k + 1) (a - (k + 1)) ls (by omega) ⟨rfl, (by omega), ?_⟩
      try dsimp only
      rw [e_9_0]
      exact lv_sub hl [1, 2, 3, 0] rfl
    · skip
      refine lv_aload_n hx hb dX4_latestFor_25 rfl (lv_at hl 0 rfl) ?_
      refine va_get (D := D) (ci := 4) (v := .ref (ad 1)) (C := RX4) (T := TX4) (N := 8) hx hb hts hin_X4 hown hK hP 4 rfl rfl 1 (by decide) hf_22 (fun _ h9 => h9) rfl dX4_latestFor_26 ?_
      refine va_get (D := D) (ci := 1) (v := .ref (ad 9)) (C := RX1) (T := TX1) (N := 14) hx hb hts hin_X1 hown hK hP 1 rfl rfl 5 (by decide) hf_85 (fun _ h9 => h9) rfl dX4_latestFor_29 ?_
      refine lv_iload_n hx hb dX4_latestFor_32 rfl (lv_at hl 3 rfl) ?_
      refine am_iald hx hb hK hP 9 0 rfl rfl k rfl (by omega) (by decide) dX4_latestFor_33 ?_
      refine lv_iload_n hx hb dX4_latestFor_34 rfl (lv_at hl 1 rfl) ?_
      refine am_callRi (va_Run.run (va_runSN (As := [.int ((ai 9) k), .int (nI a)]) (rest := []) ⟨hx, hb, hml, hown, hts⟩ (c_X0_has l D _ _ ((ai 9) k) (nI a)) ⟨va_cnB 2 hts (am_gN (am_in 206 rfl)) rfl rfl rfl (am_nw_at hN 4 rfl) (ht 29 _ rfl) (by decide +kernel) ⟨Nat.le_of_ble_eq_true rfl, Nat.le_of_ble_eq_true rfl⟩, (ht 205 _ rfl), trivial⟩ (am_preSR hP hK hN) rfl rfl hl.1 rfl (lv_room (Nat.le_of_ble_eq_true rfl)) dX4_latestFor_35 ⟨Nat.zero_le _, Nat.zero_le _⟩)) ?_
      refine lv_if_eq (tgt := 52) hx hb dX4_latestFor_38 (by decide) (fun c_38 => ?_) (fun c_38 => ?_)
      · skip
        refine lv_iinc (v := nI (k + 1)) (lv' := [(3, .int (nI (k + 1))), (0, .ref (ad 4)), (1, .int (nI a)), (2, .int (ac_late (fi 8) (fi 9) (nI a) (ai 9) (ai 22) k))]) hx hb dX4_latestFor_52 hl (k := 3) rfl (nI_1 k) (by decide) rfl (fun ls hl => ?_)
        refine lv_goto (tgt := 9) hx hb dX4_latestFor_55 (by decide) ?_
        have e_9_0 : ac_late (fi 8) (fi 9) (nI a) (ai 9) (ai 22) (k + 1) = ac_late (fi 8) (fi 9) (nI a) (ai 9) (ai 22) k := by first | rfl | (simp only [ac_late, c_11, c_22, c_38, if_true, if_false, eq_self, not_true_eq_false, not_false_eq_true, ite_true, ite_false, ↓reduceIte]; done) | (simp [ac_late, c_11, c_22, c_38]; done)
        refine ih_9 (k + 1) (a - (k + 1)) ls (by omega) ⟨rfl, (by omega), ?_⟩
        try dsimp only
        rw [e_9_0]
        exact lv_sub hl [1, 2, 3, 0] rfl
      · skip
        refine lv_iload_n hx hb dX4_latestFor_41 rfl (lv_at hl 2 rfl) ?_
        refine lv_aload_n hx hb dX4_latestFor_42 rfl (lv_at hl 0 rfl) ?_
        refine va_get (D := D) (ci := 4) (v := .ref (ad 22)) (C := RX4) (T := TX4) (N := 8) hx hb hts hin_X4 hown hK hP 4 rfl rfl 2 (by decide) hf_15 (fun _ h9 => h9) rfl dX4_latestFor_43 ?_
        refine lv_iload_n hx hb dX4_latestFor_46 rfl (lv_at hl 3 rfl) ?_
        refine am_iald hx hb hK hP 22 0 rfl rfl k rfl (by omega) (by decide) dX4_latestFor_47 ?_
        refine va_mmin hx hb (hml.trans hl.1.symm) hown (ht 411 _ rfl) (ht 412 _ rfl) (ht 37 _ rfl) (ht 413 _ rfl) (Nat.le_of_ble_eq_true rfl) (Nat.le_of_ble_eq_true rfl) (Nat.zero_le _) (Nat.zero_le _) dX4_latestFor_48 ?_
        refine am_topi (y := ac_imin (ac_late (fi 8) (fi 9) (nI a) (ai 9) (ai 22) k) ((ai 22) k)) rfl ?_
        refine lv_istore_n (lv' := [(2, .int (ac_imin (ac_late (fi 8) (fi 9) (nI a) (ai 9) (ai 22) k) ((ai 22) k))), (0, .ref (ad 4)), (1, .int (nI a)), (3, .int (nI k))]) hx hb dX4_latestFor_51 rfl hl (by decide) rfl (fun ls hl => ?_)
        refine lv_iinc (v := nI (k + 1)) (lv' := [(3, .int (nI (k + 1))), (2, .int (ac_imin (ac_late (fi 8) (fi 9) (nI a) (ai 9) (ai 22) k) ((ai 22) k))), (0, .ref (ad 4)), (1, .int (nI a))]) hx hb dX4_latestFor_52 hl (k := 3) rfl (nI_1 k) (by decide) rfl (fun ls hl => ?_)
        refine lv_goto (tgt := 9) hx hb dX4_latestFor_55 (by decide) ?_
        have e_9_0 : ac_late (fi 8) (fi 9) (nI a) (ai 9) (ai 22) (k + 1) = ac_imin (ac_late (fi 8) (fi 9) (nI a) (ai 9) (ai 22) k) ((ai 22) k) := by first | rfl | (simp only [ac_late, c_11, c_22, c_38, if_true, if_false, eq_self, not_true_eq_false, not_false_eq_true, ite_true, ite_false, ↓reduceIte]; done) | (simp [ac_late, c_11, c_22, c_38]; done)
        refine ih_9 (k + 1) (a - (k + 1)) ls (by omega) ⟨rfl, (by omega), ?_⟩
        try dsimp only
        rw [e_9_0]
        exact lv_sub hl [2, 3, 1, 0] rfl

set_option maxHeartbeats 4000000 in
set_option maxRecDepth 100000 in
theorem c_X4_tryFrom_0 (l : Launch) (D : va_G) (ad : Nat → Nat) (cI cL : ClassId) (fi : Nat → Int32) (fl : Nat → Int64) (ai : Nat → Nat → Int32) (al : Nat → Nat → Int64) (A : Nat → Prop) (a : Nat) (na : Nat) (z : Int64) (hna : fi 0 = nI na) (hnl : na ≤ 10) (han : a = na) : Met l yX4_tryFrom wsX4_tryFrom (am_rm 2 200) (va_Pc [.ref (ad 4), .int (nI a), .long z] (am_M nwL vwCl D A (ac_w ad cI cL fi fl ai al) [(cI, .int), (cL, .long)])) (am_Mv vwCl D (ac_w ad cI cL fi (vp_updL fl 1 ((ac_try (al 8) (ai 9) (fi 8) (fi 9) (fl 2) na 0 a z ((ai 21), (ai 22), (al 23), (fl 1))).2.2.2)) (va_up (va_up ai 21 ((ac_try (al 8) (ai 9) (fi 8) (fi 9) (fl 2) na 0 a z ((ai 21), (ai 22), (al 23), (fl 1))).1)) 22 ((ac_try (al 8) (ai 9) (fi 8) (fi 9) (fl 2) na 0 a z ((ai 21), (ai 22), (al 23), (fl 1))).2.1)) (va_up al 23 ((ac_try (al 8) (ai 9) (fi 8) (fi 9) (fl 2) na 0 a z ((ai 21), (ai 22), (al 23), (fl 1))).2.2.1))) A) 0 0 A := by
  refine am_startM (cc := cX4_tryFrom) (maxL := 10) (ret := none) (by decide) rfl (Nat.le_of_ble_eq_true rfl) [(0, .ref (ad 4)), (1, .int (nI a)), (2, .long z)] rfl ?_
  intro p e s m below meth c ls hx hb hr hml hown hts hlocks hK hN hD H locs hP hS hl
  have hown : s.vm.findClass RX4 = some m.cls := hown
  have ht := am_ht hts
  have hin_X4 : ∀ w ∈ u_ws RX4 TX4 8, w ∈ wsX4_tryFrom := fun w h => List.mem_cons_of_mem _ (am_inX4 w h)
  have hin_X1 : ∀ w ∈ u_ws RX1 TX1 14, w ∈ wsX4_tryFrom := fun w h => List.mem_cons_of_mem _ (am_inX1 w h)
  have hf_22 := ht 155 (.fieldLink RX4 22 "ApartCost$Line" "product" "LApartCost$Product;") rfl
  have hf_53 := ht 58 (.fieldLink RX4 53 "ApartCost$Product" "acts" "I") rfl
  refine lv_iload_n hx hb dX4_tryFrom_0 rfl (lv_at hl 1 rfl) ?_
  refine lv_aload_n hx hb dX4_tryFrom_1 rfl (lv_at hl 0 rfl) ?_
  refine va_get (D := D) (ci := 4) (v := .ref (ad 1)) (C := RX4) (T := TX4) (N := 8) hx hb hts hin_X4 hown hK hP 4 rfl rfl 1 (by decide) hf_22 (fun _ h9 => h9) rfl dX4_tryFrom_2 ?_
  refine va_get (D := D) (ci := 1) (v := .int (fi 0)) (C := RX1) (T := TX1) (N := 14) hx hb hts hin_X1 hown hK hP 1 rfl rfl 0 (by decide) hf_53 (fun _ h9 => h9) rfl dX4_tryFrom_5 ?_
  refine lv_icmp_lt (tgt := 17) hx hb dX4_tryFrom_8 (by decide) (fun c_8 => ?_) (fun c_8 => ?_)
  · skip
    exact absurd c_8 (by rw [hna, han]; exact nI_nlt (Nat.le_refl _) (by omega))
  · skip
    refine lv_aload_n hx hb dX4_tryFrom_11 rfl (lv_at hl 0 rfl) ?_
    refine lv_lload_n hx hb dX4_tryFrom_12 rfl (lv_at hl 2 rfl) ?_
    refine am_callMv (va_runV (As := [.long z]) (rest := []) ⟨hx, hb, hml, hown, hts⟩ (c_X4_keepTrial l D ad cI cL fi fl ai al A z na hna hnl) (cwV 1 hts (am_gV (am_in 405 rfl) (am_in 406 rfl) (am_in 9 rfl) (am_in 34 rfl) (am_in 407 rfl)) rfl rfl rfl (by decide +kernel) ⟨Nat.le_of_ble_eq_true rfl, Nat.le_of_ble_eq_true rfl⟩) (am_preVM 4 4 rfl rfl rfl hP hK hN hD) rfl rfl hl.1 rfl (lv_room (Nat.le_of_ble_eq_true rfl)) dX4_tryFrom_13 ⟨Nat.zero_le _, Nat.zero_le _⟩) hS (fun H locs hP hS => ?_)
    have hP : va_P D vwCl (ac_w ad cI cL fi (vp_updL fl 1 z) (va_up ai 21 (ac_keep (fi 8) (ai 22) (ai 21) na)) al) H := hP
    have hD : va_D A (ac_w ad cI cL fi (vp_updL fl 1 z) (va_up ai 21 (ac_keep (fi 8) (ai 22) (ai 21) na)) al) := am_D hD rfl
    exact am_vretM hx hb hr hlocks hP hS dX4_tryFrom_16

set_option maxHeartbeats 4000000 in
set_option maxRecDepth 100000 in
theorem c_X4_tryFrom_S (l : Launch) (D : va_G) (ad : Nat → Nat) (cI cL : ClassId) (fi : Nat → Int32) (fl : Nat → Int64) (ai : Nat → Nat → Int32) (al : Nat → Nat → Int64) (A : Nat → Prop) (n : Nat) (na : Nat) (ih : ∀ (fi : Nat → Int32) (fl : Nat → Int64) (ai : Nat → Nat → Int32) (al : Nat → Nat → Int64) (A : Nat → Prop) (a : Nat) (z : Int64) (st : Nat), fi 0 = nI na → na ≤ 10 → fi 9 = nI st → st ≤ 4 → a + n = na → Met l yX4_tryFrom wsX4_tryFrom (am_rm (2 + n) (200 + n * 29)) (va_Pc [.ref (ad 4), .int (nI a), .long z] (am_M nwL vwCl D A (ac_w ad cI cL fi fl ai al) [(cI, .int), (cL, .long)])) (am_Mv vwCl D (ac_w ad cI cL fi (vp_updL fl 1 ((ac_try (al 8) (ai 9) (fi 8) (fi 9) (fl 2) na n a z ((ai 21), (ai 22), (al 23), (fl 1))).2.2.2)) (va_up (va_up ai 21 ((ac_try (al 8) (ai 9) (fi 8) (fi 9) (fl 2) na n a z ((ai 21), (ai 22), (al 23), (fl 1))).1)) 22 ((ac_try (al 8) (ai 9) (fi 8) (fi 9) (fl 2) na n a z ((ai 21), (ai 22), (al 23), (fl 1))).2.1)) (va_up al 23 ((ac_try (al 8) (ai 9) (fi 8) (fi 9) (fl 2) na n a z ((ai 21), (ai 22), (al 23), (fl 1))).2.2.1))) A) 0 0 A) (a : Nat) (z : Int64) (st : Nat) (hna : fi 0 = nI na) (hnl : na ≤ 10) (hst : fi 9 = nI st) (hst4 : st ≤ 4) (han : a + (n + 1) = na) : Met l yX4_tryFrom wsX4_tryFrom (am_rm (2 + (n + 1)) (200 + (n + 1) * 29)) (va_Pc [.ref (ad 4), .int (nI a), .long z] (am_M nwL vwCl D A (ac_w ad cI cL fi fl ai al) [(cI, .int), (cL, .long)])) (am_Mv vwCl D (ac_w ad cI cL fi (vp_updL fl 1 ((ac_try (al 8) (ai 9) (fi 8) (fi 9) (fl 2) na (n + 1) a z ((ai 21), (ai 22), (al 23), (fl 1))).2.2.2)) (va_up (va_up ai 21 ((ac_try (al 8) (ai 9) (fi 8) (fi 9) (fl 2) na (n + 1) a z ((ai 21), (ai 22), (al 23), (fl 1))).1)) 22 ((ac_try (al 8) (ai 9) (fi 8) (fi 9) (fl 2) na (n + 1) a z ((ai 21), (ai 22), (al 23), (fl 1))).2.1)) (va_up al 23 ((ac_try (al 8) (ai 9) (fi 8) (fi 9) (fl 2) na (n + 1) a z ((ai 21), (ai 22), (al 23), (fl 1))).2.2.1))) A) 0 0 A := by
  refine am_startM (cc := cX4_tryFrom) (maxL := 10) (ret := none) (by decide) rfl (Nat.le_of_ble_eq_true rfl) [(0, .ref (ad 4)), (1, .int (nI a)), (2, .long z)] rfl ?_
  intro p e s m below meth c ls hx hb hr hml hown hts hlocks hK hN hD H locs hP hS hl
  have hown : s.vm.findClass RX4 = some m.cls := hown
  have ht := am_ht hts
  have hin_X4 : ∀ w ∈ u_ws RX4 TX4 8, w ∈ wsX4_tryFrom := fun w h => List.mem_cons_of_mem _ (am_inX4 w h)
  have hin_X1 : ∀ w ∈ u_ws RX1 TX1 14, w ∈ wsX4_tryFrom := fun w h => List.mem_cons_of_mem _ (am_inX1 w h)
  have hf_15 := ht 156 (.fieldLink RX4 15 "ApartCost$Line" "trial" "[I") rfl
  have hf_18 := ht 157 (.fieldLink RX4 18 "ApartCost$Line" "loads" "[J") rfl
  have hf_22 := ht 155 (.fieldLink RX4 22 "ApartCost$Line" "product" "LApartCost$Product;") rfl
  have hf_32 := ht 158 (.fieldLink RX4 32 "ApartCost$Line" "set" "I") rfl
  have hf_49 := ht 160 (.fieldLink RX4 49 "ApartCost$Line" "longest" "J") rfl
  have hf_53 := ht 58 (.fieldLink RX4 53 "ApartCost$Product" "acts" "I") rfl
  have hf_62 := ht 64 (.fieldLink RX4 62 "ApartCost$Product" "cents" "[J") rfl
  have hf_71 := ht 161 (.fieldLink RX4 71 "ApartCost$Line" "least" "J") rfl
  refine lv_iload_n hx hb dX4_tryFrom_0 rfl (lv_at hl 1 rfl) ?_
  refine lv_aload_n hx hb dX4_tryFrom_1 rfl (lv_at hl 0 rfl) ?_
  refine va_get (D := D) (ci := 4) (v := .ref (ad 1)) (C := RX4) (T := TX4) (N := 8) hx hb hts hin_X4 hown hK hP 4 rfl rfl 1 (by decide) hf_22 (fun _ h9 => h9) rfl dX4_tryFrom_2 ?_
  refine va_get (D := D) (ci := 1) (v := .int (fi 0)) (C := RX1) (T := TX1) (N := 14) hx hb hts hin_X1 hown hK hP 1 rfl rfl 0 (by decide) hf_53 (fun _ h9 => h9) rfl dX4_tryFrom_5 ?_
  refine lv_icmp_lt (tgt := 17) hx hb dX4_tryFrom_8 (by decide) (fun c_8 => ?_) (fun c_8 => ?_)
  · skip
    refine lv_aload_n hx hb dX4_tryFrom_17 rfl (lv_at hl 0 rfl) ?_
    refine va_get (D := D) (ci := 4) (v := .int (fi 8)) (C := RX4) (T := TX4) (N := 8) hx hb hts hin_X4 hown hK hP 4 rfl rfl 4 (by decide) hf_32 (fun _ h9 => h9) rfl dX4_tryFrom_18 ?_
    refine lv_iload_n hx hb dX4_tryFrom_21 rfl (lv_at hl 1 rfl) ?_
    refine am_callRi (va_Run.run (va_runSN (As := [.int (fi 8), .int (nI a)]) (rest := []) ⟨hx, hb, hml, hown, hts⟩ (c_X0_has l D _ _ (fi 8) (nI a)) ⟨va_cnB 2 hts (am_gN (am_in 206 rfl)) rfl rfl rfl (am_nw_at hN 4 rfl) (ht 29 _ rfl) (by decide +kernel) ⟨by simp only [am_rm]; omega, by simp only [am_rm]; omega⟩, (ht 205 _ rfl), trivial⟩ (am_preSR hP hK hN) rfl rfl hl.1 rfl (lv_room (Nat.le_of_ble_eq_true rfl)) dX4_tryFrom_22 ⟨Nat.zero_le _, Nat.zero_le _⟩)) ?_
    refine lv_if_ne (tgt := 37) hx hb dX4_tryFrom_25 (by decide) (fun c_25 => ?_) (fun c_25 => ?_)
    · skip
      refine lv_aload_n hx hb dX4_tryFrom_37 rfl (lv_at hl 0 rfl) ?_
      refine va_get (D := D) (ci := 4) (v := .ref (ad 1)) (C := RX4) (T := TX4) (N := 8) hx hb hts hin_X4 hown hK hP 4 rfl rfl 1 (by decide) hf_22 (fun _ h9 => h9) rfl dX4_tryFrom_38 ?_
      refine va_get (D := D) (ci := 1) (v := .ref (ad 8)) (C := RX1) (T := TX1) (N := 14) hx hb hts hin_X1 hown hK hP 1 rfl rfl 4 (by decide) hf_62 (fun _ h9 => h9) rfl dX4_tryFrom_41 ?_
      refine lv_iload_n hx hb dX4_tryFrom_44 rfl (lv_at hl 1 rfl) ?_
      refine am_lald hx hb hK hP 8 1 rfl rfl a rfl (by omega) (by decide) dX4_tryFrom_45 ?_
      refine lv_lstore (lv' := [(4, .long ((al 8) a)), (0, .ref (ad 4)), (1, .int (nI a)), (2, .long z)]) hx hb dX4_tryFrom_46 hl (by decide) rfl (fun ls hl => ?_)
      refine lv_aload_n hx hb dX4_tryFrom_48 rfl (lv_at hl 1 rfl) ?_
      refine lv_iload_n hx hb dX4_tryFrom_49 rfl (lv_at hl 2 rfl) ?_
      refine am_callRi (W.runV (As := [.int (nI a)]) (rest := []) ⟨hx, hb, hml, hown, hts⟩ (c_X4_latestFor l D ad cI cL fi fl ai al a (by omega)) (cwV 1 hts (am_gV (am_in 408 rfl) (am_in 409 rfl) (am_in 10 rfl) (am_in 34 rfl) (am_in 410 rfl)) rfl rfl rfl (by decide +kernel) ⟨by simp only [am_rm]; omega, by simp only [am_rm]; omega⟩) (am_preVR 4 4 rfl rfl rfl hP hK hN) rfl rfl hl.1 rfl (lv_room (Nat.le_of_ble_eq_true rfl)) dX4_tryFrom_50 ⟨Nat.zero_le _, Nat.zero_le _⟩) ?_
      refine lv_istore (lv' := [(6, .int (ac_late (fi 8) (fi 9) (nI a) (ai 9) (ai 22) a)), (4, .long ((al 8) a)), (0, .ref (ad 4)), (1, .int (nI a)), (2, .long z)]) hx hb dX4_tryFrom_53 hl (by decide) rfl (fun ls hl => ?_)
      refine lv_aload_n hx hb dX4_tryFrom_55 rfl (lv_at hl 2 rfl) ?_
      refine lv_iload_n hx hb dX4_tryFrom_56 rfl (lv_at hl 3 rfl) ?_
      refine am_callRi (W.runV (As := [.int (nI a)]) (rest := []) ⟨hx, hb, hml, hown, hts⟩ (c_X4_earliestFor l D ad cI cL fi fl ai al a (by omega)) (cwV 1 hts (am_gV (am_in 414 rfl) (am_in 415 rfl) (am_in 11 rfl) (am_in 34 rfl) (am_in 416 rfl)) rfl rfl rfl (by decide +kernel) ⟨by simp only [am_rm]; omega, by simp only [am_rm]; omega⟩) (am_preVR 4 4 rfl rfl rfl hP hK hN) rfl rfl hl.1 rfl (lv_room (Nat.le_of_ble_eq_true rfl)) dX4_tryFrom_57 ⟨Nat.zero_le _, Nat.zero_le _⟩) ?_
      refine am_topi (am_clamp (ac_early_nn _ _ _ _)) ?_
      refine lv_istore (lv' := [(7, .int (nI (ac_early (fi 8) ((ai 9) a) (ai 22) a).toNatClampNeg)), (6, .int (ac_late (fi 8) (fi 9) (nI a) (ai 9) (ai 22) a)), (4, .long ((al 8) a)), (0, .ref (ad 4)), (1, .int (nI a)), (2, .long z)]) hx hb dX4_tryFrom_60 hl (by decide) rfl (fun ls hl => ?_)
      refine am_loop (σ := (Nat) × (ac_T)) (fun q n9 H locs ls => n9 = 4 - q.1 ∧ q.1 < 2 ^ 31 ∧ ac_tl (fun m u => ac_try (al 8) (ai 9) (fi 8) (fi 9) (fl 2) na n (a + 1) m u) ((al 8) a) (fl 2) (ac_late (fi 8) (fi 9) (nI a) (ai 9) (ai 22) a) a z (4 - q.1) q.1 q.2 = ac_tl (fun m u => ac_try (al 8) (ai 9) (fi 8) (fi 9) (fl 2) na n (a + 1) m u) ((al 8) a) (fl 2) (ac_late (fi 8) (fi 9) (nI a) (ai 9) (ai 22) a) a z (4 - (ac_early (fi 8) ((ai 9) a) (ai 22) a).toNatClampNeg) (ac_early (fi 8) ((ai 9) a) (ai 22) a).toNatClampNeg ((ai 21), (ai 22), (al 23), (fl 1)) ∧ va_P D vwCl (ac_w ad cI cL fi (vp_updL fl 1 q.2.2.2.2) (va_up (va_up ai 21 q.2.1) 22 q.2.2.1) (va_up al 23 q.2.2.2.1)) H ∧ va_S A s.heap H locs ∧ lv_has ls 10 [(0, .ref (ad 4)), (1, .int (nI a)), (2, .long z), (4, .long ((al 8) a)), (6, .int (ac_late (fi 8) (fi 9) (nI a) (ai 9) (ai 22) a)), (7, .int (nI q.1))]) ?_ ((ac_early (fi 8) ((ai 9) a) (ai 22) a).toNatClampNeg, ((ai 21), (ai 22), (al 23), (fl 1))) (4 - ((ac_early (fi 8) ((ai 9) a) (ai 22) a).toNatClampNeg)) H locs ls ⟨rfl, (am_clamp_lt _), rfl, hP, hS, lv_sub hl [3, 4, 5, 2, 1, 0] rfl⟩
      rintro ⟨p, t⟩ n9 H locs ls ⟨hn_62, hp, hm, hP, hS, hl⟩ ih_62
      dsimp only at hn_62 hp hm hP hl
      have hD : va_D A (ac_w ad cI cL fi (vp_updL fl 1 t.2.2.2) (va_up (va_up ai 21 t.1) 22 t.2.1) (va_up al 23 t.2.2.1)) := am_D hD rfl
      refine lv_iload hx hb dX4_tryFrom_62 (lv_at hl 5 rfl) ?_
      refine lv_iload hx hb dX4_tryFrom_64 (lv_at hl 4 rfl) ?_
      refine lv_icmp_gt (tgt := 154) hx hb dX4_tryFrom_66 (by decide) (fun c_66 => ?_) (fun c_66 => ?_)
      · skip
        have hT : ac_try (al 8) (ai 9) (fi 8) (fi 9) (fl 2) na (n + 1) a z ((ai 21), (ai 22), (al 23), (fl 1)) = t := by rw [ac_try, if_neg c_25]; exact hm.symm.trans (ac_tl_s1 c_66)
        exact am_vretM hx hb hr hlocks (by rw [hT]; exact hP) hS dX4_tryFrom_154
      · skip
        have hp4 : p < 4 := am_p4 hst hst4 (by omega) (ac_late_le _ _ _ _ _ _) c_66
        refine lv_aload_n hx hb dX4_tryFrom_69 rfl (lv_at hl 0 rfl) ?_
        refine va_get (D := D) (ci := 4) (v := .long t.2.2.2) (C := RX4) (T := TX4) (N := 8) hx hb hts hin_X4 hown hK hP 4 rfl rfl 6 (by decide) hf_49 (fun _ h9 => h9) rfl dX4_tryFrom_70 ?_
        refine lv_aload_n hx hb dX4_tryFrom_73 rfl (lv_at hl 0 rfl) ?_
        refine va_get (D := D) (ci := 4) (v := .long (fl 2)) (C := RX4) (T := TX4) (N := 8) hx hb hts hin_X4 hown hK hP 4 rfl rfl 7 (by decide) hf_71 (fun _ h9 => h9) rfl dX4_tryFrom_74 ?_
        refine W.lcmp hx hb dX4_tryFrom_77 ?_
        refine lv_if_le (tgt := 154) hx hb dX4_tryFrom_78 (by decide) (fun c_78 => ?_) (fun c_78 => ?_)
        · skip
          have c_78 : t.2.2.2 ≤ (fl 2) := (lg_cmp_le _ _).mp c_78
          have hT : ac_try (al 8) (ai 9) (fi 8) (fi 9) (fl 2) na (n + 1) a z ((ai 21), (ai 22), (al 23), (fl 1)) = t := by rw [ac_try, if_neg c_25]; exact hm.symm.trans (ac_tl_s2 c_78)
          exact am_vretM hx hb hr hlocks (by rw [hT]; exact hP) hS dX4_tryFrom_154
        · skip
          have c_78 : ¬ (t.2.2.2 ≤ (fl 2)) := (fun z => c_78 ((lg_cmp_le _ _).mpr z))
          refine lv_lload_n hx hb dX4_tryFrom_81 rfl (lv_at hl 2 rfl) ?_
          refine lv_aload_n hx hb dX4_tryFrom_82 rfl (lv_at hl 0 rfl) ?_
          refine va_get (D := D) (ci := 4) (v := .ref (ad 23)) (C := RX4) (T := TX4) (N := 8) hx hb hts hin_X4 hown hK hP 4 rfl rfl 3 (by decide) hf_18 (fun _ h9 => h9) rfl dX4_tryFrom_83 ?_
          refine lv_iload hx hb dX4_tryFrom_86 (lv_at hl 5 rfl) ?_
          refine am_lald hx hb hK hP 23 1 rfl rfl p rfl (by omega) (by decide) dX4_tryFrom_88 ?_
          refine lv_lload hx hb dX4_tryFrom_89 (lv_at hl 3 rfl) ?_
          refine lv_ladd hx hb dX4_tryFrom_91 ?_
          refine va_mmax_long hx hb (hml.trans hl.1.symm) hown (ht 400 _ rfl) (ht 336 _ rfl) (ht 37 _ rfl) (ht 337 _ rfl) (by simp only [am_rm]; omega) (by simp only [am_rm, List.map_nil, List.map_cons, List.sum_nil, List.sum_cons]; omega) (Nat.zero_le _) (Nat.zero_le _) dX4_tryFrom_92 ?_
          refine am_topl (y := ac_max z ((t.2.2.1 p) + ((al 8) a))) rfl ?_
          refine lv_lstore (lv' := [(8, .long (ac_max z ((t.2.2.1 p) + ((al 8) a)))), (0, .ref (ad 4)), (1, .int (nI a)), (2, .long z), (4, .long ((al 8) a)), (6, .int (ac_late (fi 8) (fi 9) (nI a) (ai 9) (ai 22) a)), (7, .int (nI p))]) hx hb dX4_tryFrom_95 hl (by decide) rfl (fun ls hl => ?_)
          refine lv_lload hx hb dX4_tryFrom_97 (lv_at hl 0 rfl) ?_
          refine lv_aload_n hx hb dX4_tryFrom_99 rfl (lv_at hl 1 rfl) ?_
          refine va_get (D := D) (ci := 4) (v := .long t.2.2.2) (C := RX4) (T := TX4) (N := 8) hx hb hts hin_X4 hown hK hP 4 rfl rfl 6 (by decide) hf_49 (fun _ h9 => h9) rfl dX4_tryFrom_100 ?_
          refine W.lcmp hx hb dX4_tryFrom_103 ?_
          refine lv_if_ge (tgt := 148) hx hb dX4_tryFrom_104 (by decide) (fun c_104 => ?_) (fun c_104 => ?_)
          · skip
            have c_104 : t.2.2.2 ≤ (ac_max z ((t.2.2.1 p) + ((al 8) a))) := (lg_cmp_ge _ _).mp c_104
            refine lv_iinc (v := nI (p + 1)) (lv' := [(7, .int (nI (p + 1))), (8, .long (ac_max z ((t.2.2.1 p) + ((al 8) a)))), (0, .ref (ad 4)), (1, .int (nI a)), (2, .long z), (4, .long ((al 8) a)), (6, .int (ac_late (fi 8) (fi 9) (nI a) (ai 9) (ai 22) a))]) hx hb dX4_tryFrom_148 hl (k := 6) rfl (nI_1 p) (by decide) rfl (fun ls hl => ?_)
            refine lv_goto (tgt := 62) hx hb dX4_tryFrom_151 (by decide) ?_
            refine ih_62 (p + 1, t) (4 - (p + 1)) H locs ls (by first | omega | (dsimp only; omega)) ⟨rfl, (by omega), (by dsimp only; rw [← hm, show 4 - p = (4 - (p + 1)) + 1 by omega, ac_tl, if_neg c_66, if_neg c_78, if_pos c_104]), ?_, hS, ?_⟩
            · exact hP
            · exact lv_sub hl [2, 3, 4, 5, 6, 0] rfl
          · skip
            have c_104 : ¬ (t.2.2.2 ≤ (ac_max z ((t.2.2.1 p) + ((al 8) a)))) := (fun z => c_104 ((lg_cmp_ge _ _).mpr z))
            refine lv_aload_n hx hb dX4_tryFrom_107 rfl (lv_at hl 1 rfl) ?_
            refine va_get (D := D) (ci := 4) (v := .ref (ad 22)) (C := RX4) (T := TX4) (N := 8) hx hb hts hin_X4 hown hK hP 4 rfl rfl 2 (by decide) hf_15 (fun _ h9 => h9) rfl dX4_tryFrom_108 ?_
            refine lv_iload_n hx hb dX4_tryFrom_111 rfl (lv_at hl 2 rfl) ?_
            refine lv_iload hx hb dX4_tryFrom_112 (lv_at hl 6 rfl) ?_
            refine am_iast hx hb hK hP hD hS 22 0 rfl rfl a rfl (by omega) (by decide) (ac_w ad cI cL fi (vp_updL fl 1 t.2.2.2) (va_up (va_up ai 21 t.1) 22 (upd t.2.1 a (nI p))) (va_up al 23 t.2.2.1)) rfl dX4_tryFrom_114 (fun H locs hP hD hS => ?_)
            refine lv_aload_n hx hb dX4_tryFrom_115 rfl (lv_at hl 1 rfl) ?_
            refine va_get (D := D) (ci := 4) (v := .ref (ad 23)) (C := RX4) (T := TX4) (N := 8) hx hb hts hin_X4 hown hK hP 4 rfl rfl 3 (by decide) hf_18 (fun _ h9 => h9) rfl dX4_tryFrom_116 ?_
            refine lv_iload hx hb dX4_tryFrom_119 (lv_at hl 6 rfl) ?_
            refine lv_dup2_11 hx hb dX4_tryFrom_121 rfl rfl ?_
            refine am_lald hx hb hK hP 23 1 rfl rfl p rfl (by omega) (by decide) dX4_tryFrom_122 ?_
            refine lv_lload hx hb dX4_tryFrom_123 (lv_at hl 4 rfl) ?_
            refine lv_ladd hx hb dX4_tryFrom_125 ?_
            refine am_last hx hb hK hP hD hS 23 1 rfl rfl p rfl (by omega) (by decide) (ac_w ad cI cL fi (vp_updL fl 1 t.2.2.2) (va_up (va_up ai 21 t.1) 22 (upd t.2.1 a (nI p))) (va_up al 23 (vp_updL t.2.2.1 p ((t.2.2.1 p) + ((al 8) a))))) rfl dX4_tryFrom_126 (fun H locs hP hD hS => ?_)
            refine lv_aload_n hx hb dX4_tryFrom_127 rfl (lv_at hl 1 rfl) ?_
            refine lv_iload_n hx hb dX4_tryFrom_128 rfl (lv_at hl 2 rfl) ?_
            refine lv_iconst (v := 1) hx hb dX4_tryFrom_129 (by decide) ?_
            refine lv_iadd hx hb dX4_tryFrom_130 ?_
            refine am_topi (nI_1 a) ?_
            refine lv_lload hx hb dX4_tryFrom_131 (lv_at hl 0 rfl) ?_
            refine am_callMv (va_runS (As := [.ref (ad 4), .int (nI (a + 1)), .long (ac_max z ((t.2.2.1 p) + ((al 8) a)))]) (rest := []) ⟨hx, hb, hml, hown, hts⟩ (ih fi (vp_updL fl 1 t.2.2.2) (va_up (va_up ai 21 t.1) 22 (upd t.2.1 a (nI p))) (va_up al 23 (vp_updL t.2.2.1 p ((t.2.2.1 p) + ((al 8) a)))) A (a + 1) (ac_max z ((t.2.2.1 p) + ((al 8) a))) st hna hnl hst hst4 (by omega)) (va_cwS 3 hts (am_gS (am_in 402 rfl) (am_in 403 rfl) (am_in 34 rfl) (am_in 404 rfl)) rfl rfl rfl (by decide +kernel) ⟨by simp only [am_rm]; omega, by simp only [am_rm]; omega⟩) (am_preSM hP hK hN hD) rfl rfl hl.1 rfl (lv_room (Nat.le_of_ble_eq_true rfl)) dX4_tryFrom_133 ⟨Nat.zero_le _, Nat.zero_le _⟩) hS (fun H locs hP hS => ?_)
            have hP : va_P D vwCl (ac_w ad cI cL fi (vp_updL fl 1 ((ac_try (al 8) (ai 9) (fi 8) (fi 9) (fl 2) na n (a + 1) (ac_max z ((t.2.2.1 p) + ((al 8) a))) (ac_tput t a p ((al 8) a))).2.2.2)) (va_up (va_up ai 21 ((ac_try (al 8) (ai 9) (fi 8) (fi 9) (fl 2) na n (a + 1) (ac_max z ((t.2.2.1 p) + ((al 8) a))) (ac_tput t a p ((al 8) a))).1)) 22 ((ac_try (al 8) (ai 9) (fi 8) (fi 9) (fl 2) na n (a + 1) (ac_max z ((t.2.2.1 p) + ((al 8) a))) (ac_tput t a p ((al 8) a))).2.1)) (va_up al 23 ((ac_try (al 8) (ai 9) (fi 8) (fi 9) (fl 2) na n (a + 1) (ac_max z ((t.2.2.1 p) + ((al 8) a))) (ac_tput t a p ((al 8) a))).2.2.1))) H := hP
            have hD : va_D A (ac_w ad cI cL fi (vp_updL fl 1 ((ac_try (al 8) (ai 9) (fi 8) (fi 9) (fl 2) na n (a + 1) (ac_max z ((t.2.2.1 p) + ((al 8) a))) (ac_tput t a p ((al 8) a))).2.2.2)) (va_up (va_up ai 21 ((ac_try (al 8) (ai 9) (fi 8) (fi 9) (fl 2) na n (a + 1) (ac_max z ((t.2.2.1 p) + ((al 8) a))) (ac_tput t a p ((al 8) a))).1)) 22 ((ac_try (al 8) (ai 9) (fi 8) (fi 9) (fl 2) na n (a + 1) (ac_max z ((t.2.2.1 p) + ((al 8) a))) (ac_tput t a p ((al 8) a))).2.1)) (va_up al 23 ((ac_try (al 8) (ai 9) (fi 8) (fi 9) (fl 2) na n (a + 1) (ac_max z ((t.2.2.1 p) + ((al 8) a))) (ac_tput t a p ((al 8) a))).2.2.1))) := am_D hD rfl
            refine lv_aload_n hx hb dX4_tryFrom_136 rfl (lv_at hl 1 rfl) ?_
            refine va_get (D := D) (ci := 4) (v := .ref (ad 23)) (C := RX4) (T := TX4) (N := 8) hx hb hts hin_X4 hown hK hP 4 rfl rfl 3 (by decide) hf_18 (fun _ h9 => h9) rfl dX4_tryFrom_137 ?_
            refine lv_iload hx hb dX4_tryFrom_140 (lv_at hl 6 rfl) ?_
            refine lv_dup2_11 hx hb dX4_tryFrom_142 rfl rfl ?_
            refine am_lald hx hb hK hP 23 1 rfl rfl p rfl (by omega) (by decide) dX4_tryFrom_143 ?_
            refine lv_lload hx hb dX4_tryFrom_144 (lv_at hl 4 rfl) ?_
            refine lv_lsub hx hb dX4_tryFrom_146 ?_
            refine am_last hx hb hK hP hD hS 23 1 rfl rfl p rfl (by omega) (by decide) (ac_w ad cI cL fi (vp_updL fl 1 ((ac_try (al 8) (ai 9) (fi 8) (fi 9) (fl 2) na n (a + 1) (ac_max z ((t.2.2.1 p) + ((al 8) a))) (ac_tput t a p ((al 8) a))).2.2.2)) (va_up (va_up ai 21 ((ac_try (al 8) (ai 9) (fi 8) (fi 9) (fl 2) na n (a + 1) (ac_max z ((t.2.2.1 p) + ((al 8) a))) (ac_tput t a p ((al 8) a))).1)) 22 ((ac_try (al 8) (ai 9) (fi 8) (fi 9) (fl 2) na n (a + 1) (ac_max z ((t.2.2.1 p) + ((al 8) a))) (ac_tput t a p ((al 8) a))).2.1)) (va_up al 23 (vp_updL ((ac_try (al 8) (ai 9) (fi 8) (fi 9) (fl 2) na n (a + 1) (ac_max z ((t.2.2.1 p) + ((al 8) a))) (ac_tput t a p ((al 8) a))).2.2.1) p ((((ac_try (al 8) (ai 9) (fi 8) (fi 9) (fl 2) na n (a + 1) (ac_max z ((t.2.2.1 p) + ((al 8) a))) (ac_tput t a p ((al 8) a))).2.2.1) p) - ((al 8) a))))) rfl dX4_tryFrom_147 (fun H locs hP hD hS => ?_)
            refine lv_iinc (v := nI (p + 1)) (lv' := [(7, .int (nI (p + 1))), (8, .long (ac_max z ((t.2.2.1 p) + ((al 8) a)))), (0, .ref (ad 4)), (1, .int (nI a)), (2, .long z), (4, .long ((al 8) a)), (6, .int (ac_late (fi 8) (fi 9) (nI a) (ai 9) (ai 22) a))]) hx hb dX4_tryFrom_148 hl (k := 6) rfl (nI_1 p) (by decide) rfl (fun ls hl => ?_)
            refine lv_goto (tgt := 62) hx hb dX4_tryFrom_151 (by decide) ?_
            refine ih_62 (p + 1, (ac_toff (ac_try (al 8) (ai 9) (fi 8) (fi 9) (fl 2) na n (a + 1) (ac_max z (t.2.2.1 p + ((al 8) a))) (ac_tput t a p ((al 8) a))) p ((al 8) a))) (4 - (p + 1)) H locs ls (by first | omega | (dsimp only; omega)) ⟨rfl, (by omega), (by dsimp only; rw [← hm, show 4 - p = (4 - (p + 1)) + 1 by omega, ac_tl, if_neg c_66, if_neg c_78, if_neg c_104]), ?_, hS, ?_⟩
            · exact hP
            · exact lv_sub hl [2, 3, 4, 5, 6, 0] rfl
    · skip
      refine lv_aload_n hx hb dX4_tryFrom_28 rfl (lv_at hl 0 rfl) ?_
      refine lv_iload_n hx hb dX4_tryFrom_29 rfl (lv_at hl 1 rfl) ?_
      refine lv_iconst (v := 1) hx hb dX4_tryFrom_30 (by decide) ?_
      refine lv_iadd hx hb dX4_tryFrom_31 ?_
      refine am_topi (nI_1 a) ?_
      refine lv_lload_n hx hb dX4_tryFrom_32 rfl (lv_at hl 2 rfl) ?_
      refine am_callMv (va_runS (As := [.ref (ad 4), .int (nI (a + 1)), .long z]) (rest := []) ⟨hx, hb, hml, hown, hts⟩ (ih fi fl ai al A (a + 1) z st hna hnl hst hst4 (by omega)) (va_cwS 3 hts (am_gS (am_in 402 rfl) (am_in 403 rfl) (am_in 34 rfl) (am_in 404 rfl)) rfl rfl rfl (by decide +kernel) ⟨by simp only [am_rm]; omega, by simp only [am_rm]; omega⟩) (am_preSM hP hK hN hD) rfl rfl hl.1 rfl (lv_room (Nat.le_of_ble_eq_true rfl)) dX4_tryFrom_33 ⟨Nat.zero_le _, Nat.zero_le _⟩) hS (fun H locs hP hS => ?_)
      have hP : va_P D vwCl (ac_w ad cI cL fi (vp_updL fl 1 ((ac_try (al 8) (ai 9) (fi 8) (fi 9) (fl 2) na n (a + 1) z ((ai 21), (ai 22), (al 23), (fl 1))).2.2.2)) (va_up (va_up ai 21 ((ac_try (al 8) (ai 9) (fi 8) (fi 9) (fl 2) na n (a + 1) z ((ai 21), (ai 22), (al 23), (fl 1))).1)) 22 ((ac_try (al 8) (ai 9) (fi 8) (fi 9) (fl 2) na n (a + 1) z ((ai 21), (ai 22), (al 23), (fl 1))).2.1)) (va_up al 23 ((ac_try (al 8) (ai 9) (fi 8) (fi 9) (fl 2) na n (a + 1) z ((ai 21), (ai 22), (al 23), (fl 1))).2.2.1))) H := hP
      have hD : va_D A (ac_w ad cI cL fi (vp_updL fl 1 ((ac_try (al 8) (ai 9) (fi 8) (fi 9) (fl 2) na n (a + 1) z ((ai 21), (ai 22), (al 23), (fl 1))).2.2.2)) (va_up (va_up ai 21 ((ac_try (al 8) (ai 9) (fi 8) (fi 9) (fl 2) na n (a + 1) z ((ai 21), (ai 22), (al 23), (fl 1))).1)) 22 ((ac_try (al 8) (ai 9) (fi 8) (fi 9) (fl 2) na n (a + 1) z ((ai 21), (ai 22), (al 23), (fl 1))).2.1)) (va_up al 23 ((ac_try (al 8) (ai 9) (fi 8) (fi 9) (fl 2) na n (a + 1) z ((ai 21), (ai 22), (al 23), (fl 1))).2.2.1))) := am_D hD rfl
      exact am_vretM hx hb hr hlocks (by rw [ac_try, if_pos c_25]; exact hP) hS dX4_tryFrom_36
  · skip
    exact absurd (by rw [hna]; exact nI_lt (by omega) (by omega)) c_8

theorem c_X4_tryFrom (l : Launch) (D : va_G) (ad : Nat → Nat) (cI cL : ClassId) (na : Nat) : ∀ (n : Nat), ∀ (fi : Nat → Int32) (fl : Nat → Int64) (ai : Nat → Nat → Int32) (al : Nat → Nat → Int64) (A : Nat → Prop) (a : Nat) (z : Int64) (st : Nat), fi 0 = nI na → na ≤ 10 → fi 9 = nI st → st ≤ 4 → a + n = na → Met l yX4_tryFrom wsX4_tryFrom (am_rm (2 + n) (200 + n * 29)) (va_Pc [.ref (ad 4), .int (nI a), .long z] (am_M nwL vwCl D A (ac_w ad cI cL fi fl ai al) [(cI, .int), (cL, .long)])) (am_Mv vwCl D (ac_w ad cI cL fi (vp_updL fl 1 ((ac_try (al 8) (ai 9) (fi 8) (fi 9) (fl 2) na n a z ((ai 21), (ai 22), (al 23), (fl 1))).2.2.2)) (va_up (va_up ai 21 ((ac_try (al 8) (ai 9) (fi 8) (fi 9) (fl 2) na n a z ((ai 21), (ai 22), (al 23), (fl 1))).1)) 22 ((ac_try (al 8) (ai 9) (fi 8) (fi 9) (fl 2) na n a z ((ai 21), (ai 22), (al 23), (fl 1))).2.1)) (va_up al 23 ((ac_try (al 8) (ai 9) (fi 8) (fi 9) (fl 2) na n a z ((ai 21), (ai 22), (al 23), (fl 1))).2.2.1))) A) 0 0 A
  | 0 => fun fi fl ai al A a z st hna hnl hst hst4 han => by
    have h := c_X4_tryFrom_0 l D ad cI cL fi fl ai al A a na z hna hnl (by omega)
    exact h
  | n + 1 => fun fi fl ai al A a z st hna hnl hst hst4 han => c_X4_tryFrom_S l D ad cI cL fi fl ai al A n na (c_X4_tryFrom l D ad cI cL na n) a z st hna hnl hst hst4 han
