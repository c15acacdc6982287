set_option maxHeartbeats 4000000 in
set_option maxRecDepth 100000 in
theorem c_X5_act (l : Launch) (D : va_G) (ad : Nat → Nat) (cI cL cZ : ClassId) (fi : Nat → Int32) (fl : Nat → Int64) (ai : Nat → Nat → Int32) (al : Nat → Nat → Int64) (A : Nat → Prop) (x : Int32) (t : Int32) (d : Int32) (z : Int64) (na : Nat) (hna : fi 0 = nI na) (hnl : na ≤ 10) : Met l yX5_act wsX5_act (am_rm 1 21) (va_Pc [.ref (ad 0), .int x, .int t, .int d, .long z] (am_M nwL vwCl D A (rm_w ad cI cL cZ fi fl ai al) [(cI, .int), (cL, .long), (cZ, .boolean)])) (am_Mi vwCl D (if rc_actOk (fi 0) x t d z then (fi 0) + 1 - 1 else (-1)) (rm_w ad cI cL cZ (upd (upd fi 0 (if rc_actOk (fi 0) x t d z then (fi 0) + 1 else (fi 0))) 3 (if rc_actOk (fi 0) x t d z then 0 else (fi 3))) fl (va_up (va_up (va_up ai 1 (if rc_actOk (fi 0) x t d z then upd (ai 1) na x else (ai 1))) 2 (if rc_actOk (fi 0) x t d z then upd (ai 2) na t else (ai 2))) 3 (if rc_actOk (fi 0) x t d z then upd (ai 3) na d else (ai 3))) (va_up al 4 (if rc_actOk (fi 0) x t d z then vp_updL (al 4) na z else (al 4)))) A) 0 0 A := by
  refine am_startM (cc := cX5_act) (maxL := 6) (ret := (some .int)) (by decide) rfl (Nat.le_of_ble_eq_true rfl) [(0, .ref (ad 0)), (1, .int x), (2, .int t), (3, .int d), (4, .long z)] rfl ?_
  intro p e s m below meth c ls hx hb hr hml hown hts hlocks hK hN hD H locs hP hS hl
  have hown : s.vm.findClass RX5 = some m.cls := hown
  have ht := am_ht hts
  have hin_X5 : ∀ w ∈ u_ws RX5 TX5 31, w ∈ wsX5_act := fun w h => List.mem_cons_of_mem _ (am_inX5 w h)
  have hf_13 := ht 432 (.fieldLink RX5 13 "ApartCostModel" "tools" "[I") rfl
  have hf_16 := ht 433 (.fieldLink RX5 16 "ApartCostModel" "sides" "[I") rfl
  have hf_19 := ht 434 (.fieldLink RX5 19 "ApartCostModel" "costs" "[J") rfl
  have hf_7 := ht 431 (.fieldLink RX5 7 "ApartCostModel" "freed" "[I") rfl
  have hf_86 := ht 430 (.fieldLink RX5 86 "ApartCostModel" "count" "I") rfl
  have hf_97 := ht 449 (.fieldLink RX5 97 "ApartCostModel" "isFresh" "Z") rfl
  refine lv_aload_n hx hb dX5_act_0 rfl (lv_at hl 0 rfl) ?_
  refine va_get (D := D) (ci := 5) (v := .int (fi 0)) (C := RX5) (T := TX5) (N := 31) hx hb hts hin_X5 hown hK hP 0 rfl rfl 0 (by decide) hf_86 (fun _ h9 => h9) rfl dX5_act_1 ?_
  refine lv_bipush (v := 10) hx hb dX5_act_4 (by decide) ?_
  refine lv_icmp_eq (tgt := 42) hx hb dX5_act_6 (by decide) (fun c_6 => ?_) (fun c_6 => ?_)
  · skip
    have c_6 : (fi 0) = 10 := c_6
    refine lv_iconst (v := (-1)) hx hb dX5_act_42 (by decide) ?_
    have hok : ¬ (rc_actOk (fi 0) x t d z) := by first | rfl | (simp only [rc_actOk, c_6, if_true, if_false, eq_self, not_true_eq_false, not_false_eq_true, ite_true, ite_false, ↓reduceIte]; done) | (simp [rc_actOk, c_6]; done)
    exact am_iretM hx hb hr hlocks (by simp only [if_neg hok]; exact hP) hS (by rw [if_neg hok]; first | done | rfl) dX5_act_43
  · skip
    have c_6 : ¬ ((fi 0) = 10) := c_6
    have hlt : na < 10 := by rcases Nat.lt_or_ge na 10 with h | h; exact h; exact absurd (by rw [hna, show na = 10 by omega]; rfl) c_6
    refine lv_iload_n hx hb dX5_act_9 rfl (lv_at hl 1 rfl) ?_
    refine lv_iconst (v := (-1)) hx hb dX5_act_10 (by decide) ?_
    refine lv_icmp_lt (tgt := 42) hx hb dX5_act_11 (by decide) (fun c_11 => ?_) (fun c_11 => ?_)
    · skip
      have c_11 : x < (-1) := c_11
      refine lv_iconst (v := (-1)) hx hb dX5_act_42 (by decide) ?_
      have hok : ¬ (rc_actOk (fi 0) x t d z) := by first | rfl | (simp only [rc_actOk, c_6, c_11, if_true, if_false, eq_self, not_true_eq_false, not_false_eq_true, ite_true, ite_false, ↓reduceIte]; done) | (simp [rc_actOk, c_6, c_11]; done)
      exact am_iretM hx hb hr hlocks (by simp only [if_neg hok]; exact hP) hS (by rw [if_neg hok]; first | done | rfl) dX5_act_43
    · skip
      have c_11 : ¬ (x < (-1)) := c_11
      refine lv_iload_n hx hb dX5_act_14 rfl (lv_at hl 1 rfl) ?_
      refine lv_bipush (v := 12) hx hb dX5_act_15 (by decide) ?_
      refine lv_icmp_ge (tgt := 42) hx hb dX5_act_17 (by decide) (fun c_17 => ?_) (fun c_17 => ?_)
      · skip
        have c_17 : 12 ≤ x := c_17
        refine lv_iconst (v := (-1)) hx hb dX5_act_42 (by decide) ?_
        have hok : ¬ (rc_actOk (fi 0) x t d z) := by first | rfl | (simp only [rc_actOk, c_6, c_11, c_17, if_true, if_false, eq_self, not_true_eq_false, not_false_eq_true, ite_true, ite_false, ↓reduceIte]; done) | (simp [rc_actOk, c_6, c_11, c_17]; done)
        exact am_iretM hx hb hr hlocks (by simp only [if_neg hok]; exact hP) hS (by rw [if_neg hok]; first | done | rfl) dX5_act_43
      · skip
        have c_17 : ¬ (12 ≤ x) := c_17
        refine lv_iload_n hx hb dX5_act_20 rfl (lv_at hl 2 rfl) ?_
        refine am_callRi (W.runS (As := [.int t]) (rest := []) ⟨hx, hb, hml, hown, hts⟩ (c_X5_isKind l D _ _ t) (va_cwS 1 hts (am_gS (am_in 497 rfl) (am_in 498 rfl) (am_in 35 rfl) (am_in 499 rfl)) rfl rfl rfl (by decide +kernel) ⟨Nat.le_of_ble_eq_true rfl, Nat.le_of_ble_eq_true rfl⟩) (am_preSR hP hK hN) rfl rfl hl.1 rfl (lv_room (Nat.le_of_ble_eq_true rfl)) dX5_act_21 ⟨Nat.zero_le _, Nat.zero_le _⟩) ?_
        refine lv_if_eq (tgt := 42) hx hb dX5_act_24 (by decide) (fun c_24 => ?_) (fun c_24 => ?_)
        · skip
          have c_24 : (ac_isKind t) = 0 := c_24
          refine lv_iconst (v := (-1)) hx hb dX5_act_42 (by decide) ?_
          have hok : ¬ (rc_actOk (fi 0) x t d z) := by first | rfl | (simp only [rc_actOk, c_6, c_11, c_17, c_24, if_true, if_false, eq_self, not_true_eq_false, not_false_eq_true, ite_true, ite_false, ↓reduceIte]; done) | (simp [rc_actOk, c_6, c_11, c_17, c_24]; done)
          exact am_iretM hx hb hr hlocks (by simp only [if_neg hok]; exact hP) hS (by rw [if_neg hok]; first | done | rfl) dX5_act_43
        · skip
          have c_24 : ¬ ((ac_isKind t) = 0) := c_24
          refine lv_iload_n hx hb dX5_act_27 rfl (lv_at hl 3 rfl) ?_
          refine am_callRi (W.runS (As := [.int d]) (rest := []) ⟨hx, hb, hml, hown, hts⟩ (c_X5_isKind l D _ _ d) (va_cwS 1 hts (am_gS (am_in 497 rfl) (am_in 498 rfl) (am_in 35 rfl) (am_in 499 rfl)) rfl rfl rfl (by decide +kernel) ⟨Nat.le_of_ble_eq_true rfl, Nat.le_of_ble_eq_true rfl⟩) (am_preSR hP hK hN) rfl rfl hl.1 rfl (lv_room (Nat.le_of_ble_eq_true rfl)) dX5_act_28 ⟨Nat.zero_le _, Nat.zero_le _⟩) ?_
          refine lv_if_eq (tgt := 42) hx hb dX5_act_31 (by decide) (fun c_31 => ?_) (fun c_31 => ?_)
          · skip
            have c_31 : (ac_isKind d) = 0 := c_31
            refine lv_iconst (v := (-1)) hx hb dX5_act_42 (by decide) ?_
            have hok : ¬ (rc_actOk (fi 0) x t d z) := by first | rfl | (simp only [rc_actOk, c_6, c_11, c_17, c_24, c_31, if_true, if_false, eq_self, not_true_eq_false, not_false_eq_true, ite_true, ite_false, ↓reduceIte]; done) | (simp [rc_actOk, c_6, c_11, c_17, c_24, c_31]; done)
            exact am_iretM hx hb hr hlocks (by simp only [if_neg hok]; exact hP) hS (by rw [if_neg hok]; first | done | rfl) dX5_act_43
          · skip
            have c_31 : ¬ ((ac_isKind d) = 0) := c_31
            refine lv_lload hx hb dX5_act_34 (lv_at hl 4 rfl) ?_
            refine am_callRi (W.runS (As := [.long z]) (rest := []) ⟨hx, hb, hml, hown, hts⟩ (c_X5_isCents l D _ _ z) (va_cwS 1 hts (am_gS (am_in 500 rfl) (am_in 501 rfl) (am_in 35 rfl) (am_in 502 rfl)) rfl rfl rfl (by decide +kernel) ⟨Nat.le_of_ble_eq_true rfl, Nat.le_of_ble_eq_true rfl⟩) (am_preSR hP hK hN) rfl rfl hl.1 rfl (lv_room (Nat.le_of_ble_eq_true rfl)) dX5_act_36 ⟨Nat.zero_le _, Nat.zero_le _⟩) ?_
            refine lv_if_ne (tgt := 44) hx hb dX5_act_39 (by decide) (fun c_39 => ?_) (fun c_39 => ?_)
            · skip
              have c_39 : ¬ (ac_isPrice z) = 0 := c_39
              refine lv_aload_n hx hb dX5_act_44 rfl (lv_at hl 0 rfl) ?_
              refine va_get (D := D) (ci := 5) (v := .ref (ad 1)) (C := RX5) (T := TX5) (N := 31) hx hb hts hin_X5 hown hK hP 0 rfl rfl 1 (by decide) hf_7 (fun _ h9 => h9) rfl dX5_act_45 ?_
              refine lv_aload_n hx hb dX5_act_48 rfl (lv_at hl 0 rfl) ?_
              refine va_get (D := D) (ci := 5) (v := .int (fi 0)) (C := RX5) (T := TX5) (N := 31) hx hb hts hin_X5 hown hK hP 0 rfl rfl 0 (by decide) hf_86 (fun _ h9 => h9) rfl dX5_act_49 ?_
              refine lv_iload_n hx hb dX5_act_52 rfl (lv_at hl 1 rfl) ?_
              refine am_iast hx hb hK hP hD hS 1 0 rfl rfl na hna (by omega) (by decide) (rm_w ad cI cL cZ fi fl (va_up ai 1 (upd (ai 1) na x)) al) rfl dX5_act_53 (fun H locs hP hD hS => ?_)
              refine lv_aload_n hx hb dX5_act_54 rfl (lv_at hl 0 rfl) ?_
              refine va_get (D := D) (ci := 5) (v := .ref (ad 2)) (C := RX5) (T := TX5) (N := 31) hx hb hts hin_X5 hown hK hP 0 rfl rfl 2 (by decide) hf_13 (fun _ h9 => h9) rfl dX5_act_55 ?_
              refine lv_aload_n hx hb dX5_act_58 rfl (lv_at hl 0 rfl) ?_
              refine va_get (D := D) (ci := 5) (v := .int (fi 0)) (C := RX5) (T := TX5) (N := 31) hx hb hts hin_X5 hown hK hP 0 rfl rfl 0 (by decide) hf_86 (fun _ h9 => h9) rfl dX5_act_59 ?_
              refine lv_iload_n hx hb dX5_act_62 rfl (lv_at hl 2 rfl) ?_
              refine am_iast hx hb hK hP hD hS 2 0 rfl rfl na hna (by omega) (by decide) (rm_w ad cI cL cZ fi fl (va_up (va_up ai 1 (upd (ai 1) na x)) 2 (upd (ai 2) na t)) al) rfl dX5_act_63 (fun H locs hP hD hS => ?_)
              refine lv_aload_n hx hb dX5_act_64 rfl (lv_at hl 0 rfl) ?_
              refine va_get (D := D) (ci := 5) (v := .ref (ad 3)) (C := RX5) (T := TX5) (N := 31) hx hb hts hin_X5 hown hK hP 0 rfl rfl 3 (by decide) hf_16 (fun _ h9 => h9) rfl dX5_act_65 ?_
              refine lv_aload_n hx hb dX5_act_68 rfl (lv_at hl 0 rfl) ?_
              refine va_get (D := D) (ci := 5) (v := .int (fi 0)) (C := RX5) (T := TX5) (N := 31) hx hb hts hin_X5 hown hK hP 0 rfl rfl 0 (by decide) hf_86 (fun _ h9 => h9) rfl dX5_act_69 ?_
              refine lv_iload_n hx hb dX5_act_72 rfl (lv_at hl 3 rfl) ?_
              refine am_iast hx hb hK hP hD hS 3 0 rfl rfl na hna (by omega) (by decide) (rm_w ad cI cL cZ fi fl (va_up (va_up (va_up ai 1 (upd (ai 1) na x)) 2 (upd (ai 2) na t)) 3 (upd (ai 3) na d)) al) rfl dX5_act_73 (fun H locs hP hD hS => ?_)
              refine lv_aload_n hx hb dX5_act_74 rfl (lv_at hl 0 rfl) ?_
              refine va_get (D := D) (ci := 5) (v := .ref (ad 4)) (C := RX5) (T := TX5) (N := 31) hx hb hts hin_X5 hown hK hP 0 rfl rfl 4 (by decide) hf_19 (fun _ h9 => h9) rfl dX5_act_75 ?_
              refine lv_aload_n hx hb dX5_act_78 rfl (lv_at hl 0 rfl) ?_
              refine va_get (D := D) (ci := 5) (v := .int (fi 0)) (C := RX5) (T := TX5) (N := 31) hx hb hts hin_X5 hown hK hP 0 rfl rfl 0 (by decide) hf_86 (fun _ h9 => h9) rfl dX5_act_79 ?_
              refine lv_lload hx hb dX5_act_82 (lv_at hl 4 rfl) ?_
              refine am_last hx hb hK hP hD hS 4 1 rfl rfl na hna (by omega) (by decide) (rm_w ad cI cL cZ fi fl (va_up (va_up (va_up ai 1 (upd (ai 1) na x)) 2 (upd (ai 2) na t)) 3 (upd (ai 3) na d)) (va_up al 4 (vp_updL (al 4) na z))) rfl dX5_act_84 (fun H locs hP hD hS => ?_)
              refine lv_aload_n hx hb dX5_act_85 rfl (lv_at hl 0 rfl) ?_
              refine lv_dup hx hb dX5_act_86 rfl ?_
              refine va_get (D := D) (ci := 5) (v := .int (fi 0)) (C := RX5) (T := TX5) (N := 31) hx hb hts hin_X5 hown hK hP 0 rfl rfl 0 (by decide) hf_86 (fun _ h9 => h9) rfl dX5_act_87 ?_
              refine lv_iconst (v := 1) hx hb dX5_act_90 (by decide) ?_
              refine lv_iadd hx hb dX5_act_91 ?_
              refine va_put (D := D) (ci := 5) (v := .int ((fi 0) + 1)) (ty := .int) (C := RX5) (T := TX5) (N := 31) hx hb hts hin_X5 tyX5 tyX5_ok nmX5 hown hK hP hD hS 0 rfl rfl 0 (by decide) hf_86 (fun _ h9 => h9) rfl (by decide +kernel) rfl rfl (Nat.le_of_ble_eq_true rfl) dX5_act_92 (fun H locs hP hD hS => ?_)
              have hP : va_P D vwCl (rm_w ad cI cL cZ (upd fi 0 ((fi 0) + 1)) fl (va_up (va_up (va_up ai 1 (upd (ai 1) na x)) 2 (upd (ai 2) na t)) 3 (upd (ai 3) na d)) (va_up al 4 (vp_updL (al 4) na z))) H := hP
              have hD : va_D A (rm_w ad cI cL cZ (upd fi 0 ((fi 0) + 1)) fl (va_up (va_up (va_up ai 1 (upd (ai 1) na x)) 2 (upd (ai 2) na t)) 3 (upd (ai 3) na d)) (va_up al 4 (vp_updL (al 4) na z))) := am_D hD rfl
              refine lv_aload_n hx hb dX5_act_95 rfl (lv_at hl 0 rfl) ?_
              refine lv_iconst (v := 0) hx hb dX5_act_96 (by decide) ?_
              refine va_put (D := D) (ci := 5) (v := .int 0) (ty := .boolean) (C := RX5) (T := TX5) (N := 31) hx hb hts hin_X5 tyX5 tyX5_ok nmX5 hown hK hP hD hS 0 rfl rfl 19 (by decide) hf_97 (fun _ h9 => h9) rfl (by decide +kernel) rfl rfl (Nat.le_of_ble_eq_true rfl) dX5_act_97 (fun H locs hP hD hS => ?_)
              have hP : va_P D vwCl (rm_w ad cI cL cZ (upd (upd fi 0 ((fi 0) + 1)) 3 0) fl (va_up (va_up (va_up ai 1 (upd (ai 1) na x)) 2 (upd (ai 2) na t)) 3 (upd (ai 3) na d)) (va_up al 4 (vp_updL (al 4) na z))) H := hP
              have hD : va_D A (rm_w ad cI cL cZ (upd (upd fi 0 ((fi 0) + 1)) 3 0) fl (va_up (va_up (va_up ai 1 (upd (ai 1) na x)) 2 (upd (ai 2) na t)) 3 (upd (ai 3) na d)) (va_up al 4 (vp_updL (al 4) na z))) := am_D hD rfl
              refine lv_aload_n hx hb dX5_act_100 rfl (lv_at hl 0 rfl) ?_
              refine va_get (D := D) (ci := 5) (v := .int ((fi 0) + 1)) (C := RX5) (T := TX5) (N := 31) hx hb hts hin_X5 hown hK hP 0 rfl rfl 0 (by decide) hf_86 (fun _ h9 => h9) rfl dX5_act_101 ?_
              refine lv_iconst (v := 1) hx hb dX5_act_104 (by decide) ?_
              refine lv_isub hx hb dX5_act_105 ?_
              have hok : rc_actOk (fi 0) x t d z := by first | rfl | (simp only [rc_actOk, c_6, c_11, c_17, c_24, c_31, c_39, if_true, if_false, eq_self, not_true_eq_false, not_false_eq_true, ite_true, ite_false, ↓reduceIte]; done) | (simp [rc_actOk, c_6, c_11, c_17, c_24, c_31, c_39]; done)
              exact am_iretM hx hb hr hlocks (by simp only [if_pos hok]; exact hP) hS (by rw [if_pos hok]; first | done | rfl) dX5_act_106
            · skip
              have c_39 : (ac_isPrice z) = 0 := c_39
              refine lv_iconst (v := (-1)) hx hb dX5_act_42 (by decide) ?_
              have hok : ¬ (rc_actOk (fi 0) x t d z) := by first | rfl | (simp only [rc_actOk, c_6, c_11, c_17, c_24, c_31, c_39, if_true, if_false, eq_self, not_true_eq_false, not_false_eq_true, ite_true, ite_false, ↓reduceIte]; done) | (simp [rc_actOk, c_6, c_11, c_17, c_24, c_31, c_39]; done)
              exact am_iretM hx hb hr hlocks (by simp only [if_neg hok]; exact hP) hS (by rw [if_neg hok]; first | done | rfl) dX5_act_43

set_option maxHeartbeats 4000000 in
set_option maxRecDepth 100000 in
theorem c_X5_before (l : Launch) (D : va_G) (ad : Nat → Nat) (cI cL cZ : ClassId) (fi : Nat → Int32) (fl : Nat → Int64) (ai : Nat → Nat → Int32) (al : Nat → Nat → Int64) (A : Nat → Prop) (x : Int32) (y : Int32) (na : Nat) (hna : fi 0 = nI na) (hnl : na ≤ 10) : Met l yX5_before wsX5_before (am_rm 1 26) (va_Pc [.ref (ad 0), .int x, .int y] (am_M nwL vwCl D A (rm_w ad cI cL cZ fi fl ai al) [(cI, .int), (cL, .long), (cZ, .boolean)])) (am_Mi vwCl D (if rc_befOk (fi 0) (ai 6) na x y then 1 else 0) (rm_w ad cI cL cZ (upd fi 3 (if rc_befOk (fi 0) (ai 6) na x y then 0 else (fi 3))) fl (va_up ai 6 (if rc_befOk (fi 0) (ai 6) na x y then upd (ai 6) (10 * y.toNatClampNeg + x.toNatClampNeg) 1 else (ai 6))) al) A) 0 0 A := by
  refine am_startM (cc := cX5_before) (maxL := 3) (ret := (some .boolean)) (by decide) rfl (Nat.le_of_ble_eq_true rfl) [(0, .ref (ad 0)), (1, .int x), (2, .int y)] rfl ?_
  intro p e s m below meth c ls hx hb hr hml hown hts hlocks hK hN hD H locs hP hS hl
  have hown : s.vm.findClass RX5 = some m.cls := hown
  have ht := am_ht hts
  have hin_X5 : ∀ w ∈ u_ws RX5 TX5 31, w ∈ wsX5_before := fun w h => List.mem_cons_of_mem _ (am_inX5 w h)
  have hf_27 := ht 436 (.fieldLink RX5 27 "ApartCostModel" "needs" "[Z") rfl
  have hf_97 := ht 449 (.fieldLink RX5 97 "ApartCostModel" "isFresh" "Z") rfl
  refine lv_aload_n hx hb dX5_before_0 rfl (lv_at hl 0 rfl) ?_
  refine lv_iload_n hx hb dX5_before_1 rfl (lv_at hl 1 rfl) ?_
  refine am_callRi (W.runV (As := [.int x]) (rest := []) ⟨hx, hb, hml, hown, hts⟩ (c_X5_isAct l D ad cI cL cZ fi fl ai al x) (cwV 1 hts (am_gV (am_in 508 rfl) (am_in 509 rfl) (am_in 12 rfl) (am_in 35 rfl) (am_in 510 rfl)) rfl rfl rfl (by decide +kernel) ⟨Nat.le_of_ble_eq_true rfl, Nat.le_of_ble_eq_true rfl⟩) (am_preVR 5 0 rfl rfl rfl hP hK hN) rfl rfl hl.1 rfl (lv_room (Nat.le_of_ble_eq_true rfl)) dX5_before_2 ⟨Nat.zero_le _, Nat.zero_le _⟩) ?_
  refine lv_if_eq (tgt := 30) hx hb dX5_before_5 (by decide) (fun c_5 => ?_) (fun c_5 => ?_)
  · skip
    have c_5 : (ac_hasAct (fi 0) x) = 0 := c_5
    refine lv_iconst (v := 0) hx hb dX5_before_30 (by decide) ?_
    have hok : ¬ (rc_befOk (fi 0) (ai 6) na x y) := by first | rfl | (simp only [rc_befOk, c_5, if_true, if_false, eq_self, not_true_eq_false, not_false_eq_true, ite_true, ite_false, ↓reduceIte]; done) | (simp [rc_befOk, c_5]; done)
    exact am_zretM hx hb hr hlocks (Or.inl rfl) (by simp only [if_neg hok]; exact hP) hS (by rw [if_neg hok]; first | done | rfl) dX5_before_31
  · skip
    have c_5 : ¬ ((ac_hasAct (fi 0) x) = 0) := c_5
    obtain ⟨a, hq_a, ea⟩ : ∃ z, z < na ∧ x = nI z := am_hasAct hna (by omega) c_5
    have nn_a : x.toNatClampNeg = a := by rw [ea]; exact nI_clamp (by omega)
    have mm_a : (nI a).toNatClampNeg = a := nI_clamp (by omega)
    refine lv_aload_n hx hb dX5_before_8 rfl (lv_at hl 0 rfl) ?_
    refine lv_iload_n hx hb dX5_before_9 rfl (lv_at hl 2 rfl) ?_
    refine am_callRi (W.runV (As := [.int y]) (rest := []) ⟨hx, hb, hml, hown, hts⟩ (c_X5_isAct l D ad cI cL cZ fi fl ai al y) (cwV 1 hts (am_gV (am_in 508 rfl) (am_in 509 rfl) (am_in 12 rfl) (am_in 35 rfl) (am_in 510 rfl)) rfl rfl rfl (by decide +kernel) ⟨Nat.le_of_ble_eq_true rfl, Nat.le_of_ble_eq_true rfl⟩) (am_preVR 5 0 rfl rfl rfl hP hK hN) rfl rfl hl.1 rfl (lv_room (Nat.le_of_ble_eq_true rfl)) dX5_before_10 ⟨Nat.zero_le _, Nat.zero_le _⟩) ?_
    refine lv_if_eq (tgt := 30) hx hb dX5_before_13 (by decide) (fun c_13 => ?_) (fun c_13 => ?_)
    · skip
      have c_13 : (ac_hasAct (fi 0) y) = 0 := c_13
      refine lv_iconst (v := 0) hx hb dX5_before_30 (by decide) ?_
      have hok : ¬ (rc_befOk (fi 0) (ai 6) na x y) := by first | rfl | (simp only [rc_befOk, c_5, c_13, nn_a, if_true, if_false, eq_self, not_true_eq_false, not_false_eq_true, ite_true, ite_false, ↓reduceIte]; done) | (simp [rc_befOk, c_5, c_13, nn_a]; done)
      exact am_zretM hx hb hr hlocks (Or.inl rfl) (by simp only [if_neg hok]; exact hP) hS (by rw [if_neg hok]; first | done | rfl) dX5_before_31
    · skip
      have c_13 : ¬ ((ac_hasAct (fi 0) y) = 0) := c_13
      obtain ⟨b, hq_b, eb⟩ : ∃ z, z < na ∧ y = nI z := am_hasAct hna (by omega) c_13
      have nn_b : y.toNatClampNeg = b := by rw [eb]; exact nI_clamp (by omega)
      have mm_b : (nI b).toNatClampNeg = b := nI_clamp (by omega)
      refine lv_iload_n hx hb dX5_before_16 rfl (lv_at hl 1 rfl) ?_
      refine lv_iload_n hx hb dX5_before_17 rfl (lv_at hl 2 rfl) ?_
      refine lv_icmp_eq (tgt := 30) hx hb dX5_before_18 (by decide) (fun c_18 => ?_) (fun c_18 => ?_)
      · skip
        have c_18 : x = y := c_18
        refine lv_iconst (v := 0) hx hb dX5_before_30 (by decide) ?_
        have hok : ¬ (rc_befOk (fi 0) (ai 6) na x y) := by first | rfl | (simp only [rc_befOk, c_5, c_13, c_18, nn_a, nn_b, if_true, if_false, eq_self, not_true_eq_false, not_false_eq_true, ite_true, ite_false, ↓reduceIte]; done) | (simp [rc_befOk, c_5, c_13, c_18, nn_a, nn_b]; done)
        exact am_zretM hx hb hr hlocks (Or.inl rfl) (by simp only [if_neg hok]; exact hP) hS (by rw [if_neg hok]; first | done | rfl) dX5_before_31
      · skip
        have c_18 : ¬ (x = y) := c_18
        refine lv_aload_n hx hb dX5_before_21 rfl (lv_at hl 0 rfl) ?_
        refine lv_iload_n hx hb dX5_before_22 rfl (lv_at hl 1 rfl) ?_
        refine am_topi ea ?_
        refine lv_iload_n hx hb dX5_before_23 rfl (lv_at hl 2 rfl) ?_
        refine am_callRi (W.runV (As := [.int (nI a), .int y]) (rest := []) ⟨hx, hb, hml, hown, hts⟩ (c_X5_leadsTo l D ad cI cL cZ fi fl ai al a y na hna hnl hq_a) (cwV 2 hts (am_gV (am_in 511 rfl) (am_in 512 rfl) (am_in 13 rfl) (am_in 35 rfl) (am_in 513 rfl)) rfl rfl rfl (by decide +kernel) ⟨Nat.le_of_ble_eq_true rfl, Nat.le_of_ble_eq_true rfl⟩) (am_preVR 5 0 rfl rfl rfl hP hK hN) rfl rfl hl.1 rfl (lv_room (Nat.le_of_ble_eq_true rfl)) dX5_before_24 ⟨Nat.zero_le _, Nat.zero_le _⟩) ?_
        refine lv_if_eq (tgt := 32) hx hb dX5_before_27 (by decide) (fun c_27 => ?_) (fun c_27 => ?_)
        · skip
          have c_27 : (rc_leads (ai 6) na a y) = 0 := c_27
          refine lv_aload_n hx hb dX5_before_32 rfl (lv_at hl 0 rfl) ?_
          refine va_get (D := D) (ci := 5) (v := .ref (ad 6)) (C := RX5) (T := TX5) (N := 31) hx hb hts hin_X5 hown hK hP 0 rfl rfl 6 (by decide) hf_27 (fun _ h9 => h9) rfl dX5_before_33 ?_
          refine lv_bipush (v := 10) hx hb dX5_before_36 (by decide) ?_
          refine lv_iload_n hx hb dX5_before_38 rfl (lv_at hl 2 rfl) ?_
          refine lv_imul hx hb dX5_before_39 ?_
          refine lv_iload_n hx hb dX5_before_40 rfl (lv_at hl 1 rfl) ?_
          refine lv_iadd hx hb dX5_before_41 ?_
          refine lv_iconst (v := 1) hx hb dX5_before_42 (by decide) ?_
          refine am_zast hx hb hK hP hD hS 6 2 rfl rfl (10 * b + a) (by rw [ea, eb]; exact am_x10 b a) (by omega) (by decide) rfl (rm_w ad cI cL cZ fi fl (va_up ai 6 (upd (ai 6) (10 * b + a) 1)) al) rfl dX5_before_43 (fun H locs hP hD hS => ?_)
          refine lv_aload_n hx hb dX5_before_44 rfl (lv_at hl 0 rfl) ?_
          refine lv_iconst (v := 0) hx hb dX5_before_45 (by decide) ?_
          refine va_put (D := D) (ci := 5) (v := .int 0) (ty := .boolean) (C := RX5) (T := TX5) (N := 31) hx hb hts hin_X5 tyX5 tyX5_ok nmX5 hown hK hP hD hS 0 rfl rfl 19 (by decide) hf_97 (fun _ h9 => h9) rfl (by decide +kernel) rfl rfl (Nat.le_of_ble_eq_true rfl) dX5_before_46 (fun H locs hP hD hS => ?_)
          have hP : va_P D vwCl (rm_w ad cI cL cZ (upd fi 3 0) fl (va_up ai 6 (upd (ai 6) (10 * b + a) 1)) al) H := hP
          have hD : va_D A (rm_w ad cI cL cZ (upd fi 3 0) fl (va_up ai 6 (upd (ai 6) (10 * b + a) 1)) al) := am_D hD rfl
          refine lv_iconst (v := 1) hx hb dX5_before_49 (by decide) ?_
          have hok : rc_befOk (fi 0) (ai 6) na x y := by first | rfl | (simp only [rc_befOk, c_5, c_13, c_18, c_27, nn_a, nn_b, if_true, if_false, eq_self, not_true_eq_false, not_false_eq_true, ite_true, ite_false, ↓reduceIte]; done) | (simp [rc_befOk, c_5, c_13, c_18, c_27, nn_a, nn_b]; done)
          exact am_zretM hx hb hr hlocks (Or.inr rfl) (by simp only [if_pos hok, nn_a, nn_b]; exact hP) hS (by rw [if_pos hok]; first | done | rfl) dX5_before_50
        · skip
          have c_27 : ¬ ((rc_leads (ai 6) na a y) = 0) := c_27
          refine lv_iconst (v := 0) hx hb dX5_before_30 (by decide) ?_
          have hok : ¬ (rc_befOk (fi 0) (ai 6) na x y) := by first | rfl | (simp only [rc_befOk, c_5, c_13, c_18, c_27, nn_a, nn_b, if_true, if_false, eq_self, not_true_eq_false, not_false_eq_true, ite_true, ite_false, ↓reduceIte]; done) | (simp [rc_befOk, c_5, c_13, c_18, c_27, nn_a, nn_b]; done)
          exact am_zretM hx hb hr hlocks (Or.inl rfl) (by simp only [if_neg hok]; exact hP) hS (by rw [if_neg hok]; first | done | rfl) dX5_before_31

set_option maxHeartbeats 4000000 in
set_option maxRecDepth 100000 in
theorem c_X5_change (l : Launch) (D : va_G) (ad : Nat → Nat) (cI cL cZ : ClassId) (fi : Nat → Int32) (fl : Nat → Int64) (ai : Nat → Nat → Int32) (al : Nat → Nat → Int64) (A : Nat → Prop) (x : Int32) (y : Int32) (z : Int64) : Met l yX5_change wsX5_change (am_rm 1 21) (va_Pc [.ref (ad 0), .int x, .int y, .long z] (am_M nwL vwCl D A (rm_w ad cI cL cZ fi fl ai al) [(cI, .int), (cL, .long), (cZ, .boolean)])) (am_Mi vwCl D (if rc_movOk x y z then 1 else 0) (rm_w ad cI cL cZ (upd fi 3 (if rc_movOk x y z then 0 else (fi 3))) fl ai (va_up al 7 (if rc_movOk x y z then vp_updL (al 7) ((6 * x + y).toNatClampNeg) z else (al 7)))) A) 0 0 A := by
  refine am_startM (cc := cX5_change) (maxL := 5) (ret := (some .boolean)) (by decide) rfl (Nat.le_of_ble_eq_true rfl) [(0, .ref (ad 0)), (1, .int x), (2, .int y), (3, .long z)] rfl ?_
  intro p e s m below meth c ls hx hb hr hml hown hts hlocks hK hN hD H locs hP hS hl
  have hown : s.vm.findClass RX5 = some m.cls := hown
  have ht := am_ht hts
  have hin_X5 : ∀ w ∈ u_ws RX5 TX5 31, w ∈ wsX5_change := fun w h => List.mem_cons_of_mem _ (am_inX5 w h)
  have hf_30 := ht 437 (.fieldLink RX5 30 "ApartCostModel" "changes" "[J") rfl
  have hf_97 := ht 449 (.fieldLink RX5 97 "ApartCostModel" "isFresh" "Z") rfl
  refine lv_iload_n hx hb dX5_change_0 rfl (lv_at hl 1 rfl) ?_
  refine am_callRi (W.runS (As := [.int x]) (rest := []) ⟨hx, hb, hml, hown, hts⟩ (c_X5_isKind l D _ _ x) (va_cwS 1 hts (am_gS (am_in 497 rfl) (am_in 498 rfl) (am_in 35 rfl) (am_in 499 rfl)) rfl rfl rfl (by decide +kernel) ⟨Nat.le_of_ble_eq_true rfl, Nat.le_of_ble_eq_true rfl⟩) (am_preSR hP hK hN) rfl rfl hl.1 rfl (lv_room (Nat.le_of_ble_eq_true rfl)) dX5_change_1 ⟨Nat.zero_le _, Nat.zero_le _⟩) ?_
  refine lv_if_eq (tgt := 26) hx hb dX5_change_4 (by decide) (fun c_4 => ?_) (fun c_4 => ?_)
  · skip
    have c_4 : (ac_isKind x) = 0 := c_4
    refine lv_iconst (v := 0) hx hb dX5_change_26 (by decide) ?_
    have hok : ¬ (rc_movOk x y z) := by first | rfl | (simp only [rc_movOk, c_4, if_true, if_false, eq_self, not_true_eq_false, not_false_eq_true, ite_true, ite_false, ↓reduceIte]; done) | (simp [rc_movOk, c_4]; done)
    exact am_zretM hx hb hr hlocks (Or.inl rfl) (by simp only [if_neg hok]; exact hP) hS (by rw [if_neg hok]; first | done | rfl) dX5_change_27
  · skip
    have c_4 : ¬ ((ac_isKind x) = 0) := c_4
    refine lv_iload_n hx hb dX5_change_7 rfl (lv_at hl 2 rfl) ?_
    refine am_callRi (W.runS (As := [.int y]) (rest := []) ⟨hx, hb, hml, hown, hts⟩ (c_X5_isKind l D _ _ y) (va_cwS 1 hts (am_gS (am_in 497 rfl) (am_in 498 rfl) (am_in 35 rfl) (am_in 499 rfl)) rfl rfl rfl (by decide +kernel) ⟨Nat.le_of_ble_eq_true rfl, Nat.le_of_ble_eq_true rfl⟩) (am_preSR hP hK hN) rfl rfl hl.1 rfl (lv_room (Nat.le_of_ble_eq_true rfl)) dX5_change_8 ⟨Nat.zero_le _, Nat.zero_le _⟩) ?_
    refine lv_if_eq (tgt := 26) hx hb dX5_change_11 (by decide) (fun c_11 => ?_) (fun c_11 => ?_)
    · skip
      have c_11 : (ac_isKind y) = 0 := c_11
      refine lv_iconst (v := 0) hx hb dX5_change_26 (by decide) ?_
      have hok : ¬ (rc_movOk x y z) := by first | rfl | (simp only [rc_movOk, c_4, c_11, if_true, if_false, eq_self, not_true_eq_false, not_false_eq_true, ite_true, ite_false, ↓reduceIte]; done) | (simp [rc_movOk, c_4, c_11]; done)
      exact am_zretM hx hb hr hlocks (Or.inl rfl) (by simp only [if_neg hok]; exact hP) hS (by rw [if_neg hok]; first | done | rfl) dX5_change_27
    · skip
      have c_11 : ¬ ((ac_isKind y) = 0) := c_11
      refine lv_iload_n hx hb dX5_change_14 rfl (lv_at hl 1 rfl) ?_
      refine lv_iload_n hx hb dX5_change_15 rfl (lv_at hl 2 rfl) ?_
      refine lv_icmp_eq (tgt := 26) hx hb dX5_change_16 (by decide) (fun c_16 => ?_) (fun c_16 => ?_)
      · skip
        have c_16 : x = y := c_16
        refine lv_iconst (v := 0) hx hb dX5_change_26 (by decide) ?_
        have hok : ¬ (rc_movOk x y z) := by first | rfl | (simp only [rc_movOk, c_4, c_11, c_16, if_true, if_false, eq_self, not_true_eq_false, not_false_eq_true, ite_true, ite_false, ↓reduceIte]; done) | (simp [rc_movOk, c_4, c_11, c_16]; done)
        exact am_zretM hx hb hr hlocks (Or.inl rfl) (by simp only [if_neg hok]; exact hP) hS (by rw [if_neg hok]; first | done | rfl) dX5_change_27
      · skip
        have c_16 : ¬ (x = y) := c_16
        refine lv_lload_n hx hb dX5_change_19 rfl (lv_at hl 3 rfl) ?_
        refine am_callRi (W.runS (As := [.long z]) (rest := []) ⟨hx, hb, hml, hown, hts⟩ (c_X5_isCents l D _ _ z) (va_cwS 1 hts (am_gS (am_in 500 rfl) (am_in 501 rfl) (am_in 35 rfl) (am_in 502 rfl)) rfl rfl rfl (by decide +kernel) ⟨Nat.le_of_ble_eq_true rfl, Nat.le_of_ble_eq_true rfl⟩) (am_preSR hP hK hN) rfl rfl hl.1 rfl (lv_room (Nat.le_of_ble_eq_true rfl)) dX5_change_20 ⟨Nat.zero_le _, Nat.zero_le _⟩) ?_
        refine lv_if_ne (tgt := 28) hx hb dX5_change_23 (by decide) (fun c_23 => ?_) (fun c_23 => ?_)
        · skip
          have c_23 : ¬ (ac_isPrice z) = 0 := c_23
          refine lv_aload_n hx hb dX5_change_28 rfl (lv_at hl 0 rfl) ?_
          refine va_get (D := D) (ci := 5) (v := .ref (ad 7)) (C := RX5) (T := TX5) (N := 31) hx hb hts hin_X5 hown hK hP 0 rfl rfl 7 (by decide) hf_30 (fun _ h9 => h9) rfl dX5_change_29 ?_
          refine lv_bipush (v := 6) hx hb dX5_change_32 (by decide) ?_
          refine lv_iload_n hx hb dX5_change_34 rfl (lv_at hl 1 rfl) ?_
          refine lv_imul hx hb dX5_change_35 ?_
          refine lv_iload_n hx hb dX5_change_36 rfl (lv_at hl 2 rfl) ?_
          refine lv_iadd hx hb dX5_change_37 ?_
          refine lv_lload_n hx hb dX5_change_38 rfl (lv_at hl 3 rfl) ?_
          refine am_last hx hb hK hP hD hS 7 1 rfl rfl ((6 * x + y).toNatClampNeg) (am_jx6 (am_isKind c_4) (am_isKind c_11)).1 (am_jx6 (am_isKind c_4) (am_isKind c_11)).2 (by decide) (rm_w ad cI cL cZ fi fl ai (va_up al 7 (vp_updL (al 7) ((6 * x + y).toNatClampNeg) z))) rfl dX5_change_39 (fun H locs hP hD hS => ?_)
          refine lv_aload_n hx hb dX5_change_40 rfl (lv_at hl 0 rfl) ?_
          refine lv_iconst (v := 0) hx hb dX5_change_41 (by decide) ?_
          refine va_put (D := D) (ci := 5) (v := .int 0) (ty := .boolean) (C := RX5) (T := TX5) (N := 31) hx hb hts hin_X5 tyX5 tyX5_ok nmX5 hown hK hP hD hS 0 rfl rfl 19 (by decide) hf_97 (fun _ h9 => h9) rfl (by decide +kernel) rfl rfl (Nat.le_of_ble_eq_true rfl) dX5_change_42 (fun H locs hP hD hS => ?_)
          have hP : va_P D vwCl (rm_w ad cI cL cZ (upd fi 3 0) fl ai (va_up al 7 (vp_updL (al 7) ((6 * x + y).toNatClampNeg) z))) H := hP
          have hD : va_D A (rm_w ad cI cL cZ (upd fi 3 0) fl ai (va_up al 7 (vp_updL (al 7) ((6 * x + y).toNatClampNeg) z))) := am_D hD rfl
          refine lv_iconst (v := 1) hx hb dX5_change_45 (by decide) ?_
          have hok : rc_movOk x y z := by first | rfl | (simp only [rc_movOk, c_4, c_11, c_16, c_23, if_true, if_false, eq_self, not_true_eq_false, not_false_eq_true, ite_true, ite_false, ↓reduceIte]; done) | (simp [rc_movOk, c_4, c_11, c_16, c_23]; done)
          exact am_zretM hx hb hr hlocks (Or.inr rfl) (by simp only [if_pos hok]; exact hP) hS (by rw [if_pos hok]; first | done | rfl) dX5_change_46
        · skip
          have c_23 : (ac_isPrice z) = 0 := c_23
          refine lv_iconst (v := 0) hx hb dX5_change_26 (by decide) ?_
          have hok : ¬ (rc_movOk x y z) := by first | rfl | (simp only [rc_movOk, c_4, c_11, c_16, c_23, if_true, if_false, eq_self, not_true_eq_false, not_false_eq_true, ite_true, ite_false, ↓reduceIte]; done) | (simp [rc_movOk, c_4, c_11, c_16, c_23]; done)
          exact am_zretM hx hb hr hlocks (Or.inl rfl) (by simp only [if_neg hok]; exact hP) hS (by rw [if_neg hok]; first | done | rfl) dX5_change_27

set_option maxHeartbeats 4000000 in
set_option maxRecDepth 100000 in
theorem c_X5_turn (l : Launch) (D : va_G) (ad : Nat → Nat) (cI cL cZ : ClassId) (fi : Nat → Int32) (fl : Nat → Int64) (ai : Nat → Nat → Int32) (al : Nat → Nat → Int64) (A : Nat → Prop) (x : Int32) (y : Int32) (z : Int64) : Met l yX5_turn wsX5_turn (am_rm 1 21) (va_Pc [.ref (ad 0), .int x, .int y, .long z] (am_M nwL vwCl D A (rm_w ad cI cL cZ fi fl ai al) [(cI, .int), (cL, .long), (cZ, .boolean)])) (am_Mi vwCl D (if rc_movOk x y z then 1 else 0) (rm_w ad cI cL cZ (upd fi 3 (if rc_movOk x y z then 0 else (fi 3))) fl ai (va_up al 8 (if rc_movOk x y z then vp_updL (al 8) ((6 * x + y).toNatClampNeg) z else (al 8)))) A) 0 0 A := by
  refine am_startM (cc := cX5_turn) (maxL := 5) (ret := (some .boolean)) (by decide) rfl (Nat.le_of_ble_eq_true rfl) [(0, .ref (ad 0)), (1, .int x), (2, .int y), (3, .long z)] rfl ?_
  intro p e s m below meth c ls hx hb hr hml hown hts hlocks hK hN hD H locs hP hS hl
  have hown : s.vm.findClass RX5 = some m.cls := hown
  have ht := am_ht hts
  have hin_X5 : ∀ w ∈ u_ws RX5 TX5 31, w ∈ wsX5_turn := fun w h => List.mem_cons_of_mem _ (am_inX5 w h)
  have hf_33 := ht 438 (.fieldLink RX5 33 "ApartCostModel" "turns" "[J") rfl
  have hf_97 := ht 449 (.fieldLink RX5 97 "ApartCostModel" "isFresh" "Z") rfl
  refine lv_iload_n hx hb dX5_turn_0 rfl (lv_at hl 1 rfl) ?_
  refine am_callRi (W.runS (As := [.int x]) (rest := []) ⟨hx, hb, hml, hown, hts⟩ (c_X5_isKind l D _ _ x) (va_cwS 1 hts (am_gS (am_in 497 rfl) (am_in 498 rfl) (am_in 35 rfl) (am_in 499 rfl)) rfl rfl rfl (by decide +kernel) ⟨Nat.le_of_ble_eq_true rfl, Nat.le_of_ble_eq_true rfl⟩) (am_preSR hP hK hN) rfl rfl hl.1 rfl (lv_room (Nat.le_of_ble_eq_true rfl)) dX5_turn_1 ⟨Nat.zero_le _, Nat.zero_le _⟩) ?_
  refine lv_if_eq (tgt := 26) hx hb dX5_turn_4 (by decide) (fun c_4 => ?_) (fun c_4 => ?_)
  · skip
    have c_4 : (ac_isKind x) = 0 := c_4
    refine lv_iconst (v := 0) hx hb dX5_turn_26 (by decide) ?_
    have hok : ¬ (rc_movOk x y z) := by first | rfl | (simp only [rc_movOk, c_4, if_true, if_false, eq_self, not_true_eq_false, not_false_eq_true, ite_true, ite_false, ↓reduceIte]; done) | (simp [rc_movOk, c_4]; done)
    exact am_zretM hx hb hr hlocks (Or.inl rfl) (by simp only [if_neg hok]; exact hP) hS (by rw [if_neg hok]; first | done | rfl) dX5_turn_27
  · skip
    have c_4 : ¬ ((ac_isKind x) = 0) := c_4
    refine lv_iload_n hx hb dX5_turn_7 rfl (lv_at hl 2 rfl) ?_
    refine am_callRi (W.runS (As := [.int y]) (rest := []) ⟨hx, hb, hml, hown, hts⟩ (c_X5_isKind l D _ _ y) (va_cwS 1 hts (am_gS (am_in 497 rfl) (am_in 498 rfl) (am_in 35 rfl) (am_in 499 rfl)) rfl rfl rfl (by decide +kernel) ⟨Nat.le_of_ble_eq_true rfl, Nat.le_of_ble_eq_true rfl⟩) (am_preSR hP hK hN) rfl rfl hl.1 rfl (lv_room (Nat.le_of_ble_eq_true rfl)) dX5_turn_8 ⟨Nat.zero_le _, Nat.zero_le _⟩) ?_
    refine lv_if_eq (tgt := 26) hx hb dX5_turn_11 (by decide) (fun c_11 => ?_) (fun c_11 => ?_)
    · skip
      have c_11 : (ac_isKind y) = 0 := c_11
      refine lv_iconst (v := 0) hx hb dX5_turn_26 (by decide) ?_
      have hok : ¬ (rc_movOk x y z) := by first | rfl | (simp only [rc_movOk, c_4, c_11, if_true, if_false, eq_self, not_true_eq_false, not_false_eq_true, ite_true, ite_false, ↓reduceIte]; done) | (simp [rc_movOk, c_4, c_11]; done)
      exact am_zretM hx hb hr hlocks (Or.inl rfl) (by simp only [if_neg hok]; exact hP) hS (by rw [if_neg hok]; first | done | rfl) dX5_turn_27
    · skip
      have c_11 : ¬ ((ac_isKind y) = 0) := c_11
      refine lv_iload_n hx hb dX5_turn_14 rfl (lv_at hl 1 rfl) ?_
      refine lv_iload_n hx hb dX5_turn_15 rfl (lv_at hl 2 rfl) ?_
      refine lv_icmp_eq (tgt := 26) hx hb dX5_turn_16 (by decide) (fun c_16 => ?_) (fun c_16 => ?_)
      · skip
        have c_16 : x = y := c_16
        refine lv_iconst (v := 0) hx hb dX5_turn_26 (by decide) ?_
        have hok : ¬ (rc_movOk x y z) := by first | rfl | (simp only [rc_movOk, c_4, c_11, c_16, if_true, if_false, eq_self, not_true_eq_false, not_false_eq_true, ite_true, ite_false, ↓reduceIte]; done) | (simp [rc_movOk, c_4, c_11, c_16]; done)
        exact am_zretM hx hb hr hlocks (Or.inl rfl) (by simp only [if_neg hok]; exact hP) hS (by rw [if_neg hok]; first | done | rfl) dX5_turn_27
      · skip
        have c_16 : ¬ (x = y) := c_16
        refine lv_lload_n hx hb dX5_turn_19 rfl (lv_at hl 3 rfl) ?_
        refine am_callRi (W.runS (As := [.long z]) (rest := []) ⟨hx, hb, hml, hown, hts⟩ (c_X5_isCents l D _ _ z) (va_cwS 1 hts (am_gS (am_in 500 rfl) (am_in 501 rfl) (am_in 35 rfl) (am_in 502 rfl)) rfl rfl rfl (by decide +kernel) ⟨Nat.le_of_ble_eq_true rfl, Nat.le_of_ble_eq_true rfl⟩) (am_preSR hP hK hN) rfl rfl hl.1 rfl (lv_room (Nat.le_of_ble_eq_true rfl)) dX5_turn_20 ⟨Nat.zero_le _, Nat.zero_le _⟩) ?_
        refine lv_if_ne (tgt := 28) hx hb dX5_turn_23 (by decide) (fun c_23 => ?_) (fun c_23 => ?_)
        · skip
          have c_23 : ¬ (ac_isPrice z) = 0 := c_23
          refine lv_aload_n hx hb dX5_turn_28 rfl (lv_at hl 0 rfl) ?_
          refine va_get (D := D) (ci := 5) (v := .ref (ad 8)) (C := RX5) (T := TX5) (N := 31) hx hb hts hin_X5 hown hK hP 0 rfl rfl 8 (by decide) hf_33 (fun _ h9 => h9) rfl dX5_turn_29 ?_
          refine lv_bipush (v := 6) hx hb dX5_turn_32 (by decide) ?_
          refine lv_iload_n hx hb dX5_turn_34 rfl (lv_at hl 1 rfl) ?_
          refine lv_imul hx hb dX5_turn_35 ?_
          refine lv_iload_n hx hb dX5_turn_36 rfl (lv_at hl 2 rfl) ?_
          refine lv_iadd hx hb dX5_turn_37 ?_
          refine lv_lload_n hx hb dX5_turn_38 rfl (lv_at hl 3 rfl) ?_
          refine am_last hx hb hK hP hD hS 8 1 rfl rfl ((6 * x + y).toNatClampNeg) (am_jx6 (am_isKind c_4) (am_isKind c_11)).1 (am_jx6 (am_isKind c_4) (am_isKind c_11)).2 (by decide) (rm_w ad cI cL cZ fi fl ai (va_up al 8 (vp_updL (al 8) ((6 * x + y).toNatClampNeg) z))) rfl dX5_turn_39 (fun H locs hP hD hS => ?_)
          refine lv_aload_n hx hb dX5_turn_40 rfl (lv_at hl 0 rfl) ?_
          refine lv_iconst (v := 0) hx hb dX5_turn_41 (by decide) ?_
          refine va_put (D := D) (ci := 5) (v := .int 0) (ty := .boolean) (C := RX5) (T := TX5) (N := 31) hx hb hts hin_X5 tyX5 tyX5_ok nmX5 hown hK hP hD hS 0 rfl rfl 19 (by decide) hf_97 (fun _ h9 => h9) rfl (by decide +kernel) rfl rfl (Nat.le_of_ble_eq_true rfl) dX5_turn_42 (fun H locs hP hD hS => ?_)
          have hP : va_P D vwCl (rm_w ad cI cL cZ (upd fi 3 0) fl ai (va_up al 8 (vp_updL (al 8) ((6 * x + y).toNatClampNeg) z))) H := hP
          have hD : va_D A (rm_w ad cI cL cZ (upd fi 3 0) fl ai (va_up al 8 (vp_updL (al 8) ((6 * x + y).toNatClampNeg) z))) := am_D hD rfl
          refine lv_iconst (v := 1) hx hb dX5_turn_45 (by decide) ?_
          have hok : rc_movOk x y z := by first | rfl | (simp only [rc_movOk, c_4, c_11, c_16, c_23, if_true, if_false, eq_self, not_true_eq_false, not_false_eq_true, ite_true, ite_false, ↓reduceIte]; done) | (simp [rc_movOk, c_4, c_11, c_16, c_23]; done)
          exact am_zretM hx hb hr hlocks (Or.inr rfl) (by simp only [if_pos hok]; exact hP) hS (by rw [if_pos hok]; first | done | rfl) dX5_turn_46
        · skip
          have c_23 : (ac_isPrice z) = 0 := c_23
          refine lv_iconst (v := 0) hx hb dX5_turn_26 (by decide) ?_
          have hok : ¬ (rc_movOk x y z) := by first | rfl | (simp only [rc_movOk, c_4, c_11, c_16, c_23, if_true, if_false, eq_self, not_true_eq_false, not_false_eq_true, ite_true, ite_false, ↓reduceIte]; done) | (simp [rc_movOk, c_4, c_11, c_16, c_23]; done)
          exact am_zretM hx hb hr hlocks (Or.inl rfl) (by simp only [if_neg hok]; exact hP) hS (by rw [if_neg hok]; first | done | rfl) dX5_turn_27

set_option maxHeartbeats 4000000 in
set_option maxRecDepth 100000 in
theorem c_X5_worth (l : Launch) (D : va_G) (ad : Nat → Nat) (cI cL cZ : ClassId) (fi : Nat → Int32) (fl : Nat → Int64) (ai : Nat → Nat → Int32) (al : Nat → Nat → Int64) (A : Nat → Prop) (x : Int32) (z : Int64) : Met l yX5_worth wsX5_worth (am_rm 1 21) (va_Pc [.ref (ad 0), .int x, .long z] (am_M nwL vwCl D A (rm_w ad cI cL cZ fi fl ai al) [(cI, .int), (cL, .long), (cZ, .boolean)])) (am_Mi vwCl D (if ac_worOk x z then 1 else 0) (rm_w ad cI cL cZ (upd fi 3 (if ac_worOk x z then 0 else (fi 3))) fl ai (va_up al 9 (if ac_worOk x z then vp_updL (al 9) x.toNatClampNeg z else (al 9)))) A) 0 0 A := by
  refine am_startM (cc := cX5_worth) (maxL := 4) (ret := (some .boolean)) (by decide) rfl (Nat.le_of_ble_eq_true rfl) [(0, .ref (ad 0)), (1, .int x), (2, .long z)] rfl ?_
  intro p e s m below meth c ls hx hb hr hml hown hts hlocks hK hN hD H locs hP hS hl
  have hown : s.vm.findClass RX5 = some m.cls := hown
  have ht := am_ht hts
  have hin_X5 : ∀ w ∈ u_ws RX5 TX5 31, w ∈ wsX5_worth := fun w h => List.mem_cons_of_mem _ (am_inX5 w h)
  have hf_36 := ht 439 (.fieldLink RX5 36 "ApartCostModel" "worths" "[J") rfl
  have hf_97 := ht 449 (.fieldLink RX5 97 "ApartCostModel" "isFresh" "Z") rfl
  refine lv_iload_n hx hb dX5_worth_0 rfl (lv_at hl 1 rfl) ?_
  refine am_callRi (W.runS (As := [.int x]) (rest := []) ⟨hx, hb, hml, hown, hts⟩ (c_X5_isPart l D _ _ x) (va_cwS 1 hts (am_gS (am_in 526 rfl) (am_in 527 rfl) (am_in 35 rfl) (am_in 528 rfl)) rfl rfl rfl (by decide +kernel) ⟨Nat.le_of_ble_eq_true rfl, Nat.le_of_ble_eq_true rfl⟩) (am_preSR hP hK hN) rfl rfl hl.1 rfl (lv_room (Nat.le_of_ble_eq_true rfl)) dX5_worth_1 ⟨Nat.zero_le _, Nat.zero_le _⟩) ?_
  refine lv_if_eq (tgt := 14) hx hb dX5_worth_4 (by decide) (fun c_4 => ?_) (fun c_4 => ?_)
  · skip
    have c_4 : (ac_isPart x) = 0 := c_4
    refine lv_iconst (v := 0) hx hb dX5_worth_14 (by decide) ?_
    have hok : ¬ (ac_worOk x z) := by first | rfl | (simp only [ac_worOk, c_4, if_true, if_false, eq_self, not_true_eq_false, not_false_eq_true, ite_true, ite_false, ↓reduceIte]; done) | (simp [ac_worOk, c_4]; done)
    exact am_zretM hx hb hr hlocks (Or.inl rfl) (by simp only [if_neg hok]; exact hP) hS (by rw [if_neg hok]; first | done | rfl) dX5_worth_15
  · skip
    have c_4 : ¬ ((ac_isPart x) = 0) := c_4
    obtain ⟨a, hq_a, ea⟩ : ∃ z, z < 12 ∧ x = nI z := am_isPart c_4
    have nn_a : x.toNatClampNeg = a := by rw [ea]; exact nI_clamp (by omega)
    have mm_a : (nI a).toNatClampNeg = a := nI_clamp (by omega)
    refine lv_lload_n hx hb dX5_worth_7 rfl (lv_at hl 2 rfl) ?_
    refine am_callRi (W.runS (As := [.long z]) (rest := []) ⟨hx, hb, hml, hown, hts⟩ (c_X5_isWorth l D _ _ z) (va_cwS 1 hts (am_gS (am_in 529 rfl) (am_in 530 rfl) (am_in 35 rfl) (am_in 531 rfl)) rfl rfl rfl (by decide +kernel) ⟨Nat.le_of_ble_eq_true rfl, Nat.le_of_ble_eq_true rfl⟩) (am_preSR hP hK hN) rfl rfl hl.1 rfl (lv_room (Nat.le_of_ble_eq_true rfl)) dX5_worth_8 ⟨Nat.zero_le _, Nat.zero_le _⟩) ?_
    refine lv_if_ne (tgt := 16) hx hb dX5_worth_11 (by decide) (fun c_11 => ?_) (fun c_11 => ?_)
    · skip
      have c_11 : ¬ (ac_isWorth z) = 0 := c_11
      refine lv_aload_n hx hb dX5_worth_16 rfl (lv_at hl 0 rfl) ?_
      refine va_get (D := D) (ci := 5) (v := .ref (ad 9)) (C := RX5) (T := TX5) (N := 31) hx hb hts hin_X5 hown hK hP 0 rfl rfl 9 (by decide) hf_36 (fun _ h9 => h9) rfl dX5_worth_17 ?_
      refine lv_iload_n hx hb dX5_worth_20 rfl (lv_at hl 1 rfl) ?_
      refine lv_lload_n hx hb dX5_worth_21 rfl (lv_at hl 2 rfl) ?_
      refine am_last hx hb hK hP hD hS 9 1 rfl rfl a ea (by omega) (by decide) (rm_w ad cI cL cZ fi fl ai (va_up al 9 (vp_updL (al 9) a z))) rfl dX5_worth_22 (fun H locs hP hD hS => ?_)
      refine lv_aload_n hx hb dX5_worth_23 rfl (lv_at hl 0 rfl) ?_
      refine lv_iconst (v := 0) hx hb dX5_worth_24 (by decide) ?_
      refine va_put (D := D) (ci := 5) (v := .int 0) (ty := .boolean) (C := RX5) (T := TX5) (N := 31) hx hb hts hin_X5 tyX5 tyX5_ok nmX5 hown hK hP hD hS 0 rfl rfl 19 (by decide) hf_97 (fun _ h9 => h9) rfl (by decide +kernel) rfl rfl (Nat.le_of_ble_eq_true rfl) dX5_worth_25 (fun H locs hP hD hS => ?_)
      have hP : va_P D vwCl (rm_w ad cI cL cZ (upd fi 3 0) fl ai (va_up al 9 (vp_updL (al 9) a z))) H := hP
      have hD : va_D A (rm_w ad cI cL cZ (upd fi 3 0) fl ai (va_up al 9 (vp_updL (al 9) a z))) := am_D hD rfl
      refine lv_iconst (v := 1) hx hb dX5_worth_28 (by decide) ?_
      have hok : ac_worOk x z := by first | rfl | (simp only [ac_worOk, c_4, c_11, nn_a, if_true, if_false, eq_self, not_true_eq_false, not_false_eq_true, ite_true, ite_false, ↓reduceIte]; done) | (simp [ac_worOk, c_4, c_11, nn_a]; done)
      exact am_zretM hx hb hr hlocks (Or.inr rfl) (by simp only [if_pos hok, nn_a]; exact hP) hS (by rw [if_pos hok]; first | done | rfl) dX5_worth_29
    · skip
      have c_11 : (ac_isWorth z) = 0 := c_11
      refine lv_iconst (v := 0) hx hb dX5_worth_14 (by decide) ?_
      have hok : ¬ (ac_worOk x z) := by first | rfl | (simp only [ac_worOk, c_4, c_11, nn_a, if_true, if_false, eq_self, not_true_eq_false, not_false_eq_true, ite_true, ite_false, ↓reduceIte]; done) | (simp [ac_worOk, c_4, c_11, nn_a]; done)
      exact am_zretM hx hb hr hlocks (Or.inl rfl) (by simp only [if_neg hok]; exact hP) hS (by rw [if_neg hok]; first | done | rfl) dX5_worth_15

set_option maxHeartbeats 4000000 in
set_option maxRecDepth 100000 in
theorem c_X5_rest (l : Launch) (D : va_G) (ad : Nat → Nat) (cI cL cZ : ClassId) (fi : Nat → Int32) (fl : Nat → Int64) (ai : Nat → Nat → Int32) (al : Nat → Nat → Int64) (A : Nat → Prop) (v : Int64) (z : Int64) (nr : Nat) (hnr : fi 1 = nI nr) (hnrl : nr ≤ 16) : Met l yX5_rest wsX5_rest (am_rm 1 21) (va_Pc [.ref (ad 0), .long v, .long z] (am_M nwL vwCl D A (rm_w ad cI cL cZ fi fl ai al) [(cI, .int), (cL, .long), (cZ, .boolean)])) (am_Mi vwCl D (if rc_rstOk v z (rc_pl (ai 12) v nr 0) then 1 else 0) (rm_w ad cI cL cZ (upd (upd fi 1 (if rc_rstOk v z (rc_pl (ai 12) v nr 0) then if rc_pl (ai 12) v nr 0 = nr then (fi 1) + 1 else (fi 1) else (fi 1))) 3 (if rc_rstOk v z (rc_pl (ai 12) v nr 0) then 0 else (fi 3))) fl (va_up ai 12 (if rc_rstOk v z (rc_pl (ai 12) v nr 0) then upd (ai 12) (rc_pl (ai 12) v nr 0) v.toInt32 else (ai 12))) (va_up al 13 (if rc_rstOk v z (rc_pl (ai 12) v nr 0) then vp_updL (al 13) (rc_pl (ai 12) v nr 0) z else (al 13)))) A) 0 0 A := by
  refine am_startM (cc := cX5_rest) (maxL := 6) (ret := (some .boolean)) (by decide) rfl (Nat.le_of_ble_eq_true rfl) [(0, .ref (ad 0)), (1, .long v), (3, .long z)] rfl ?_
  intro p e s m below meth c ls hx hb hr hml hown hts hlocks hK hN hD H locs hP hS hl
  have hown : s.vm.findClass RX5 = some m.cls := hown
  have ht := am_ht hts
  have hin_X5 : ∀ w ∈ u_ws RX5 TX5 31, w ∈ wsX5_rest := fun w h => List.mem_cons_of_mem _ (am_inX5 w h)
  have hf_116 := ht 444 (.fieldLink RX5 116 "ApartCostModel" "restCount" "I") rfl
  have hf_45 := ht 442 (.fieldLink RX5 45 "ApartCostModel" "rests" "[I") rfl
  have hf_48 := ht 443 (.fieldLink RX5 48 "ApartCostModel" "restWorths" "[J") rfl
  have hf_97 := ht 449 (.fieldLink RX5 97 "ApartCostModel" "isFresh" "Z") rfl
  refine lv_lload_n hx hb dX5_rest_0 rfl (lv_at hl 1 rfl) ?_
  refine lv_lconst (v := 0) hx hb dX5_rest_1 (by decide) ?_
  refine W.lcmp hx hb dX5_rest_2 ?_
  refine lv_if_lt (tgt := 21) hx hb dX5_rest_3 (by decide) (fun c_3 => ?_) (fun c_3 => ?_)
  · skip
    have c_3 : v < 0 := (lg_cmp_lt _ _).mp c_3
    refine lv_iconst (v := 0) hx hb dX5_rest_21 (by decide) ?_
    have hok : ¬ (rc_rstOk v z (rc_pl (ai 12) v nr 0)) := by first | rfl | (simp only [rc_rstOk, c_3, if_true, if_false, eq_self, not_true_eq_false, not_false_eq_true, ite_true, ite_false, ↓reduceIte]; done) | (simp [rc_rstOk, c_3]; done)
    exact am_zretM hx hb hr hlocks (Or.inl rfl) (by simp only [if_neg hok]; exact hP) hS (by rw [if_neg hok]; first | done | rfl) dX5_rest_22
  · skip
    have c_3 : ¬ (v < 0) := (fun z => c_3 ((lg_cmp_lt _ _).mpr z))
    refine lv_lload_n hx hb dX5_rest_6 rfl (lv_at hl 1 rfl) ?_
    refine lv_ldc2 (v := 4095) hx hb hown (ht 537 _ rfl) dX5_rest_7 ?_
    refine W.lcmp hx hb dX5_rest_10 ?_
    refine lv_if_gt (tgt := 21) hx hb dX5_rest_11 (by decide) (fun c_11 => ?_) (fun c_11 => ?_)
    · skip
      have c_11 : 4095 < v := (lg_cmp_gt _ _).mp c_11
      refine lv_iconst (v := 0) hx hb dX5_rest_21 (by decide) ?_
      have hok : ¬ (rc_rstOk v z (rc_pl (ai 12) v nr 0)) := by first | rfl | (simp only [rc_rstOk, c_3, c_11, if_true, if_false, eq_self, not_true_eq_false, not_false_eq_true, ite_true, ite_false, ↓reduceIte]; done) | (simp [rc_rstOk, c_3, c_11]; done)
      exact am_zretM hx hb hr hlocks (Or.inl rfl) (by simp only [if_neg hok]; exact hP) hS (by rw [if_neg hok]; first | done | rfl) dX5_rest_22
    · skip
      have c_11 : ¬ (4095 < v) := (fun z => c_11 ((lg_cmp_gt _ _).mpr z))
      refine lv_lload_n hx hb dX5_rest_14 rfl (lv_at hl 2 rfl) ?_
      refine am_callRi (W.runS (As := [.long z]) (rest := []) ⟨hx, hb, hml, hown, hts⟩ (c_X5_isWorth l D _ _ z) (va_cwS 1 hts (am_gS (am_in 529 rfl) (am_in 530 rfl) (am_in 35 rfl) (am_in 531 rfl)) rfl rfl rfl (by decide +kernel) ⟨Nat.le_of_ble_eq_true rfl, Nat.le_of_ble_eq_true rfl⟩) (am_preSR hP hK hN) rfl rfl hl.1 rfl (lv_room (Nat.le_of_ble_eq_true rfl)) dX5_rest_15 ⟨Nat.zero_le _, Nat.zero_le _⟩) ?_
      refine lv_if_ne (tgt := 23) hx hb dX5_rest_18 (by decide) (fun c_18 => ?_) (fun c_18 => ?_)
      · skip
        have c_18 : ¬ (ac_isWorth z) = 0 := c_18
        refine lv_iconst (v := 0) hx hb dX5_rest_23 (by decide) ?_
        refine lv_istore (lv' := [(5, .int 0), (0, .ref (ad 0)), (1, .long v), (3, .long z)]) hx hb dX5_rest_24 hl (by decide) rfl (fun ls hl => ?_)
        refine am_loop (σ := Nat) (fun q n9 H locs ls => n9 = nr - q ∧ q ≤ nr ∧ rc_pl (ai 12) v nr 0 = rc_pl (ai 12) v (nr - q) q ∧ va_P D vwCl (rm_w ad cI cL cZ fi fl ai al) H ∧ va_S A s.heap H locs ∧ lv_has ls 6 [(0, .ref (ad 0)), (1, .long v), (3, .long z), (5, .int (nI q))]) ?_ 0 (nr - 0) H locs ls ⟨rfl, (by omega), rfl, hP, hS, lv_sub hl [1, 2, 3, 0] rfl⟩
        rintro k n9 H locs ls ⟨hn_26, hk, hm, hP, hS, hl⟩ ih_26
        have hD : va_D A (rm_w ad cI cL cZ fi fl ai al) := am_D hD rfl
        refine lv_iload hx hb dX5_rest_26 (lv_at hl 3 rfl) ?_
        refine lv_aload_n hx hb dX5_rest_28 rfl (lv_at hl 0 rfl) ?_
        refine va_get (D := D) (ci := 5) (v := .int (fi 1)) (C := RX5) (T := TX5) (N := 31) hx hb hts hin_X5 hown hK hP 0 rfl rfl 14 (by decide) hf_116 (fun _ h9 => h9) rfl dX5_rest_29 ?_
        refine lv_icmp_ge (tgt := 54) hx hb dX5_rest_32 (by decide) (fun c_32 => ?_) (fun c_32 => ?_)
        · skip
          have c_32 : (fi 1) ≤ (nI k) := c_32
          have hke : nr ≤ k := (am_ge hnr (by omega) (by omega)).mp c_32
          have hpk : rc_pl (ai 12) v nr 0 = k := by rw [hm, show nr - k = 0 by omega, rc_pl]
          subst hpk
          have hpb := (rc_pl_le (ai 12) v nr 0).2
          refine lv_iload hx hb dX5_rest_54 (lv_at hl 3 rfl) ?_
          refine lv_bipush (v := 16) hx hb dX5_rest_56 (by decide) ?_
          refine lv_icmp_ne (tgt := 63) hx hb dX5_rest_58 (by decide) (fun c_58 => ?_) (fun c_58 => ?_)
          · skip
            have c_58 : ¬ (nI (rc_pl (ai 12) v nr 0)) = 16 := c_58
            have hp16 : ¬ rc_pl (ai 12) v nr 0 = 16 := fun z => c_58 (by rw [z]; rfl)
            refine lv_aload_n hx hb dX5_rest_63 rfl (lv_at hl 0 rfl) ?_
            refine va_get (D := D) (ci := 5) (v := .ref (ad 12)) (C := RX5) (T := TX5) (N := 31) hx hb hts hin_X5 hown hK hP 0 rfl rfl 12 (by decide) hf_45 (fun _ h9 => h9) rfl dX5_rest_64 ?_
            refine lv_iload hx hb dX5_rest_67 (lv_at hl 3 rfl) ?_
            refine lv_lload_n hx hb dX5_rest_69 rfl (lv_at hl 1 rfl) ?_
            refine lv_l2i (v := v.toInt32) hx hb dX5_rest_70 rfl ?_
            refine am_iast hx hb hK hP hD hS 12 0 rfl rfl (rc_pl (ai 12) v nr 0) rfl (by omega) (by decide) (rm_w ad cI cL cZ fi fl (va_up ai 12 (upd (ai 12) (rc_pl (ai 12) v nr 0) v.toInt32)) al) rfl dX5_rest_71 (fun H locs hP hD hS => ?_)
            refine lv_aload_n hx hb dX5_rest_72 rfl (lv_at hl 0 rfl) ?_
            refine va_get (D := D) (ci := 5) (v := .ref (ad 13)) (C := RX5) (T := TX5) (N := 31) hx hb hts hin_X5 hown hK hP 0 rfl rfl 13 (by decide) hf_48 (fun _ h9 => h9) rfl dX5_rest_73 ?_
            refine lv_iload hx hb dX5_rest_76 (lv_at hl 3 rfl) ?_
            refine lv_lload_n hx hb dX5_rest_78 rfl (lv_at hl 2 rfl) ?_
            refine am_last hx hb hK hP hD hS 13 1 rfl rfl (rc_pl (ai 12) v nr 0) rfl (by omega) (by decide) (rm_w ad cI cL cZ fi fl (va_up ai 12 (upd (ai 12) (rc_pl (ai 12) v nr 0) v.toInt32)) (va_up al 13 (vp_updL (al 13) (rc_pl (ai 12) v nr 0) z))) rfl dX5_rest_79 (fun H locs hP hD hS => ?_)
            refine lv_aload_n hx hb dX5_rest_80 rfl (lv_at hl 0 rfl) ?_
            refine lv_iload hx hb dX5_rest_81 (lv_at hl 3 rfl) ?_
            refine lv_aload_n hx hb dX5_rest_83 rfl (lv_at hl 0 rfl) ?_
            refine va_get (D := D) (ci := 5) (v := .int (fi 1)) (C := RX5) (T := TX5) (N := 31) hx hb hts hin_X5 hown hK hP 0 rfl rfl 14 (by decide) hf_116 (fun _ h9 => h9) rfl dX5_rest_84 ?_
            refine lv_icmp_ne (tgt := 99) hx hb dX5_rest_87 (by decide) (fun c_87 => ?_) (fun c_87 => ?_)
            · skip
              have c_87 : ¬ (nI (rc_pl (ai 12) v nr 0)) = (fi 1) := c_87
              have hpe : ¬ rc_pl (ai 12) v nr 0 = nr := fun z => c_87 (by rw [hnr, z])
              refine lv_aload_n hx hb dX5_rest_99 rfl (lv_at hl 0 rfl) ?_
              refine va_get (D := D) (ci := 5) (v := .int (fi 1)) (C := RX5) (T := TX5) (N := 31) hx hb hts hin_X5 hown hK hP 0 rfl rfl 14 (by decide) hf_116 (fun _ h9 => h9) rfl dX5_rest_100 ?_
              refine va_put (D := D) (ci := 5) (v := .int (fi 1)) (ty := .int) (C := RX5) (T := TX5) (N := 31) hx hb hts hin_X5 tyX5 tyX5_ok nmX5 hown hK hP hD hS 0 rfl rfl 14 (by decide) hf_116 (fun _ h9 => h9) rfl (by decide +kernel) rfl rfl (Nat.le_of_ble_eq_true rfl) dX5_rest_103 (fun H locs hP hD hS => ?_)
              have hP : va_P D vwCl (rm_w ad cI cL cZ (upd fi 1 (fi 1)) fl (va_up ai 12 (upd (ai 12) (rc_pl (ai 12) v nr 0) v.toInt32)) (va_up al 13 (vp_updL (al 13) (rc_pl (ai 12) v nr 0) z))) H := hP
              have hD : va_D A (rm_w ad cI cL cZ (upd fi 1 (fi 1)) fl (va_up ai 12 (upd (ai 12) (rc_pl (ai 12) v nr 0) v.toInt32)) (va_up al 13 (vp_updL (al 13) (rc_pl (ai 12) v nr 0) z))) := am_D hD rfl
              refine lv_aload_n hx hb dX5_rest_106 rfl (lv_at hl 0 rfl) ?_
              refine lv_iconst (v := 0) hx hb dX5_rest_107 (by decide) ?_
              refine va_put (D := D) (ci := 5) (v := .int 0) (ty := .boolean) (C := RX5) (T := TX5) (N := 31) hx hb hts hin_X5 tyX5 tyX5_ok nmX5 hown hK hP hD hS 0 rfl rfl 19 (by decide) hf_97 (fun _ h9 => h9) rfl (by decide +kernel) rfl rfl (Nat.le_of_ble_eq_true rfl) dX5_rest_108 (fun H locs hP hD hS => ?_)
              have hP : va_P D vwCl (rm_w ad cI cL cZ (upd (upd fi 1 (fi 1)) 3 0) fl (va_up ai 12 (upd (ai 12) (rc_pl (ai 12) v nr 0) v.toInt32)) (va_up al 13 (vp_updL (al 13) (rc_pl (ai 12) v nr 0) z))) H := hP
              have hD : va_D A (rm_w ad cI cL cZ (upd (upd fi 1 (fi 1)) 3 0) fl (va_up ai 12 (upd (ai 12) (rc_pl (ai 12) v nr 0) v.toInt32)) (va_up al 13 (vp_updL (al 13) (rc_pl (ai 12) v nr 0) z))) := am_D hD rfl
              refine lv_iconst (v := 1) hx hb dX5_rest_111 (by decide) ?_
              have hok : rc_rstOk v z (rc_pl (ai 12) v nr 0) := by first | rfl | (simp only [rc_rstOk, c_3, c_11, c_18, hp16, if_true, if_false, eq_self, not_true_eq_false, not_false_eq_true, ite_true, ite_false, ↓reduceIte]; done) | (simp [rc_rstOk, c_3, c_11, c_18, hp16]; done)
              exact am_zretM hx hb hr hlocks (Or.inr rfl) (by simp only [if_pos hok, if_neg hpe]; exact hP) hS (by rw [if_pos hok]; first | done | rfl) dX5_rest_112
            · skip
              have c_87 : (nI (rc_pl (ai 12) v nr 0)) = (fi 1) := c_87
              have hpe : rc_pl (ai 12) v nr 0 = nr := by have h := c_87; rw [hnr, nI_eq (by omega) (by omega)] at h; exact h
              refine lv_aload_n hx hb dX5_rest_90 rfl (lv_at hl 0 rfl) ?_
              refine va_get (D := D) (ci := 5) (v := .int (fi 1)) (C := RX5) (T := TX5) (N := 31) hx hb hts hin_X5 hown hK hP 0 rfl rfl 14 (by decide) hf_116 (fun _ h9 => h9) rfl dX5_rest_91 ?_
              refine lv_iconst (v := 1) hx hb dX5_rest_94 (by decide) ?_
              refine lv_iadd hx hb dX5_rest_95 ?_
              refine lv_goto (tgt := 103) hx hb dX5_rest_96 (by decide) ?_
              refine va_put (D := D) (ci := 5) (v := .int ((fi 1) + 1)) (ty := .int) (C := RX5) (T := TX5) (N := 31) hx hb hts hin_X5 tyX5 tyX5_ok nmX5 hown hK hP hD hS 0 rfl rfl 14 (by decide) hf_116 (fun _ h9 => h9) rfl (by decide +kernel) rfl rfl (Nat.le_of_ble_eq_true rfl) dX5_rest_103 (fun H locs hP hD hS => ?_)
              have hP : va_P D vwCl (rm_w ad cI cL cZ (upd fi 1 ((fi 1) + 1)) fl (va_up ai 12 (upd (ai 12) (rc_pl (ai 12) v nr 0) v.toInt32)) (va_up al 13 (vp_updL (al 13) (rc_pl (ai 12) v nr 0) z))) H := hP
              have hD : va_D A (rm_w ad cI cL cZ (upd fi 1 ((fi 1) + 1)) fl (va_up ai 12 (upd (ai 12) (rc_pl (ai 12) v nr 0) v.toInt32)) (va_up al 13 (vp_updL (al 13) (rc_pl (ai 12) v nr 0) z))) := am_D hD rfl
              refine lv_aload_n hx hb dX5_rest_106 rfl (lv_at hl 0 rfl) ?_
              refine lv_iconst (v := 0) hx hb dX5_rest_107 (by decide) ?_
              refine va_put (D := D) (ci := 5) (v := .int 0) (ty := .boolean) (C := RX5) (T := TX5) (N := 31) hx hb hts hin_X5 tyX5 tyX5_ok nmX5 hown hK hP hD hS 0 rfl rfl 19 (by decide) hf_97 (fun _ h9 => h9) rfl (by decide +kernel) rfl rfl (Nat.le_of_ble_eq_true rfl) dX5_rest_108 (fun H locs hP hD hS => ?_)
              have hP : va_P D vwCl (rm_w ad cI cL cZ (upd (upd fi 1 ((fi 1) + 1)) 3 0) fl (va_up ai 12 (upd (ai 12) (rc_pl (ai 12) v nr 0) v.toInt32)) (va_up al 13 (vp_updL (al 13) (rc_pl (ai 12) v nr 0) z))) H := hP
              have hD : va_D A (rm_w ad cI cL cZ (upd (upd fi 1 ((fi 1) + 1)) 3 0) fl (va_up ai 12 (upd (ai 12) (rc_pl (ai 12) v nr 0) v.toInt32)) (va_up al 13 (vp_updL (al 13) (rc_pl (ai 12) v nr 0) z))) := am_D hD rfl
              refine lv_iconst (v := 1) hx hb dX5_rest_111 (by decide) ?_
              have hok : rc_rstOk v z (rc_pl (ai 12) v nr 0) := by first | rfl | (simp only [rc_rstOk, c_3, c_11, c_18, hp16, if_true, if_false, eq_self, not_true_eq_false, not_false_eq_true, ite_true, ite_false, ↓reduceIte]; done) | (simp [rc_rstOk, c_3, c_11, c_18, hp16]; done)
              exact am_zretM hx hb hr hlocks (Or.inr rfl) (by simp only [if_pos hok, if_pos hpe]; exact hP) hS (by rw [if_pos hok]; first | done | rfl) dX5_rest_112
          · skip
            have c_58 : (nI (rc_pl (ai 12) v nr 0)) = 16 := c_58
            have hp16 : rc_pl (ai 12) v nr 0 = 16 := by have h := c_58; rw [show (16 : Int32) = nI 16 from rfl, nI_eq (by omega) (by omega)] at h; exact h
            refine lv_iconst (v := 0) hx hb dX5_rest_61 (by decide) ?_
            have hok : ¬ (rc_rstOk v z (rc_pl (ai 12) v nr 0)) := by first | rfl | (simp only [rc_rstOk, c_3, c_11, c_18, hp16, if_true, if_false, eq_self, not_true_eq_false, not_false_eq_true, ite_true, ite_false, ↓reduceIte]; done) | (simp [rc_rstOk, c_3, c_11, c_18, hp16]; done)
            exact am_zretM hx hb hr hlocks (Or.inl rfl) (by simp only [if_neg hok]; exact hP) hS (by rw [if_neg hok]; first | done | rfl) dX5_rest_62
        · skip
          have c_32 : ¬ ((fi 1) ≤ (nI k)) := c_32
          have hkl : k < nr := Nat.lt_of_not_le (fun z => c_32 ((am_ge hnr (by omega) (by omega)).mpr z))
          refine lv_aload_n hx hb dX5_rest_35 rfl (lv_at hl 0 rfl) ?_
          refine va_get (D := D) (ci := 5) (v := .ref (ad 12)) (C := RX5) (T := TX5) (N := 31) hx hb hts hin_X5 hown hK hP 0 rfl rfl 12 (by decide) hf_45 (fun _ h9 => h9) rfl dX5_rest_36 ?_
          refine lv_iload hx hb dX5_rest_39 (lv_at hl 3 rfl) ?_
          refine am_iald hx hb hK hP 12 0 rfl rfl k rfl (by omega) (by decide) dX5_rest_41 ?_
          refine lv_i2l (v := ((ai 12) k).toInt64) hx hb dX5_rest_42 rfl ?_
          refine lv_lload_n hx hb dX5_rest_43 rfl (lv_at hl 1 rfl) ?_
          refine W.lcmp hx hb dX5_rest_44 ?_
          refine lv_if_eq (tgt := 54) hx hb dX5_rest_45 (by decide) (fun c_45 => ?_) (fun c_45 => ?_)
          · skip
            have c_45 : (((ai 12) k).toInt64) = v := (lg_cmp_eq _ _).mp c_45
            have hpk : rc_pl (ai 12) v nr 0 = k := by rw [hm, show nr - k = (nr - (k + 1)) + 1 by omega, rc_pl, if_pos c_45]
            subst hpk
            have hpb := (rc_pl_le (ai 12) v nr 0).2
            refine lv_iload hx hb dX5_rest_54 (lv_at hl 3 rfl) ?_
            refine lv_bipush (v := 16) hx hb dX5_rest_56 (by decide) ?_
            refine lv_icmp_ne (tgt := 63) hx hb dX5_rest_58 (by decide) (fun c_58 => ?_) (fun c_58 => ?_)
            · skip
              have c_58 : ¬ (nI (rc_pl (ai 12) v nr 0)) = 16 := c_58
              have hp16 : ¬ rc_pl (ai 12) v nr 0 = 16 := fun z => c_58 (by rw [z]; rfl)
              refine lv_aload_n hx hb dX5_rest_63 rfl (lv_at hl 0 rfl) ?_
              refine va_get (D := D) (ci := 5) (v := .ref (ad 12)) (C := RX5) (T := TX5) (N := 31) hx hb hts hin_X5 hown hK hP 0 rfl rfl 12 (by decide) hf_45 (fun _ h9 => h9) rfl dX5_rest_64 ?_
              refine lv_iload hx hb dX5_rest_67 (lv_at hl 3 rfl) ?_
              refine lv_lload_n hx hb dX5_rest_69 rfl (lv_at hl 1 rfl) ?_
              refine lv_l2i (v := v.toInt32) hx hb dX5_rest_70 rfl ?_
              refine am_iast hx hb hK hP hD hS 12 0 rfl rfl (rc_pl (ai 12) v nr 0) rfl (by omega) (by decide) (rm_w ad cI cL cZ fi fl (va_up ai 12 (upd (ai 12) (rc_pl (ai 12) v nr 0) v.toInt32)) al) rfl dX5_rest_71 (fun H locs hP hD hS => ?_)
              refine lv_aload_n hx hb dX5_rest_72 rfl (lv_at hl 0 rfl) ?_
              refine va_get (D := D) (ci := 5) (v := .ref (ad 13)) (C := RX5) (T := TX5) (N := 31) hx hb hts hin_X5 hown hK hP 0 rfl rfl 13 (by decide) hf_48 (fun _ h9 => h9) rfl dX5_rest_73 ?_
              refine lv_iload hx hb dX5_rest_76 (lv_at hl 3 rfl) ?_
              refine lv_lload_n hx hb dX5_rest_78 rfl (lv_at hl 2 rfl) ?_
              refine am_last hx hb hK hP hD hS 13 1 rfl rfl (rc_pl (ai 12) v nr 0) rfl (by omega) (by decide) (rm_w ad cI cL cZ fi fl (va_up ai 12 (upd (ai 12) (rc_pl (ai 12) v nr 0) v.toInt32)) (va_up al 13 (vp_updL (al 13) (rc_pl (ai 12) v nr 0) z))) rfl dX5_rest_79 (fun H locs hP hD hS => ?_)
              refine lv_aload_n hx hb dX5_rest_80 rfl (lv_at hl 0 rfl) ?_
              refine lv_iload hx hb dX5_rest_81 (lv_at hl 3 rfl) ?_
              refine lv_aload_n hx hb dX5_rest_83 rfl (lv_at hl 0 rfl) ?_
              refine va_get (D := D) (ci := 5) (v := .int (fi 1)) (C := RX5) (T := TX5) (N := 31) hx hb hts hin_X5 hown hK hP 0 rfl rfl 14 (by decide) hf_116 (fun _ h9 => h9) rfl dX5_rest_84 ?_
              refine lv_icmp_ne (tgt := 99) hx hb dX5_rest_87 (by decide) (fun c_87 => ?_) (fun c_87 => ?_)
              · skip
                have c_87 : ¬ (nI (rc_pl (ai 12) v nr 0)) = (fi 1) := c_87
                have hpe : ¬ rc_pl (ai 12) v nr 0 = nr := fun z => c_87 (by rw [hnr, z])
                refine lv_aload_n hx hb dX5_rest_99 rfl (lv_at hl 0 rfl) ?_
                refine va_get (D := D) (ci := 5) (v := .int (fi 1)) (C := RX5) (T := TX5) (N := 31) hx hb hts hin_X5 hown hK hP 0 rfl rfl 14 (by decide) hf_116 (fun _ h9 => h9) rfl dX5_rest_100 ?_
                refine va_put (D := D) (ci := 5) (v := .int (fi 1)) (ty := .int) (C := RX5) (T := TX5) (N := 31) hx hb hts hin_X5 tyX5 tyX5_ok nmX5 hown hK hP hD hS 0 rfl rfl 14 (by decide) hf_116 (fun _ h9 => h9) rfl (by decide +kernel) rfl rfl (Nat.le_of_ble_eq_true rfl) dX5_rest_103 (fun H locs hP hD hS => ?_)
                have hP : va_P D vwCl (rm_w ad cI cL cZ (upd fi 1 (fi 1)) fl (va_up ai 12 (upd (ai 12) (rc_pl (ai 12) v nr 0) v.toInt32)) (va_up al 13 (vp_updL (al 13) (rc_pl (ai 12) v nr 0) z))) H := hP
                have hD : va_D A (rm_w ad cI cL cZ (upd fi 1 (fi 1)) fl (va_up ai 12 (upd (ai 12) (rc_pl (ai 12) v nr 0) v.toInt32)) (va_up al 13 (vp_updL (al 13) (rc_pl (ai 12) v nr 0) z))) := am_D hD rfl
                refine lv_aload_n hx hb dX5_rest_106 rfl (lv_at hl 0 rfl) ?_
                refine lv_iconst (v := 0) hx hb dX5_rest_107 (by decide) ?_
                refine va_put (D := D) (ci := 5) (v := .int 0) (ty := .boolean) (C := RX5) (T := TX5) (N := 31) hx hb hts hin_X5 tyX5 tyX5_ok nmX5 hown hK hP hD hS 0 rfl rfl 19 (by decide) hf_97 (fun _ h9 => h9) rfl (by decide +kernel) rfl rfl (Nat.le_of_ble_eq_true rfl) dX5_rest_108 (fun H locs hP hD hS => ?_)
                have hP : va_P D vwCl (rm_w ad cI cL cZ (upd (upd fi 1 (fi 1)) 3 0) fl (va_up ai 12 (upd (ai 12) (rc_pl (ai 12) v nr 0) v.toInt32)) (va_up al 13 (vp_updL (al 13) (rc_pl (ai 12) v nr 0) z))) H := hP
                have hD : va_D A (rm_w ad cI cL cZ (upd (upd fi 1 (fi 1)) 3 0) fl (va_up ai 12 (upd (ai 12) (rc_pl (ai 12) v nr 0) v.toInt32)) (va_up al 13 (vp_updL (al 13) (rc_pl (ai 12) v nr 0) z))) := am_D hD rfl
                refine lv_iconst (v := 1) hx hb dX5_rest_111 (by decide) ?_
                have hok : rc_rstOk v z (rc_pl (ai 12) v nr 0) := by first | rfl | (simp only [rc_rstOk, c_3, c_11, c_18, hp16, if_true, if_false, eq_self, not_true_eq_false, not_false_eq_true, ite_true, ite_false, ↓reduceIte]; done) | (simp [rc_rstOk, c_3, c_11, c_18, hp16]; done)
                exact am_zretM hx hb hr hlocks (Or.inr rfl) (by simp only [if_pos hok, if_neg hpe]; exact hP) hS (by rw [if_pos hok]; first | done | rfl) dX5_rest_112
              · skip
                have c_87 : (nI (rc_pl (ai 12) v nr 0)) = (fi 1) := c_87
                have hpe : rc_pl (ai 12) v nr 0 = nr := by have h := c_87; rw [hnr, nI_eq (by omega) (by omega)] at h; exact h
                refine lv_aload_n hx hb dX5_rest_90 rfl (lv_at hl 0 rfl) ?_
                refine va_get (D := D) (ci := 5) (v := .int (fi 1)) (C := RX5) (T := TX5) (N := 31) hx hb hts hin_X5 hown hK hP 0 rfl rfl 14 (by decide) hf_116 (fun _ h9 => h9) rfl dX5_rest_91 ?_
                refine lv_iconst (v := 1) hx hb dX5_rest_94 (by decide) ?_
                refine lv_iadd hx hb dX5_rest_95 ?_
                refine lv_goto (tgt := 103) hx hb dX5_rest_96 (by decide) ?_
                refine va_put (D := D) (ci := 5) (v := .int ((fi 1) + 1)) (ty := .int) (C := RX5) (T := TX5) (N := 31) hx hb hts hin_X5 tyX5 tyX5_ok nmX5 hown hK hP hD hS 0 rfl rfl 14 (by decide) hf_116 (fun _ h9 => h9) rfl (by decide +kernel) rfl rfl (Nat.le_of_ble_eq_true rfl) dX5_rest_103 (fun H locs hP hD hS => ?_)
                have hP : va_P D vwCl (rm_w ad cI cL cZ (upd fi 1 ((fi 1) + 1)) fl (va_up ai 12 (upd (ai 12) (rc_pl (ai 12) v nr 0) v.toInt32)) (va_up al 13 (vp_updL (al 13) (rc_pl (ai 12) v nr 0) z))) H := hP
                have hD : va_D A (rm_w ad cI cL cZ (upd fi 1 ((fi 1) + 1)) fl (va_up ai 12 (upd (ai 12) (rc_pl (ai 12) v nr 0) v.toInt32)) (va_up al 13 (vp_updL (al 13) (rc_pl (ai 12) v nr 0) z))) := am_D hD rfl
                refine lv_aload_n hx hb dX5_rest_106 rfl (lv_at hl 0 rfl) ?_
                refine lv_iconst (v := 0) hx hb dX5_rest_107 (by decide) ?_
                refine va_put (D := D) (ci := 5) (v := .int 0) (ty := .boolean) (C := RX5) (T := TX5) (N := 31) hx hb hts hin_X5 tyX5 tyX5_ok nmX5 hown hK hP hD hS 0 rfl rfl 19 (by decide) hf_97 (fun _ h9 => h9) rfl (by decide +kernel) rfl rfl (Nat.le_of_ble_eq_true rfl) dX5_rest_108 (fun H locs hP hD hS => ?_)
                have hP : va_P D vwCl (rm_w ad cI cL cZ (upd (upd fi 1 ((fi 1) + 1)) 3 0) fl (va_up ai 12 (upd (ai 12) (rc_pl (ai 12) v nr 0) v.toInt32)) (va_up al 13 (vp_updL (al 13) (rc_pl (ai 12) v nr 0) z))) H := hP
                have hD : va_D A (rm_w ad cI cL cZ (upd (upd fi 1 ((fi 1) + 1)) 3 0) fl (va_up ai 12 (upd (ai 12) (rc_pl (ai 12) v nr 0) v.toInt32)) (va_up al 13 (vp_updL (al 13) (rc_pl (ai 12) v nr 0) z))) := am_D hD rfl
                refine lv_iconst (v := 1) hx hb dX5_rest_111 (by decide) ?_
                have hok : rc_rstOk v z (rc_pl (ai 12) v nr 0) := by first | rfl | (simp only [rc_rstOk, c_3, c_11, c_18, hp16, if_true, if_false, eq_self, not_true_eq_false, not_false_eq_true, ite_true, ite_false, ↓reduceIte]; done) | (simp [rc_rstOk, c_3, c_11, c_18, hp16]; done)
                exact am_zretM hx hb hr hlocks (Or.inr rfl) (by simp only [if_pos hok, if_pos hpe]; exact hP) hS (by rw [if_pos hok]; first | done | rfl) dX5_rest_112
            · skip
              have c_58 : (nI (rc_pl (ai 12) v nr 0)) = 16 := c_58
              have hp16 : rc_pl (ai 12) v nr 0 = 16 := by have h := c_58; rw [show (16 : Int32) = nI 16 from rfl, nI_eq (by omega) (by omega)] at h; exact h
              refine lv_iconst (v := 0) hx hb dX5_rest_61 (by decide) ?_
              have hok : ¬ (rc_rstOk v z (rc_pl (ai 12) v nr 0)) := by first | rfl | (simp only [rc_rstOk, c_3, c_11, c_18, hp16, if_true, if_false, eq_self, not_true_eq_false, not_false_eq_true, ite_true, ite_false, ↓reduceIte]; done) | (simp [rc_rstOk, c_3, c_11, c_18, hp16]; done)
              exact am_zretM hx hb hr hlocks (Or.inl rfl) (by simp only [if_neg hok]; exact hP) hS (by rw [if_neg hok]; first | done | rfl) dX5_rest_62
          · skip
            have c_45 : ¬ ((((ai 12) k).toInt64) = v) := (fun z => c_45 ((lg_cmp_eq _ _).mpr z))
            refine lv_iinc (v := nI (k + 1)) (lv' := [(5, .int (nI (k + 1))), (0, .ref (ad 0)), (1, .long v), (3, .long z)]) hx hb dX5_rest_48 hl (k := 3) rfl (nI_1 k) (by decide) rfl (fun ls hl => ?_)
            refine lv_goto (tgt := 26) hx hb dX5_rest_51 (by decide) ?_
            refine ih_26 (k + 1) (nr - (k + 1)) H locs ls (by omega) ⟨rfl, (by omega), (by rw [hm, show nr - k = (nr - (k + 1)) + 1 by omega, rc_pl, if_neg c_45]), ?_, hS, ?_⟩
            · exact hP
            · exact lv_sub hl [1, 2, 3, 0] rfl
      · skip
        have c_18 : (ac_isWorth z) = 0 := c_18
        refine lv_iconst (v := 0) hx hb dX5_rest_21 (by decide) ?_
        have hok : ¬ (rc_rstOk v z (rc_pl (ai 12) v nr 0)) := by first | rfl | (simp only [rc_rstOk, c_3, c_11, c_18, if_true, if_false, eq_self, not_true_eq_false, not_false_eq_true, ite_true, ite_false, ↓reduceIte]; done) | (simp [rc_rstOk, c_3, c_11, c_18]; done)
        exact am_zretM hx hb hr hlocks (Or.inl rfl) (by simp only [if_neg hok]; exact hP) hS (by rw [if_neg hok]; first | done | rfl) dX5_rest_22

set_option maxHeartbeats 4000000 in
set_option maxRecDepth 100000 in
theorem c_X5_breaks (l : Launch) (D : va_G) (ad : Nat → Nat) (cI cL cZ : ClassId) (fi : Nat → Int32) (fl : Nat → Int64) (ai : Nat → Nat → Int32) (al : Nat → Nat → Int64) (A : Nat → Prop) (x : Int32) (na : Nat) (hna : fi 0 = nI na) (hnl : na ≤ 10) : Met l yX5_breaks wsX5_breaks (am_rm 1 21) (va_Pc [.ref (ad 0), .int x] (am_M nwL vwCl D A (rm_w ad cI cL cZ fi fl ai al) [(cI, .int), (cL, .long), (cZ, .boolean)])) (am_Mi vwCl D (if rc_brkOk (fi 0) (ai 5) x then 1 else 0) (rm_w ad cI cL cZ (upd fi 3 (if rc_brkOk (fi 0) (ai 5) x then 0 else (fi 3))) fl (va_up ai 5 (if rc_brkOk (fi 0) (ai 5) x then upd (ai 5) x.toNatClampNeg 1 else (ai 5))) al) A) 0 0 A := by
  refine am_startM (cc := cX5_breaks) (maxL := 2) (ret := (some .boolean)) (by decide) rfl (Nat.le_of_ble_eq_true rfl) [(0, .ref (ad 0)), (1, .int x)] rfl ?_
  intro p e s m below meth c ls hx hb hr hml hown hts hlocks hK hN hD H locs hP hS hl
  have hown : s.vm.findClass RX5 = some m.cls := hown
  have ht := am_ht hts
  have hin_X5 : ∀ w ∈ u_ws RX5 TX5 31, w ∈ wsX5_breaks := fun w h => List.mem_cons_of_mem _ (am_inX5 w h)
  have hf_23 := ht 435 (.fieldLink RX5 23 "ApartCostModel" "breaking" "[Z") rfl
  have hf_97 := ht 449 (.fieldLink RX5 97 "ApartCostModel" "isFresh" "Z") rfl
  refine lv_aload_n hx hb dX5_breaks_0 rfl (lv_at hl 0 rfl) ?_
  refine lv_iload_n hx hb dX5_breaks_1 rfl (lv_at hl 1 rfl) ?_
  refine am_callRi (W.runV (As := [.int x]) (rest := []) ⟨hx, hb, hml, hown, hts⟩ (c_X5_isAct l D ad cI cL cZ fi fl ai al x) (cwV 1 hts (am_gV (am_in 508 rfl) (am_in 509 rfl) (am_in 12 rfl) (am_in 35 rfl) (am_in 510 rfl)) rfl rfl rfl (by decide +kernel) ⟨Nat.le_of_ble_eq_true rfl, Nat.le_of_ble_eq_true rfl⟩) (am_preVR 5 0 rfl rfl rfl hP hK hN) rfl rfl hl.1 rfl (lv_room (Nat.le_of_ble_eq_true rfl)) dX5_breaks_2 ⟨Nat.zero_le _, Nat.zero_le _⟩) ?_
  refine lv_if_eq (tgt := 17) hx hb dX5_breaks_5 (by decide) (fun c_5 => ?_) (fun c_5 => ?_)
  · skip
    have c_5 : (ac_hasAct (fi 0) x) = 0 := c_5
    refine lv_iconst (v := 0) hx hb dX5_breaks_17 (by decide) ?_
    have hok : ¬ (rc_brkOk (fi 0) (ai 5) x) := by first | rfl | (simp only [rc_brkOk, c_5, if_true, if_false, eq_self, not_true_eq_false, not_false_eq_true, ite_true, ite_false, ↓reduceIte]; done) | (simp [rc_brkOk, c_5]; done)
    exact am_zretM hx hb hr hlocks (Or.inl rfl) (by simp only [if_neg hok]; exact hP) hS (by rw [if_neg hok]; first | done | rfl) dX5_breaks_18
  · skip
    have c_5 : ¬ ((ac_hasAct (fi 0) x) = 0) := c_5
    obtain ⟨a, hq_a, ea⟩ : ∃ z, z < na ∧ x = nI z := am_hasAct hna (by omega) c_5
    have nn_a : x.toNatClampNeg = a := by rw [ea]; exact nI_clamp (by omega)
    have mm_a : (nI a).toNatClampNeg = a := nI_clamp (by omega)
    refine lv_aload_n hx hb dX5_breaks_8 rfl (lv_at hl 0 rfl) ?_
    refine va_get (D := D) (ci := 5) (v := .ref (ad 5)) (C := RX5) (T := TX5) (N := 31) hx hb hts hin_X5 hown hK hP 0 rfl rfl 5 (by decide) hf_23 (fun _ h9 => h9) rfl dX5_breaks_9 ?_
    refine lv_iload_n hx hb dX5_breaks_12 rfl (lv_at hl 1 rfl) ?_
    refine am_zald hx hb hK hP 5 2 rfl rfl a ea (by omega) (by decide) dX5_breaks_13 ?_
    refine lv_if_eq (tgt := 19) hx hb dX5_breaks_14 (by decide) (fun c_14 => ?_) (fun c_14 => ?_)
    · skip
      have c_14 : ((ai 5) a) = 0 := c_14
      refine lv_aload_n hx hb dX5_breaks_19 rfl (lv_at hl 0 rfl) ?_
      refine va_get (D := D) (ci := 5) (v := .ref (ad 5)) (C := RX5) (T := TX5) (N := 31) hx hb hts hin_X5 hown hK hP 0 rfl rfl 5 (by decide) hf_23 (fun _ h9 => h9) rfl dX5_breaks_20 ?_
      refine lv_iload_n hx hb dX5_breaks_23 rfl (lv_at hl 1 rfl) ?_
      refine lv_iconst (v := 1) hx hb dX5_breaks_24 (by decide) ?_
      refine am_zast hx hb hK hP hD hS 5 2 rfl rfl a ea (by omega) (by decide) rfl (rm_w ad cI cL cZ fi fl (va_up ai 5 (upd (ai 5) a 1)) al) rfl dX5_breaks_25 (fun H locs hP hD hS => ?_)
      refine lv_aload_n hx hb dX5_breaks_26 rfl (lv_at hl 0 rfl) ?_
      refine lv_iconst (v := 0) hx hb dX5_breaks_27 (by decide) ?_
      refine va_put (D := D) (ci := 5) (v := .int 0) (ty := .boolean) (C := RX5) (T := TX5) (N := 31) hx hb hts hin_X5 tyX5 tyX5_ok nmX5 hown hK hP hD hS 0 rfl rfl 19 (by decide) hf_97 (fun _ h9 => h9) rfl (by decide +kernel) rfl rfl (Nat.le_of_ble_eq_true rfl) dX5_breaks_28 (fun H locs hP hD hS => ?_)
      have hP : va_P D vwCl (rm_w ad cI cL cZ (upd fi 3 0) fl (va_up ai 5 (upd (ai 5) a 1)) al) H := hP
      have hD : va_D A (rm_w ad cI cL cZ (upd fi 3 0) fl (va_up ai 5 (upd (ai 5) a 1)) al) := am_D hD rfl
      refine lv_iconst (v := 1) hx hb dX5_breaks_31 (by decide) ?_
      have hok : rc_brkOk (fi 0) (ai 5) x := by first | rfl | (simp only [rc_brkOk, c_5, c_14, nn_a, if_true, if_false, eq_self, not_true_eq_false, not_false_eq_true, ite_true, ite_false, ↓reduceIte]; done) | (simp [rc_brkOk, c_5, c_14, nn_a]; done)
      exact am_zretM hx hb hr hlocks (Or.inr rfl) (by simp only [if_pos hok, nn_a]; exact hP) hS (by rw [if_pos hok]; first | done | rfl) dX5_breaks_32
    · skip
      have c_14 : ¬ (((ai 5) a) = 0) := c_14
      refine lv_iconst (v := 0) hx hb dX5_breaks_17 (by decide) ?_
      have hok : ¬ (rc_brkOk (fi 0) (ai 5) x) := by first | rfl | (simp only [rc_brkOk, c_5, c_14, nn_a, if_true, if_false, eq_self, not_true_eq_false, not_false_eq_true, ite_true, ite_false, ↓reduceIte]; done) | (simp [rc_brkOk, c_5, c_14, nn_a]; done)
      exact am_zretM hx hb hr hlocks (Or.inl rfl) (by simp only [if_neg hok]; exact hP) hS (by rw [if_neg hok]; first | done | rfl) dX5_breaks_18

