set_option maxHeartbeats 4000000 in
set_option maxRecDepth 100000 in
theorem c_X5_keeps (l : Launch) (D : va_G) (ad : Nat → Nat) (cI cL cZ : ClassId) (fi : Nat → Int32) (fl : Nat → Int64) (ai : Nat → Nat → Int32) (al : Nat → Nat → Int64) (na : Nat) (hna : fi 0 = nI na) (hnl : na ≤ 10) : Met l yX5_keeps wsX5_keeps (am_rm 0 0) (va_Pc [.ref (ad 0), .ref (ad 20)] (am_R nwL vwCl D (rm_w ad cI cL cZ fi fl ai al) [(cI, .int), (cL, .long), (cZ, .boolean)])) (vp_Si (fun r => r = rc_ka (ai 20) (ai 21) na na)) 0 0 am_No := by
  refine am_startR (cc := cX5_keeps) (maxL := 5) (ret := (some .boolean)) (by decide) rfl (Nat.le_of_ble_eq_true rfl) [(0, .ref (ad 0)), (1, .ref (ad 20))] rfl ?_
  intro p e s m below meth c ls hx hb hr hml hown hts hlocks hP hK hN hl
  have hown : s.vm.findClass RX5 = some m.cls := hown
  have ht := am_ht hts
  have hin_X5 : ∀ w ∈ u_ws RX5 TX5 31, w ∈ wsX5_keeps := fun w h => List.mem_cons_of_mem _ (am_inX5 w h)
  have hf_79 := ht 460 (.fieldLink RX5 79 "ApartCostModel" "behind" "[Z") rfl
  have hf_86 := ht 430 (.fieldLink RX5 86 "ApartCostModel" "count" "I") rfl
  refine lv_iconst (v := 1) hx hb dX5_keeps_0 (by decide) ?_
  refine lv_istore_n (lv' := [(2, .int 1), (0, .ref (ad 0)), (1, .ref (ad 20))]) hx hb dX5_keeps_1 rfl hl (by decide) rfl (fun ls hl => ?_)
  refine lv_iconst (v := 0) hx hb dX5_keeps_2 (by decide) ?_
  refine lv_istore_n (lv' := [(3, .int 0), (2, .int 1), (0, .ref (ad 0)), (1, .ref (ad 20))]) hx hb dX5_keeps_3 rfl hl (by decide) rfl (fun ls hl => ?_)
  refine am_loopR (σ := Nat) (fun q n9 ls => n9 = na - q ∧ q ≤ na ∧ lv_has ls 5 [(0, .ref (ad 0)), (1, .ref (ad 20)), (2, .int (rc_ka (ai 20) (ai 21) na q)), (3, .int (nI q))]) ?_ 0 (na - 0) ls ⟨rfl, (by omega), lv_sub hl [2, 3, 1, 0] rfl⟩
  rintro a n9 ls ⟨hn_4, hka, hl⟩ ih_4
  refine lv_iload_n hx hb dX5_keeps_4 rfl (lv_at hl 3 rfl) ?_
  refine lv_aload_n hx hb dX5_keeps_5 rfl (lv_at hl 0 rfl) ?_
  refine va_get (D := D) (ci := 5) (v := .int (fi 0)) (C := RX5) (T := TX5) (N := 31) hx hb hts hin_X5 hown hK hP 0 rfl rfl 0 (by decide) hf_86 (fun _ h9 => h9) rfl dX5_keeps_6 ?_
  refine lv_icmp_ge (tgt := 84) hx hb dX5_keeps_9 (by decide) (fun c_9 => ?_) (fun c_9 => ?_)
  · skip
    have c_9 : (fi 0) ≤ (nI a) := c_9
    have hke_9 : na ≤ a := (am_ge hna (by omega) (by omega)).mp c_9
    have hkq_9 : na = a := by omega
    subst hkq_9
    refine lv_iload_n hx hb dX5_keeps_84 rfl (lv_at hl 2 rfl) ?_
    exact am_zretR hx hb hr hlocks (rc_ka_z _ _ _ _) (by first | rfl | (simp only [c_9, if_true, if_false, eq_self, not_true_eq_false, not_false_eq_true, ite_true, ite_false, ↓reduceIte]; done) | (simp [c_9]; done)) dX5_keeps_85
  · skip
    have c_9 : ¬ ((fi 0) ≤ (nI a)) := c_9
    have hkl_9 : a < na := Nat.lt_of_not_le (fun z => c_9 ((am_ge hna (by omega) (by omega)).mpr z))
    refine lv_iconst (v := 0) hx hb dX5_keeps_12 (by decide) ?_
    refine lv_istore (lv' := [(4, .int 0), (0, .ref (ad 0)), (1, .ref (ad 20)), (2, .int (rc_ka (ai 20) (ai 21) na a)), (3, .int (nI a))]) hx hb dX5_keeps_13 hl (by decide) rfl (fun ls hl => ?_)
    refine am_loopR (σ := Nat) (fun q n9 ls => n9 = na - q ∧ q ≤ na ∧ lv_has ls 5 [(0, .ref (ad 0)), (1, .ref (ad 20)), (2, .int (rc_kb (ai 20) (ai 21) a (rc_ka (ai 20) (ai 21) na a) q)), (3, .int (nI a)), (4, .int (nI q))]) ?_ 0 (na - 0) ls ⟨rfl, (by omega), lv_sub hl [1, 2, 3, 4, 0] rfl⟩
    rintro b n9 ls ⟨hn_15, hkb, hl⟩ ih_15
    refine lv_iload hx hb dX5_keeps_15 (lv_at hl 4 rfl) ?_
    refine lv_aload_n hx hb dX5_keeps_17 rfl (lv_at hl 0 rfl) ?_
    refine va_get (D := D) (ci := 5) (v := .int (fi 0)) (C := RX5) (T := TX5) (N := 31) hx hb hts hin_X5 hown hK hP 0 rfl rfl 0 (by decide) hf_86 (fun _ h9 => h9) rfl dX5_keeps_18 ?_
    refine lv_icmp_ge (tgt := 78) hx hb dX5_keeps_21 (by decide) (fun c_21 => ?_) (fun c_21 => ?_)
    · skip
      have c_21 : (fi 0) ≤ (nI b) := c_21
      have hke_21 : na ≤ b := (am_ge hna (by omega) (by omega)).mp c_21
      have hkq_21 : na = b := by omega
      subst hkq_21
      refine lv_iinc (v := nI (a + 1)) (lv' := [(3, .int (nI (a + 1))), (0, .ref (ad 0)), (1, .ref (ad 20)), (2, .int (rc_kb (ai 20) (ai 21) a (rc_ka (ai 20) (ai 21) na a) na)), (4, .int (nI na))]) hx hb dX5_keeps_78 hl (k := 3) rfl (nI_1 a) (by decide) rfl (fun ls hl => ?_)
      refine lv_goto (tgt := 4) hx hb dX5_keeps_81 (by decide) ?_
      have e_4_0 : rc_ka (ai 20) (ai 21) na (a + 1) = rc_kb (ai 20) (ai 21) a (rc_ka (ai 20) (ai 21) na a) na := by first | rfl | (simp only [rc_ka, c_9, c_21, if_true, if_false, eq_self, not_true_eq_false, not_false_eq_true, ite_true, ite_false, ↓reduceIte]; done) | (simp [rc_ka, c_9, c_21]; done)
      refine ih_4 (a + 1) (na - (a + 1)) ls (by omega) ⟨rfl, (by omega), ?_⟩
      try dsimp only
      rw [e_4_0]
      exact lv_sub hl [1, 2, 3, 0] rfl
    · skip
      have c_21 : ¬ ((fi 0) ≤ (nI b)) := c_21
      have hkl_21 : b < na := Nat.lt_of_not_le (fun z => c_21 ((am_ge hna (by omega) (by omega)).mpr z))
      refine lv_iload_n hx hb dX5_keeps_24 rfl (lv_at hl 2 rfl) ?_
      refine lv_if_eq (tgt := 70) hx hb dX5_keeps_25 (by decide) (fun c_25 => ?_) (fun c_25 => ?_)
      · skip
        have c_25 : (rc_kb (ai 20) (ai 21) a (rc_ka (ai 20) (ai 21) na a) b) = 0 := c_25
        refine lv_iconst (v := 0) hx hb dX5_keeps_70 (by decide) ?_
        refine lv_istore_n (lv' := [(2, .int 0), (0, .ref (ad 0)), (1, .ref (ad 20)), (3, .int (nI a)), (4, .int (nI b))]) hx hb dX5_keeps_71 rfl hl (by decide) rfl (fun ls hl => ?_)
        refine lv_iinc (v := nI (b + 1)) (lv' := [(4, .int (nI (b + 1))), (2, .int 0), (0, .ref (ad 0)), (1, .ref (ad 20)), (3, .int (nI a))]) hx hb dX5_keeps_72 hl (k := 4) rfl (nI_1 b) (by decide) rfl (fun ls hl => ?_)
        refine lv_goto (tgt := 15) hx hb dX5_keeps_75 (by decide) ?_
        have e_15_0 : rc_kb (ai 20) (ai 21) a (rc_ka (ai 20) (ai 21) na a) (b + 1) = 0 := by first | rfl | (simp only [rc_kb, c_9, c_21, c_25, if_true, if_false, eq_self, not_true_eq_false, not_false_eq_true, ite_true, ite_false, ↓reduceIte]; done) | (simp [rc_kb, c_9, c_21, c_25]; done)
        refine ih_15 (b + 1) (na - (b + 1)) ls (by omega) ⟨rfl, (by omega), ?_⟩
        try dsimp only
        rw [e_15_0]
        exact lv_sub hl [2, 3, 1, 4, 0] rfl
      · skip
        have c_25 : ¬ ((rc_kb (ai 20) (ai 21) a (rc_ka (ai 20) (ai 21) na a) b) = 0) := c_25
        refine lv_aload_n hx hb dX5_keeps_28 rfl (lv_at hl 1 rfl) ?_
        refine lv_iload_n hx hb dX5_keeps_29 rfl (lv_at hl 3 rfl) ?_
        refine am_iald hx hb hK hP 20 0 rfl rfl a rfl (by omega) (by decide) dX5_keeps_30 ?_
        refine lv_if_lt (tgt := 66) hx hb dX5_keeps_31 (by decide) (fun c_31 => ?_) (fun c_31 => ?_)
        · skip
          have c_31 : ((ai 20) a) < 0 := c_31
          refine lv_iconst (v := 1) hx hb dX5_keeps_66 (by decide) ?_
          refine lv_goto (tgt := 71) hx hb dX5_keeps_67 (by decide) ?_
          refine lv_istore_n (lv' := [(2, .int 1), (0, .ref (ad 0)), (1, .ref (ad 20)), (3, .int (nI a)), (4, .int (nI b))]) hx hb dX5_keeps_71 rfl hl (by decide) rfl (fun ls hl => ?_)
          refine lv_iinc (v := nI (b + 1)) (lv' := [(4, .int (nI (b + 1))), (2, .int 1), (0, .ref (ad 0)), (1, .ref (ad 20)), (3, .int (nI a))]) hx hb dX5_keeps_72 hl (k := 4) rfl (nI_1 b) (by decide) rfl (fun ls hl => ?_)
          refine lv_goto (tgt := 15) hx hb dX5_keeps_75 (by decide) ?_
          have e_15_0 : rc_kb (ai 20) (ai 21) a (rc_ka (ai 20) (ai 21) na a) (b + 1) = 1 := by first | rfl | (simp only [rc_kb, c_9, c_21, c_25, c_31, if_true, if_false, eq_self, not_true_eq_false, not_false_eq_true, ite_true, ite_false, ↓reduceIte]; done) | (simp [rc_kb, c_9, c_21, c_25, c_31]; done)
          refine ih_15 (b + 1) (na - (b + 1)) ls (by omega) ⟨rfl, (by omega), ?_⟩
          try dsimp only
          rw [e_15_0]
          exact lv_sub hl [2, 3, 1, 4, 0] rfl
        · skip
          have c_31 : ¬ (((ai 20) a) < 0) := c_31
          refine lv_aload_n hx hb dX5_keeps_34 rfl (lv_at hl 1 rfl) ?_
          refine lv_iload hx hb dX5_keeps_35 (lv_at hl 4 rfl) ?_
          refine am_iald hx hb hK hP 20 0 rfl rfl b rfl (by omega) (by decide) dX5_keeps_37 ?_
          refine lv_if_lt (tgt := 66) hx hb dX5_keeps_38 (by decide) (fun c_38 => ?_) (fun c_38 => ?_)
          · skip
            have c_38 : ((ai 20) b) < 0 := c_38
            refine lv_iconst (v := 1) hx hb dX5_keeps_66 (by decide) ?_
            refine lv_goto (tgt := 71) hx hb dX5_keeps_67 (by decide) ?_
            refine lv_istore_n (lv' := [(2, .int 1), (0, .ref (ad 0)), (1, .ref (ad 20)), (3, .int (nI a)), (4, .int (nI b))]) hx hb dX5_keeps_71 rfl hl (by decide) rfl (fun ls hl => ?_)
            refine lv_iinc (v := nI (b + 1)) (lv' := [(4, .int (nI (b + 1))), (2, .int 1), (0, .ref (ad 0)), (1, .ref (ad 20)), (3, .int (nI a))]) hx hb dX5_keeps_72 hl (k := 4) rfl (nI_1 b) (by decide) rfl (fun ls hl => ?_)
            refine lv_goto (tgt := 15) hx hb dX5_keeps_75 (by decide) ?_
            have e_15_0 : rc_kb (ai 20) (ai 21) a (rc_ka (ai 20) (ai 21) na a) (b + 1) = 1 := by first | rfl | (simp only [rc_kb, c_9, c_21, c_25, c_31, c_38, if_true, if_false, eq_self, not_true_eq_false, not_false_eq_true, ite_true, ite_false, ↓reduceIte]; done) | (simp [rc_kb, c_9, c_21, c_25, c_31, c_38]; done)
            refine ih_15 (b + 1) (na - (b + 1)) ls (by omega) ⟨rfl, (by omega), ?_⟩
            try dsimp only
            rw [e_15_0]
            exact lv_sub hl [2, 3, 1, 4, 0] rfl
          · skip
            have c_38 : ¬ (((ai 20) b) < 0) := c_38
            refine lv_aload_n hx hb dX5_keeps_41 rfl (lv_at hl 0 rfl) ?_
            refine va_get (D := D) (ci := 5) (v := .ref (ad 21)) (C := RX5) (T := TX5) (N := 31) hx hb hts hin_X5 hown hK hP 0 rfl rfl 30 (by decide) hf_79 (fun _ h9 => h9) rfl dX5_keeps_42 ?_
            refine lv_bipush (v := 10) hx hb dX5_keeps_45 (by decide) ?_
            refine lv_iload_n hx hb dX5_keeps_47 rfl (lv_at hl 3 rfl) ?_
            refine lv_imul hx hb dX5_keeps_48 ?_
            refine lv_iload hx hb dX5_keeps_49 (lv_at hl 4 rfl) ?_
            refine lv_iadd hx hb dX5_keeps_51 ?_
            refine am_zald hx hb hK hP 21 2 rfl rfl (10 * a + b) (am_x10 a b) (by omega) (by decide) dX5_keeps_52 ?_
            refine lv_if_eq (tgt := 66) hx hb dX5_keeps_53 (by decide) (fun c_53 => ?_) (fun c_53 => ?_)
            · skip
              have c_53 : ((ai 21) (10 * a + b)) = 0 := c_53
              refine lv_iconst (v := 1) hx hb dX5_keeps_66 (by decide) ?_
              refine lv_goto (tgt := 71) hx hb dX5_keeps_67 (by decide) ?_
              refine lv_istore_n (lv' := [(2, .int 1), (0, .ref (ad 0)), (1, .ref (ad 20)), (3, .int (nI a)), (4, .int (nI b))]) hx hb dX5_keeps_71 rfl hl (by decide) rfl (fun ls hl => ?_)
              refine lv_iinc (v := nI (b + 1)) (lv' := [(4, .int (nI (b + 1))), (2, .int 1), (0, .ref (ad 0)), (1, .ref (ad 20)), (3, .int (nI a))]) hx hb dX5_keeps_72 hl (k := 4) rfl (nI_1 b) (by decide) rfl (fun ls hl => ?_)
              refine lv_goto (tgt := 15) hx hb dX5_keeps_75 (by decide) ?_
              have e_15_0 : rc_kb (ai 20) (ai 21) a (rc_ka (ai 20) (ai 21) na a) (b + 1) = 1 := by first | rfl | (simp only [rc_kb, c_9, c_21, c_25, c_31, c_38, c_53, if_true, if_false, eq_self, not_true_eq_false, not_false_eq_true, ite_true, ite_false, ↓reduceIte]; done) | (simp [rc_kb, c_9, c_21, c_25, c_31, c_38, c_53]; done)
              refine ih_15 (b + 1) (na - (b + 1)) ls (by omega) ⟨rfl, (by omega), ?_⟩
              try dsimp only
              rw [e_15_0]
              exact lv_sub hl [2, 3, 1, 4, 0] rfl
            · skip
              have c_53 : ¬ (((ai 21) (10 * a + b)) = 0) := c_53
              refine lv_aload_n hx hb dX5_keeps_56 rfl (lv_at hl 1 rfl) ?_
              refine lv_iload hx hb dX5_keeps_57 (lv_at hl 4 rfl) ?_
              refine am_iald hx hb hK hP 20 0 rfl rfl b rfl (by omega) (by decide) dX5_keeps_59 ?_
              refine lv_aload_n hx hb dX5_keeps_60 rfl (lv_at hl 1 rfl) ?_
              refine lv_iload_n hx hb dX5_keeps_61 rfl (lv_at hl 3 rfl) ?_
              refine am_iald hx hb hK hP 20 0 rfl rfl a rfl (by omega) (by decide) dX5_keeps_62 ?_
              refine lv_icmp_gt (tgt := 70) hx hb dX5_keeps_63 (by decide) (fun c_63 => ?_) (fun c_63 => ?_)
              · skip
                have c_63 : ((ai 20) a) < ((ai 20) b) := c_63
                refine lv_iconst (v := 0) hx hb dX5_keeps_70 (by decide) ?_
                refine lv_istore_n (lv' := [(2, .int 0), (0, .ref (ad 0)), (1, .ref (ad 20)), (3, .int (nI a)), (4, .int (nI b))]) hx hb dX5_keeps_71 rfl hl (by decide) rfl (fun ls hl => ?_)
                refine lv_iinc (v := nI (b + 1)) (lv' := [(4, .int (nI (b + 1))), (2, .int 0), (0, .ref (ad 0)), (1, .ref (ad 20)), (3, .int (nI a))]) hx hb dX5_keeps_72 hl (k := 4) rfl (nI_1 b) (by decide) rfl (fun ls hl => ?_)
                refine lv_goto (tgt := 15) hx hb dX5_keeps_75 (by decide) ?_
                have e_15_0 : rc_kb (ai 20) (ai 21) a (rc_ka (ai 20) (ai 21) na a) (b + 1) = 0 := by first | rfl | (simp only [rc_kb, c_9, c_21, c_25, c_31, c_38, c_53, c_63, if_true, if_false, eq_self, not_true_eq_false, not_false_eq_true, ite_true, ite_false, ↓reduceIte]; done) | (simp [rc_kb, c_9, c_21, c_25, c_31, c_38, c_53, c_63]; done)
                refine ih_15 (b + 1) (na - (b + 1)) ls (by omega) ⟨rfl, (by omega), ?_⟩
                try dsimp only
                rw [e_15_0]
                exact lv_sub hl [2, 3, 1, 4, 0] rfl
              · skip
                have c_63 : ¬ (((ai 20) a) < ((ai 20) b)) := c_63
                refine lv_iconst (v := 1) hx hb dX5_keeps_66 (by decide) ?_
                refine lv_goto (tgt := 71) hx hb dX5_keeps_67 (by decide) ?_
                refine lv_istore_n (lv' := [(2, .int 1), (0, .ref (ad 0)), (1, .ref (ad 20)), (3, .int (nI a)), (4, .int (nI b))]) hx hb dX5_keeps_71 rfl hl (by decide) rfl (fun ls hl => ?_)
                refine lv_iinc (v := nI (b + 1)) (lv' := [(4, .int (nI (b + 1))), (2, .int 1), (0, .ref (ad 0)), (1, .ref (ad 20)), (3, .int (nI a))]) hx hb dX5_keeps_72 hl (k := 4) rfl (nI_1 b) (by decide) rfl (fun ls hl => ?_)
                refine lv_goto (tgt := 15) hx hb dX5_keeps_75 (by decide) ?_
                have e_15_0 : rc_kb (ai 20) (ai 21) a (rc_ka (ai 20) (ai 21) na a) (b + 1) = 1 := by first | rfl | (simp only [rc_kb, c_9, c_21, c_25, c_31, c_38, c_53, c_63, if_true, if_false, eq_self, not_true_eq_false, not_false_eq_true, ite_true, ite_false, ↓reduceIte]; done) | (simp [rc_kb, c_9, c_21, c_25, c_31, c_38, c_53, c_63]; done)
                refine ih_15 (b + 1) (na - (b + 1)) ls (by omega) ⟨rfl, (by omega), ?_⟩
                try dsimp only
                rw [e_15_0]
                exact lv_sub hl [2, 3, 1, 4, 0] rfl

set_option maxHeartbeats 4000000 in
set_option maxRecDepth 100000 in
theorem c_X5_longestOf (l : Launch) (D : va_G) (ad : Nat → Nat) (cI cL cZ : ClassId) (fi : Nat → Int32) (fl : Nat → Int64) (ai : Nat → Nat → Int32) (al : Nat → Nat → Int64) (na : Nat) (hna : fi 0 = nI na) (hnl : na ≤ 10) : Met l yX5_longestOf wsX5_longestOf (am_rm 0 0) (va_Pc [.ref (ad 0), .ref (ad 20)] (am_R nwL vwCl D (rm_w ad cI cL cZ fi fl ai al) [(cI, .int), (cL, .long), (cZ, .boolean)])) (vp_Sl (fun r => r = rc_lo (ai 20) (al 4) na 4)) 0 0 am_No := by
  refine am_startR (cc := cX5_longestOf) (maxL := 8) (ret := (some .long)) (by decide) rfl (Nat.le_of_ble_eq_true rfl) [(0, .ref (ad 0)), (1, .ref (ad 20))] rfl ?_
  intro p e s m below meth c ls hx hb hr hml hown hts hlocks hP hK hN hl
  have hown : s.vm.findClass RX5 = some m.cls := hown
  have ht := am_ht hts
  have hin_X5 : ∀ w ∈ u_ws RX5 TX5 31, w ∈ wsX5_longestOf := fun w h => List.mem_cons_of_mem _ (am_inX5 w h)
  have hf_19 := ht 434 (.fieldLink RX5 19 "ApartCostModel" "costs" "[J") rfl
  have hf_86 := ht 430 (.fieldLink RX5 86 "ApartCostModel" "count" "I") rfl
  refine lv_lconst (v := 0) hx hb dX5_longestOf_0 (by decide) ?_
  refine lv_lstore_n (lv' := [(2, .long 0), (0, .ref (ad 0)), (1, .ref (ad 20))]) hx hb dX5_longestOf_1 rfl hl (by decide) rfl (fun ls hl => ?_)
  refine lv_iconst (v := 0) hx hb dX5_longestOf_2 (by decide) ?_
  refine lv_istore (lv' := [(4, .int 0), (2, .long 0), (0, .ref (ad 0)), (1, .ref (ad 20))]) hx hb dX5_longestOf_3 hl (by decide) rfl (fun ls hl => ?_)
  refine am_loopR (σ := Nat) (fun q n9 ls => n9 = 4 - q ∧ q ≤ 4 ∧ lv_has ls 8 [(0, .ref (ad 0)), (1, .ref (ad 20)), (2, .long (rc_lo (ai 20) (al 4) na q)), (4, .int (nI q))]) ?_ 0 (4 - 0) ls ⟨rfl, (by omega), lv_sub hl [2, 3, 1, 0] rfl⟩
  rintro q9 n9 ls ⟨hn_5, hkq9, hl⟩ ih_5
  refine lv_iload hx hb dX5_longestOf_5 (lv_at hl 3 rfl) ?_
  refine lv_iconst (v := 4) hx hb dX5_longestOf_7 (by decide) ?_
  refine lv_icmp_ge (tgt := 77) hx hb dX5_longestOf_8 (by decide) (fun c_8 => ?_) (fun c_8 => ?_)
  · skip
    have c_8 : 4 ≤ (nI q9) := c_8
    have hke_8 : 4 ≤ q9 := (am_ge (rfl : (4 : Int32) = nI 4) (by decide) (by omega)).mp c_8
    have hkq_8 : q9 = 4 := by omega
    subst hkq_8
    refine lv_lload_n hx hb dX5_longestOf_77 rfl (lv_at hl 2 rfl) ?_
    exact am_lretR hx hb hr hlocks (by first | rfl | (simp only [c_8, if_true, if_false, eq_self, not_true_eq_false, not_false_eq_true, ite_true, ite_false, ↓reduceIte]; done) | (simp [c_8]; done)) dX5_longestOf_78
  · skip
    have c_8 : ¬ (4 ≤ (nI q9)) := c_8
    have hkl_8 : q9 < 4 := Nat.lt_of_not_le (fun z => c_8 ((am_ge (rfl : (4 : Int32) = nI 4) (by decide) (by omega)).mpr z))
    refine lv_lconst (v := 0) hx hb dX5_longestOf_11 (by decide) ?_
    refine lv_lstore (lv' := [(5, .long 0), (0, .ref (ad 0)), (1, .ref (ad 20)), (2, .long (rc_lo (ai 20) (al 4) na q9)), (4, .int (nI q9))]) hx hb dX5_longestOf_12 hl (by decide) rfl (fun ls hl => ?_)
    refine lv_iconst (v := 0) hx hb dX5_longestOf_14 (by decide) ?_
    refine lv_istore (lv' := [(7, .int 0), (5, .long 0), (0, .ref (ad 0)), (1, .ref (ad 20)), (2, .long (rc_lo (ai 20) (al 4) na q9)), (4, .int (nI q9))]) hx hb dX5_longestOf_15 hl (by decide) rfl (fun ls hl => ?_)
    refine am_loopR (σ := Nat) (fun q n9 ls => n9 = na - q ∧ q ≤ na ∧ lv_has ls 8 [(0, .ref (ad 0)), (1, .ref (ad 20)), (2, .long (rc_lo (ai 20) (al 4) na q9)), (4, .int (nI q9)), (5, .long (rc_ls (ai 20) (al 4) q9 q)), (7, .int (nI q))]) ?_ 0 (na - 0) ls ⟨rfl, (by omega), lv_sub hl [2, 3, 4, 5, 1, 0] rfl⟩
    rintro a n9 ls ⟨hn_17, hka, hl⟩ ih_17
    refine lv_iload hx hb dX5_longestOf_17 (lv_at hl 5 rfl) ?_
    refine lv_aload_n hx hb dX5_longestOf_19 rfl (lv_at hl 0 rfl) ?_
    refine va_get (D := D) (ci := 5) (v := .int (fi 0)) (C := RX5) (T := TX5) (N := 31) hx hb hts hin_X5 hown hK hP 0 rfl rfl 0 (by decide) hf_86 (fun _ h9 => h9) rfl dX5_longestOf_20 ?_
    refine lv_icmp_ge (tgt := 57) hx hb dX5_longestOf_23 (by decide) (fun c_23 => ?_) (fun c_23 => ?_)
    · skip
      have c_23 : (fi 0) ≤ (nI a) := c_23
      have hke_23 : na ≤ a := (am_ge hna (by omega) (by omega)).mp c_23
      have hkq_23 : na = a := by omega
      subst hkq_23
      refine lv_lload hx hb dX5_longestOf_57 (lv_at hl 4 rfl) ?_
      refine lv_lload_n hx hb dX5_longestOf_59 rfl (lv_at hl 2 rfl) ?_
      refine W.lcmp hx hb dX5_longestOf_60 ?_
      refine lv_if_le (tgt := 69) hx hb dX5_longestOf_61 (by decide) (fun c_61 => ?_) (fun c_61 => ?_)
      · skip
        have c_61 : (rc_ls (ai 20) (al 4) q9 na) ≤ (rc_lo (ai 20) (al 4) na q9) := (lg_cmp_le _ _).mp c_61
        refine lv_lload_n hx hb dX5_longestOf_69 rfl (lv_at hl 2 rfl) ?_
        refine lv_lstore_n (lv' := [(2, .long (rc_lo (ai 20) (al 4) na q9)), (0, .ref (ad 0)), (1, .ref (ad 20)), (4, .int (nI q9)), (5, .long (rc_ls (ai 20) (al 4) q9 na)), (7, .int (nI na))]) hx hb dX5_longestOf_70 rfl hl (by decide) rfl (fun ls hl => ?_)
        refine lv_iinc (v := nI (q9 + 1)) (lv' := [(4, .int (nI (q9 + 1))), (2, .long (rc_lo (ai 20) (al 4) na q9)), (0, .ref (ad 0)), (1, .ref (ad 20)), (5, .long (rc_ls (ai 20) (al 4) q9 na)), (7, .int (nI na))]) hx hb dX5_longestOf_71 hl (k := 3) rfl (nI_1 q9) (by decide) rfl (fun ls hl => ?_)
        refine lv_goto (tgt := 5) hx hb dX5_longestOf_74 (by decide) ?_
        have e_5_0 : rc_lo (ai 20) (al 4) na (q9 + 1) = rc_lo (ai 20) (al 4) na q9 := by first | rfl | (simp only [rc_lo, c_8, c_23, c_61, if_true, if_false, eq_self, not_true_eq_false, not_false_eq_true, ite_true, ite_false, ↓reduceIte]; done) | (simp [rc_lo, c_8, c_23, c_61]; done)
        refine ih_5 (q9 + 1) (4 - (q9 + 1)) ls (by omega) ⟨rfl, (by omega), ?_⟩
        try dsimp only
        rw [e_5_0]
        exact lv_sub hl [2, 3, 1, 0] rfl
      · skip
        have c_61 : ¬ ((rc_ls (ai 20) (al 4) q9 na) ≤ (rc_lo (ai 20) (al 4) na q9)) := (fun z => c_61 ((lg_cmp_le _ _).mpr z))
        refine lv_lload hx hb dX5_longestOf_64 (lv_at hl 4 rfl) ?_
        refine lv_goto (tgt := 70) hx hb dX5_longestOf_66 (by decide) ?_
        refine lv_lstore_n (lv' := [(2, .long (rc_ls (ai 20) (al 4) q9 na)), (0, .ref (ad 0)), (1, .ref (ad 20)), (4, .int (nI q9)), (5, .long (rc_ls (ai 20) (al 4) q9 na)), (7, .int (nI na))]) hx hb dX5_longestOf_70 rfl hl (by decide) rfl (fun ls hl => ?_)
        refine lv_iinc (v := nI (q9 + 1)) (lv' := [(4, .int (nI (q9 + 1))), (2, .long (rc_ls (ai 20) (al 4) q9 na)), (0, .ref (ad 0)), (1, .ref (ad 20)), (5, .long (rc_ls (ai 20) (al 4) q9 na)), (7, .int (nI na))]) hx hb dX5_longestOf_71 hl (k := 3) rfl (nI_1 q9) (by decide) rfl (fun ls hl => ?_)
        refine lv_goto (tgt := 5) hx hb dX5_longestOf_74 (by decide) ?_
        have e_5_0 : rc_lo (ai 20) (al 4) na (q9 + 1) = rc_ls (ai 20) (al 4) q9 na := by first | rfl | (simp only [rc_lo, c_8, c_23, c_61, if_true, if_false, eq_self, not_true_eq_false, not_false_eq_true, ite_true, ite_false, ↓reduceIte]; done) | (simp [rc_lo, c_8, c_23, c_61]; done)
        refine ih_5 (q9 + 1) (4 - (q9 + 1)) ls (by omega) ⟨rfl, (by omega), ?_⟩
        try dsimp only
        rw [e_5_0]
        exact lv_sub hl [2, 3, 1, 0] rfl
    · skip
      have c_23 : ¬ ((fi 0) ≤ (nI a)) := c_23
      have hkl_23 : a < na := Nat.lt_of_not_le (fun z => c_23 ((am_ge hna (by omega) (by omega)).mpr z))
      refine lv_lload hx hb dX5_longestOf_26 (lv_at hl 4 rfl) ?_
      refine lv_aload_n hx hb dX5_longestOf_28 rfl (lv_at hl 1 rfl) ?_
      refine lv_iload hx hb dX5_longestOf_29 (lv_at hl 5 rfl) ?_
      refine am_iald hx hb hK hP 20 0 rfl rfl a rfl (by omega) (by decide) dX5_longestOf_31 ?_
      refine lv_iload hx hb dX5_longestOf_32 (lv_at hl 3 rfl) ?_
      refine lv_icmp_ne (tgt := 47) hx hb dX5_longestOf_34 (by decide) (fun c_34 => ?_) (fun c_34 => ?_)
      · skip
        have c_34 : ¬ ((ai 20) a) = (nI q9) := c_34
        refine lv_lconst (v := 0) hx hb dX5_longestOf_47 (by decide) ?_
        refine lv_ladd hx hb dX5_longestOf_48 ?_
        refine lv_lstore (lv' := [(5, .long ((rc_ls (ai 20) (al 4) q9 a) + 0)), (0, .ref (ad 0)), (1, .ref (ad 20)), (2, .long (rc_lo (ai 20) (al 4) na q9)), (4, .int (nI q9)), (7, .int (nI a))]) hx hb dX5_longestOf_49 hl (by decide) rfl (fun ls hl => ?_)
        refine lv_iinc (v := nI (a + 1)) (lv' := [(7, .int (nI (a + 1))), (5, .long ((rc_ls (ai 20) (al 4) q9 a) + 0)), (0, .ref (ad 0)), (1, .ref (ad 20)), (2, .long (rc_lo (ai 20) (al 4) na q9)), (4, .int (nI q9))]) hx hb dX5_longestOf_51 hl (k := 5) rfl (nI_1 a) (by decide) rfl (fun ls hl => ?_)
        refine lv_goto (tgt := 17) hx hb dX5_longestOf_54 (by decide) ?_
        have e_17_0 : rc_ls (ai 20) (al 4) q9 (a + 1) = (rc_ls (ai 20) (al 4) q9 a) + 0 := by first | rfl | (simp only [rc_ls, c_8, c_23, c_34, if_true, if_false, eq_self, not_true_eq_false, not_false_eq_true, ite_true, ite_false, ↓reduceIte]; done) | (simp [rc_ls, c_8, c_23, c_34]; done)
        refine ih_17 (a + 1) (na - (a + 1)) ls (by omega) ⟨rfl, (by omega), ?_⟩
        try dsimp only
        rw [e_17_0]
        exact lv_sub hl [2, 3, 4, 5, 1, 0] rfl
      · skip
        have c_34 : ((ai 20) a) = (nI q9) := c_34
        refine lv_aload_n hx hb dX5_longestOf_37 rfl (lv_at hl 0 rfl) ?_
        refine va_get (D := D) (ci := 5) (v := .ref (ad 4)) (C := RX5) (T := TX5) (N := 31) hx hb hts hin_X5 hown hK hP 0 rfl rfl 4 (by decide) hf_19 (fun _ h9 => h9) rfl dX5_longestOf_38 ?_
        refine lv_iload hx hb dX5_longestOf_41 (lv_at hl 5 rfl) ?_
        refine am_lald hx hb hK hP 4 1 rfl rfl a rfl (by omega) (by decide) dX5_longestOf_43 ?_
        refine lv_goto (tgt := 48) hx hb dX5_longestOf_44 (by decide) ?_
        refine lv_ladd hx hb dX5_longestOf_48 ?_
        refine lv_lstore (lv' := [(5, .long ((rc_ls (ai 20) (al 4) q9 a) + ((al 4) a))), (0, .ref (ad 0)), (1, .ref (ad 20)), (2, .long (rc_lo (ai 20) (al 4) na q9)), (4, .int (nI q9)), (7, .int (nI a))]) hx hb dX5_longestOf_49 hl (by decide) rfl (fun ls hl => ?_)
        refine lv_iinc (v := nI (a + 1)) (lv' := [(7, .int (nI (a + 1))), (5, .long ((rc_ls (ai 20) (al 4) q9 a) + ((al 4) a))), (0, .ref (ad 0)), (1, .ref (ad 20)), (2, .long (rc_lo (ai 20) (al 4) na q9)), (4, .int (nI q9))]) hx hb dX5_longestOf_51 hl (k := 5) rfl (nI_1 a) (by decide) rfl (fun ls hl => ?_)
        refine lv_goto (tgt := 17) hx hb dX5_longestOf_54 (by decide) ?_
        have e_17_0 : rc_ls (ai 20) (al 4) q9 (a + 1) = (rc_ls (ai 20) (al 4) q9 a) + ((al 4) a) := by first | rfl | (simp only [rc_ls, c_8, c_23, c_34, if_true, if_false, eq_self, not_true_eq_false, not_false_eq_true, ite_true, ite_false, ↓reduceIte]; done) | (simp [rc_ls, c_8, c_23, c_34]; done)
        refine ih_17 (a + 1) (na - (a + 1)) ls (by omega) ⟨rfl, (by omega), ?_⟩
        try dsimp only
        rw [e_17_0]
        exact lv_sub hl [2, 3, 4, 5, 1, 0] rfl

set_option maxHeartbeats 4000000 in
set_option maxRecDepth 100000 in
theorem c_X5_next (l : Launch) (D : va_G) (ad : Nat → Nat) (cI cL cZ : ClassId) (fi : Nat → Int32) (fl : Nat → Int64) (ai : Nat → Nat → Int32) (al : Nat → Nat → Int64) (A : Nat → Prop) (st : Nat) (na : Nat) (hna : fi 0 = nI na) (hnl : na ≤ 10) : Met l yX5_next wsX5_next (am_rm 0 0) (va_Pc [.ref (ad 0), .int (nI st)] (am_M nwL vwCl D A (rm_w ad cI cL cZ fi fl ai al) [(cI, .int), (cL, .long), (cZ, .boolean)])) (am_Mi vwCl D ((rc_next (nI st) na (ai 20)).2) (rm_w ad cI cL cZ fi fl (va_up ai 20 ((rc_next (nI st) na (ai 20)).1)) al) A) 0 0 A := by
  refine am_startM (cc := cX5_next) (maxL := 3) (ret := (some .boolean)) (by decide) rfl (Nat.le_of_ble_eq_true rfl) [(0, .ref (ad 0)), (1, .int (nI st))] rfl ?_
  intro p e s m below meth c ls hx hb hr hml hown hts hlocks hK hN hD H locs hP hS hl
  have hown : s.vm.findClass RX5 = some m.cls := hown
  have ht := am_ht hts
  have hin_X5 : ∀ w ∈ u_ws RX5 TX5 31, w ∈ wsX5_next := fun w h => List.mem_cons_of_mem _ (am_inX5 w h)
  have hf_76 := ht 459 (.fieldLink RX5 76 "ApartCostModel" "tried" "[I") rfl
  have hf_86 := ht 430 (.fieldLink RX5 86 "ApartCostModel" "count" "I") rfl
  refine lv_aload_n hx hb dX5_next_0 rfl (lv_at hl 0 rfl) ?_
  refine va_get (D := D) (ci := 5) (v := .int (fi 0)) (C := RX5) (T := TX5) (N := 31) hx hb hts hin_X5 hown hK hP 0 rfl rfl 0 (by decide) hf_86 (fun _ h9 => h9) rfl dX5_next_1 ?_
  refine lv_iconst (v := 1) hx hb dX5_next_4 (by decide) ?_
  refine lv_isub hx hb dX5_next_5 ?_
  refine am_topi (ac_la_sub hna) ?_
  refine lv_istore_n (lv' := [(2, .int (ac_la na)), (0, .ref (ad 0)), (1, .int (nI st))]) hx hb dX5_next_6 rfl hl (by decide) rfl (fun ls hl => ?_)
  refine am_loop (σ := (Nat) × (Nat → Int32)) (fun q n9 H locs ls => n9 = q.1 ∧ q.1 ≤ na ∧ rc_next (nI st) q.1 q.2 = rc_next (nI st) na (ai 20) ∧ va_P D vwCl (rm_w ad cI cL cZ fi fl (va_up ai 20 q.2) al) H ∧ va_S A s.heap H locs ∧ lv_has ls 3 [(0, .ref (ad 0)), (1, .int (nI st)), (2, .int (ac_la q.1))]) ?_ (na, (ai 20)) (na) H locs ls ⟨rfl, (by first | omega | (dsimp only; omega)), rfl, hP, hS, lv_sub hl [1, 2, 0] rfl⟩
  rintro ⟨j, ff⟩ n9 H locs ls ⟨hn_7, hjk, hm, hP, hS, hl⟩ ih_7
  dsimp only at hn_7 hjk hm hP hl
  have hD : va_D A (rm_w ad cI cL cZ fi fl (va_up ai 20 ff) al) := am_D hD rfl
  refine lv_iload_n hx hb dX5_next_7 rfl (lv_at hl 2 rfl) ?_
  refine lv_if_lt (tgt := 70) hx hb dX5_next_8 (by decide) (fun c_8 => ?_) (fun c_8 => ?_)
  · skip
    have c_8 : (ac_la j) < 0 := c_8
    obtain rfl : j = 0 := (ac_la_lt (by omega)).mp c_8
    have hl : lv_has ls 3 [(0, .ref (ad 0)), (1, .int (nI st)), (2, .int (-1))] := hl
    refine lv_iconst (v := 0) hx hb dX5_next_70 (by decide) ?_
    have hq : (rc_next (nI st) na (ai 20)) = (ff, 0) := by rw [← hm, rc_next]
    exact am_zretM hx hb hr hlocks (Or.inl rfl) (by rw [hq]; exact hP) hS (by rw [hq]) dX5_next_71
  · skip
    have c_8 : ¬ ((ac_la j) < 0) := c_8
    obtain ⟨a, rfl⟩ : ∃ z, j = z + 1 := by cases j with | zero => exact absurd (by decide +kernel) c_8 | succ z => exact ⟨z, rfl⟩
    have hl : lv_has ls 3 [(0, .ref (ad 0)), (1, .int (nI st)), (2, .int (nI a))] := hl
    refine lv_aload_n hx hb dX5_next_11 rfl (lv_at hl 0 rfl) ?_
    refine va_get (D := D) (ci := 5) (v := .ref (ad 20)) (C := RX5) (T := TX5) (N := 31) hx hb hts hin_X5 hown hK hP 0 rfl rfl 29 (by decide) hf_76 (fun _ h9 => h9) rfl dX5_next_12 ?_
    refine lv_iload_n hx hb dX5_next_15 rfl (lv_at hl 2 rfl) ?_
    refine am_iald hx hb hK hP 20 0 rfl rfl a rfl (by omega) (by decide) dX5_next_16 ?_
    refine lv_if_lt (tgt := 44) hx hb dX5_next_17 (by decide) (fun c_17 => ?_) (fun c_17 => ?_)
    · skip
      have c_17 : (ff a) < 0 := c_17
      refine lv_aload_n hx hb dX5_next_44 rfl (lv_at hl 0 rfl) ?_
      refine va_get (D := D) (ci := 5) (v := .ref (ad 20)) (C := RX5) (T := TX5) (N := 31) hx hb hts hin_X5 hown hK hP 0 rfl rfl 29 (by decide) hf_76 (fun _ h9 => h9) rfl dX5_next_45 ?_
      refine lv_iload_n hx hb dX5_next_48 rfl (lv_at hl 2 rfl) ?_
      refine lv_aload_n hx hb dX5_next_49 rfl (lv_at hl 0 rfl) ?_
      refine va_get (D := D) (ci := 5) (v := .ref (ad 20)) (C := RX5) (T := TX5) (N := 31) hx hb hts hin_X5 hown hK hP 0 rfl rfl 29 (by decide) hf_76 (fun _ h9 => h9) rfl dX5_next_50 ?_
      refine lv_iload_n hx hb dX5_next_53 rfl (lv_at hl 2 rfl) ?_
      refine am_iald hx hb hK hP 20 0 rfl rfl a rfl (by omega) (by decide) dX5_next_54 ?_
      refine lv_if_ge (tgt := 62) hx hb dX5_next_55 (by decide) (fun c_55 => ?_) (fun c_55 => ?_)
      · skip
        have c_55 : 0 ≤ (ff a) := c_55
        exact absurd c_17 (Int32.not_lt.mpr c_55)
      · skip
        have c_55 : ¬ (0 ≤ (ff a)) := c_55
        refine lv_iconst (v := (-1)) hx hb dX5_next_58 (by decide) ?_
        refine lv_goto (tgt := 63) hx hb dX5_next_59 (by decide) ?_
        refine am_iast hx hb hK hP hD hS 20 0 rfl rfl a rfl (by omega) (by decide) (rm_w ad cI cL cZ fi fl (va_up ai 20 (upd ff a (-1))) al) rfl dX5_next_63 (fun H locs hP hD hS => ?_)
        refine lv_iinc (v := ac_la a) (lv' := [(2, .int (ac_la a)), (0, .ref (ad 0)), (1, .int (nI st))]) hx hb dX5_next_64 hl (k := 2) rfl (ac_la_dec a) (by decide) rfl (fun ls hl => ?_)
        refine lv_goto (tgt := 7) hx hb dX5_next_67 (by decide) ?_
        refine ih_7 (a, (upd ff a (-1))) (a) H locs ls (by first | omega | (dsimp only; omega)) ⟨rfl, (by first | omega | (dsimp only; omega)), (by dsimp only; rw [← hm, rc_next]; rw [if_pos c_17]), ?_, hS, ?_⟩
        · exact hP
        · exact lv_sub hl [1, 2, 0] rfl
    · skip
      have c_17 : ¬ ((ff a) < 0) := c_17
      refine lv_aload_n hx hb dX5_next_20 rfl (lv_at hl 0 rfl) ?_
      refine va_get (D := D) (ci := 5) (v := .ref (ad 20)) (C := RX5) (T := TX5) (N := 31) hx hb hts hin_X5 hown hK hP 0 rfl rfl 29 (by decide) hf_76 (fun _ h9 => h9) rfl dX5_next_21 ?_
      refine lv_iload_n hx hb dX5_next_24 rfl (lv_at hl 2 rfl) ?_
      refine am_iald hx hb hK hP 20 0 rfl rfl a rfl (by omega) (by decide) dX5_next_25 ?_
      refine lv_iload_n hx hb dX5_next_26 rfl (lv_at hl 1 rfl) ?_
      refine lv_iconst (v := 1) hx hb dX5_next_27 (by decide) ?_
      refine lv_isub hx hb dX5_next_28 ?_
      refine lv_icmp_ge (tgt := 44) hx hb dX5_next_29 (by decide) (fun c_29 => ?_) (fun c_29 => ?_)
      · skip
        have c_29 : ((nI st) - 1) ≤ (ff a) := c_29
        refine lv_aload_n hx hb dX5_next_44 rfl (lv_at hl 0 rfl) ?_
        refine va_get (D := D) (ci := 5) (v := .ref (ad 20)) (C := RX5) (T := TX5) (N := 31) hx hb hts hin_X5 hown hK hP 0 rfl rfl 29 (by decide) hf_76 (fun _ h9 => h9) rfl dX5_next_45 ?_
        refine lv_iload_n hx hb dX5_next_48 rfl (lv_at hl 2 rfl) ?_
        refine lv_aload_n hx hb dX5_next_49 rfl (lv_at hl 0 rfl) ?_
        refine va_get (D := D) (ci := 5) (v := .ref (ad 20)) (C := RX5) (T := TX5) (N := 31) hx hb hts hin_X5 hown hK hP 0 rfl rfl 29 (by decide) hf_76 (fun _ h9 => h9) rfl dX5_next_50 ?_
        refine lv_iload_n hx hb dX5_next_53 rfl (lv_at hl 2 rfl) ?_
        refine am_iald hx hb hK hP 20 0 rfl rfl a rfl (by omega) (by decide) dX5_next_54 ?_
        refine lv_if_ge (tgt := 62) hx hb dX5_next_55 (by decide) (fun c_55 => ?_) (fun c_55 => ?_)
        · skip
          have c_55 : 0 ≤ (ff a) := c_55
          refine lv_iconst (v := 0) hx hb dX5_next_62 (by decide) ?_
          refine am_iast hx hb hK hP hD hS 20 0 rfl rfl a rfl (by omega) (by decide) (rm_w ad cI cL cZ fi fl (va_up ai 20 (upd ff a 0)) al) rfl dX5_next_63 (fun H locs hP hD hS => ?_)
          refine lv_iinc (v := ac_la a) (lv' := [(2, .int (ac_la a)), (0, .ref (ad 0)), (1, .int (nI st))]) hx hb dX5_next_64 hl (k := 2) rfl (ac_la_dec a) (by decide) rfl (fun ls hl => ?_)
          refine lv_goto (tgt := 7) hx hb dX5_next_67 (by decide) ?_
          refine ih_7 (a, (upd ff a 0)) (a) H locs ls (by first | omega | (dsimp only; omega)) ⟨rfl, (by first | omega | (dsimp only; omega)), (by dsimp only; rw [← hm, rc_next]; rw [if_neg c_17, if_pos c_29]), ?_, hS, ?_⟩
          · exact hP
          · exact lv_sub hl [1, 2, 0] rfl
        · skip
          have c_55 : ¬ (0 ≤ (ff a)) := c_55
          exact absurd (Int32.not_lt.mp c_17) c_55
      · skip
        have c_29 : ¬ (((nI st) - 1) ≤ (ff a)) := c_29
        refine lv_aload_n hx hb dX5_next_32 rfl (lv_at hl 0 rfl) ?_
        refine va_get (D := D) (ci := 5) (v := .ref (ad 20)) (C := RX5) (T := TX5) (N := 31) hx hb hts hin_X5 hown hK hP 0 rfl rfl 29 (by decide) hf_76 (fun _ h9 => h9) rfl dX5_next_33 ?_
        refine lv_iload_n hx hb dX5_next_36 rfl (lv_at hl 2 rfl) ?_
        refine lv_dup2_11 hx hb dX5_next_37 rfl rfl ?_
        refine am_iald hx hb hK hP 20 0 rfl rfl a rfl (by omega) (by decide) dX5_next_38 ?_
        refine lv_iconst (v := 1) hx hb dX5_next_39 (by decide) ?_
        refine lv_iadd hx hb dX5_next_40 ?_
        refine am_iast hx hb hK hP hD hS 20 0 rfl rfl a rfl (by omega) (by decide) (rm_w ad cI cL cZ fi fl (va_up ai 20 (upd ff a ((ff a) + 1))) al) rfl dX5_next_41 (fun H locs hP hD hS => ?_)
        refine lv_iconst (v := 1) hx hb dX5_next_42 (by decide) ?_
        have hq : (rc_next (nI st) na (ai 20)) = (upd ff a (ff a + 1), 1) := by rw [← hm, rc_next, if_neg c_17, if_neg c_29]
        exact am_zretM hx hb hr hlocks (Or.inr rfl) (by rw [hq]; exact hP) hS (by rw [hq]) dX5_next_43

set_option maxHeartbeats 4000000 in
set_option maxRecDepth 100000 in
theorem c_X5_bestWith (l : Launch) (D : va_G) (ad : Nat → Nat) (cI cL cZ : ClassId) (fi : Nat → Int32) (fl : Nat → Int64) (ai : Nat → Nat → Int32) (al : Nat → Nat → Int64) (A : Nat → Prop) (x : Int32) (y : Int32) (na : Nat) (nr : Nat) (hna : fi 0 = nI na) (hnl : na ≤ 10) (hnr : fi 1 = nI nr) (hnrl : nr ≤ 16) (hbe : ∀ p, p < 12 → ¬ ((ai 11) p).toInt64 = 0) (hto : ∀ a, a < na → ∃ t, t < 6 ∧ (ai 2) a = nI t) (hsi : ∀ a, a < na → ∃ t, t < 6 ∧ (ai 3) a = nI t) : Met l yX5_bestWith wsX5_bestWith (am_rm 4 101) (va_Pc [.ref (ad 0), .int x, .int y] (am_M nwL vwCl D A (rm_w ad cI cL cZ fi fl ai al) [(cI, .int), (cL, .long), (cZ, .boolean)])) (am_Ml vwCl D ((rc_best (rc_no (ai 6) na (ai 17) na) (rc_step (ai 2) (ai 3) (al 4) (al 7) (al 8)) (rc_vals (rc_val (ai 1) (ai 5) (ai 10) (ai 11) (ai 12) (al 9) (al 13) x y na nr) (al 19) (2 ^ na)) na 0 0 0 (al 18)).1) (rm_w ad cI cL cZ (upd (upd fi 7 (-1)) 8 y) fl (va_up ai 17 (rc_no (ai 6) na (ai 17) na)) (va_up (va_up al 18 ((rc_best (rc_no (ai 6) na (ai 17) na) (rc_step (ai 2) (ai 3) (al 4) (al 7) (al 8)) (rc_vals (rc_val (ai 1) (ai 5) (ai 10) (ai 11) (ai 12) (al 9) (al 13) x y na nr) (al 19) (2 ^ na)) na 0 0 0 (al 18)).2)) 19 (rc_vals (rc_val (ai 1) (ai 5) (ai 10) (ai 11) (ai 12) (al 9) (al 13) x y na nr) (al 19) (2 ^ na)))) A) 0 0 A := by
  refine am_startM (cc := cX5_bestWith) (maxL := 5) (ret := (some .long)) (by decide) rfl (Nat.le_of_ble_eq_true rfl) [(0, .ref (ad 0)), (1, .int x), (2, .int y)] rfl ?_
  intro p e s m below meth c ls hx hb hr hml hown hts hlocks hK hN hD H locs hP hS hl
  have hown : s.vm.findClass RX5 = some m.cls := hown
  have ht := am_ht hts
  have hin_X5 : ∀ w ∈ u_ws RX5 TX5 31, w ∈ wsX5_bestWith := fun w h => List.mem_cons_of_mem _ (am_inX5 w h)
  have hf_127 := ht 455 (.fieldLink RX5 127 "ApartCostModel" "testedAs" "I") rfl
  have hf_64 := ht 454 (.fieldLink RX5 64 "ApartCostModel" "tested" "I") rfl
  have hp2 := am_p2 hnl
  refine lv_aload_n hx hb dX5_bestWith_0 rfl (lv_at hl 0 rfl) ?_
  refine lv_iload_n hx hb dX5_bestWith_1 rfl (lv_at hl 1 rfl) ?_
  refine va_put (D := D) (ci := 5) (v := .int x) (ty := .int) (C := RX5) (T := TX5) (N := 31) hx hb hts hin_X5 tyX5 tyX5_ok nmX5 hown hK hP hD hS 0 rfl rfl 24 (by decide) hf_64 (fun _ h9 => h9) rfl (by decide +kernel) rfl rfl (Nat.le_of_ble_eq_true rfl) dX5_bestWith_2 (fun H locs hP hD hS => ?_)
  have hP : va_P D vwCl (rm_w ad cI cL cZ (upd fi 7 x) fl ai al) H := hP
  have hD : va_D A (rm_w ad cI cL cZ (upd fi 7 x) fl ai al) := am_D hD rfl
  refine lv_aload_n hx hb dX5_bestWith_5 rfl (lv_at hl 0 rfl) ?_
  refine lv_iload_n hx hb dX5_bestWith_6 rfl (lv_at hl 2 rfl) ?_
  refine va_put (D := D) (ci := 5) (v := .int y) (ty := .int) (C := RX5) (T := TX5) (N := 31) hx hb hts hin_X5 tyX5 tyX5_ok nmX5 hown hK hP hD hS 0 rfl rfl 25 (by decide) hf_127 (fun _ h9 => h9) rfl (by decide +kernel) rfl rfl (Nat.le_of_ble_eq_true rfl) dX5_bestWith_7 (fun H locs hP hD hS => ?_)
  have hP : va_P D vwCl (rm_w ad cI cL cZ (upd (upd fi 7 x) 8 y) fl ai al) H := hP
  have hD : va_D A (rm_w ad cI cL cZ (upd (upd fi 7 x) 8 y) fl ai al) := am_D hD rfl
  refine lv_aload_n hx hb dX5_bestWith_10 rfl (lv_at hl 0 rfl) ?_
  refine am_callMv (va_runV (As := []) (rest := []) ⟨hx, hb, hml, hown, hts⟩ (c_X5_reckonValues l D ad cI cL cZ (upd (upd fi 7 x) 8 y) fl ai al A na nr hna hnl hnr hnrl hbe) (cwV 0 hts (am_gV (am_in 562 rfl) (am_in 563 rfl) (am_in 15 rfl) (am_in 35 rfl) (am_in 564 rfl)) rfl rfl rfl (by decide +kernel) ⟨Nat.le_of_ble_eq_true rfl, Nat.le_of_ble_eq_true rfl⟩) (am_preVM 5 0 rfl rfl rfl hP hK hN hD) rfl rfl hl.1 rfl (lv_room (Nat.le_of_ble_eq_true rfl)) dX5_bestWith_11 ⟨Nat.zero_le _, Nat.zero_le _⟩) hS (fun H locs hP hS => ?_)
  have hP : va_P D vwCl (rm_w ad cI cL cZ (upd (upd fi 7 x) 8 y) fl (va_up ai 17 (rc_no (ai 6) na (ai 17) na)) (va_up al 19 (rc_vals (rc_val (ai 1) (ai 5) (ai 10) (ai 11) (ai 12) (al 9) (al 13) x y na nr) (al 19) (2 ^ na)))) H := hP
  have hD : va_D A (rm_w ad cI cL cZ (upd (upd fi 7 x) 8 y) fl (va_up ai 17 (rc_no (ai 6) na (ai 17) na)) (va_up al 19 (rc_vals (rc_val (ai 1) (ai 5) (ai 10) (ai 11) (ai 12) (al 9) (al 13) x y na nr) (al 19) (2 ^ na)))) := am_D hD rfl
  refine lv_aload_n hx hb dX5_bestWith_14 rfl (lv_at hl 0 rfl) ?_
  refine lv_iconst (v := 0) hx hb dX5_bestWith_15 (by decide) ?_
  refine lv_iconst (v := (-1)) hx hb dX5_bestWith_16 (by decide) ?_
  refine lv_lconst (v := 0) hx hb dX5_bestWith_17 (by decide) ?_
  refine am_callMl (va_runV (As := [.int 0, .int (-1), .long 0]) (rest := []) ⟨hx, hb, hml, hown, hts⟩ (c_X5_bestFrom l D ad cI cL cZ (upd (upd fi 7 x) 8 y) fl (va_up ai 17 (rc_no (ai 6) na (ai 17) na)) (va_up al 19 (rc_vals (rc_val (ai 1) (ai 5) (ai 10) (ai 11) (ai 12) (al 9) (al 13) x y na nr) (al 19) (2 ^ na))) A 0 0 0 na hna hnl hto hsi (by omega) (by omega)) (cwV 3 hts (am_gV (am_in 575 rfl) (am_in 576 rfl) (am_in 19 rfl) (am_in 35 rfl) (am_in 577 rfl)) rfl rfl rfl (by decide +kernel) ⟨Nat.le_of_ble_eq_true rfl, Nat.le_of_ble_eq_true rfl⟩) (am_preVM 5 0 rfl rfl rfl hP hK hN hD) rfl rfl hl.1 rfl (lv_room (Nat.le_of_ble_eq_true rfl)) dX5_bestWith_18 ⟨Nat.zero_le _, Nat.zero_le _⟩) hS (fun H locs hP hS => ?_)
  have hP : va_P D vwCl (rm_w ad cI cL cZ (upd (upd fi 7 x) 8 y) fl (va_up ai 17 (rc_no (ai 6) na (ai 17) na)) (va_up (va_up al 18 ((rc_best (rc_no (ai 6) na (ai 17) na) (rc_step (ai 2) (ai 3) (al 4) (al 7) (al 8)) (rc_vals (rc_val (ai 1) (ai 5) (ai 10) (ai 11) (ai 12) (al 9) (al 13) x y na nr) (al 19) (2 ^ na)) na 0 0 0 (al 18)).2)) 19 (rc_vals (rc_val (ai 1) (ai 5) (ai 10) (ai 11) (ai 12) (al 9) (al 13) x y na nr) (al 19) (2 ^ na)))) H := hP
  have hD : va_D A (rm_w ad cI cL cZ (upd (upd fi 7 x) 8 y) fl (va_up ai 17 (rc_no (ai 6) na (ai 17) na)) (va_up (va_up al 18 ((rc_best (rc_no (ai 6) na (ai 17) na) (rc_step (ai 2) (ai 3) (al 4) (al 7) (al 8)) (rc_vals (rc_val (ai 1) (ai 5) (ai 10) (ai 11) (ai 12) (al 9) (al 13) x y na nr) (al 19) (2 ^ na)) na 0 0 0 (al 18)).2)) 19 (rc_vals (rc_val (ai 1) (ai 5) (ai 10) (ai 11) (ai 12) (al 9) (al 13) x y na nr) (al 19) (2 ^ na)))) := am_D hD rfl
  refine lv_lstore_n (lv' := [(3, .long ((rc_best (rc_no (ai 6) na (ai 17) na) (rc_step (ai 2) (ai 3) (al 4) (al 7) (al 8)) (rc_vals (rc_val (ai 1) (ai 5) (ai 10) (ai 11) (ai 12) (al 9) (al 13) x y na nr) (al 19) (2 ^ na)) na 0 0 0 (al 18)).1)), (0, .ref (ad 0)), (1, .int x), (2, .int y)]) hx hb dX5_bestWith_21 rfl hl (by decide) rfl (fun ls hl => ?_)
  refine lv_aload_n hx hb dX5_bestWith_22 rfl (lv_at hl 1 rfl) ?_
  refine lv_iconst (v := (-1)) hx hb dX5_bestWith_23 (by decide) ?_
  refine va_put (D := D) (ci := 5) (v := .int (-1)) (ty := .int) (C := RX5) (T := TX5) (N := 31) hx hb hts hin_X5 tyX5 tyX5_ok nmX5 hown hK hP hD hS 0 rfl rfl 24 (by decide) hf_64 (fun _ h9 => h9) rfl (by decide +kernel) rfl rfl (Nat.le_of_ble_eq_true rfl) dX5_bestWith_24 (fun H locs hP hD hS => ?_)
  have hP : va_P D vwCl (rm_w ad cI cL cZ (upd (upd fi 7 (-1)) 8 y) fl (va_up ai 17 (rc_no (ai 6) na (ai 17) na)) (va_up (va_up al 18 ((rc_best (rc_no (ai 6) na (ai 17) na) (rc_step (ai 2) (ai 3) (al 4) (al 7) (al 8)) (rc_vals (rc_val (ai 1) (ai 5) (ai 10) (ai 11) (ai 12) (al 9) (al 13) x y na nr) (al 19) (2 ^ na)) na 0 0 0 (al 18)).2)) 19 (rc_vals (rc_val (ai 1) (ai 5) (ai 10) (ai 11) (ai 12) (al 9) (al 13) x y na nr) (al 19) (2 ^ na)))) H := hP
  have hD : va_D A (rm_w ad cI cL cZ (upd (upd fi 7 (-1)) 8 y) fl (va_up ai 17 (rc_no (ai 6) na (ai 17) na)) (va_up (va_up al 18 ((rc_best (rc_no (ai 6) na (ai 17) na) (rc_step (ai 2) (ai 3) (al 4) (al 7) (al 8)) (rc_vals (rc_val (ai 1) (ai 5) (ai 10) (ai 11) (ai 12) (al 9) (al 13) x y na nr) (al 19) (2 ^ na)) na 0 0 0 (al 18)).2)) 19 (rc_vals (rc_val (ai 1) (ai 5) (ai 10) (ai 11) (ai 12) (al 9) (al 13) x y na nr) (al 19) (2 ^ na)))) := am_D hD rfl
  refine lv_lload_n hx hb dX5_bestWith_27 rfl (lv_at hl 0 rfl) ?_
  exact am_lretM hx hb hr hlocks hP hS rfl dX5_bestWith_28

