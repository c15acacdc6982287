set_option maxHeartbeats 4000000 in
set_option maxRecDepth 100000 in
theorem c_X1_addAct (l : Launch) (D : va_G) (ad : Nat → Nat) (cI cL : ClassId) (fi : Nat → Int32) (fl : Nat → Int64) (ai : Nat → Nat → Int32) (al : Nat → Nat → Int64) (A : Nat → Prop) (x : Int32) (t : Int32) (d : Int32) (z : Int64) (na : Nat) (hna : fi 0 = nI na) (hlt : na < 10) : Met l yX1_addAct wsX1_addAct (am_rm 0 0) (va_Pc [.ref (ad 1), .int x, .int t, .int d, .long z] (am_M nwL vwCl D A (ac_w ad cI cL fi fl ai al) [(cI, .int), (cL, .long)])) (am_Mi vwCl D (fi 0) (ac_w ad cI cL (upd fi 0 ((fi 0) + 1)) fl (va_up (va_up (va_up ai 5 (upd (ai 5) na x)) 6 (upd (ai 6) na t)) 7 (upd (ai 7) na d)) (va_up al 8 (vp_updL (al 8) na z))) A) 0 0 A := by
  refine am_startM (cc := cX1_addAct) (maxL := 7) (ret := (some .int)) (by decide) rfl (Nat.le_of_ble_eq_true rfl) [(0, .ref (ad 1)), (1, .int x), (2, .int t), (3, .int d), (4, .long z)] rfl ?_
  intro p e s m below meth c ls hx hb hr hml hown hts hlocks hK hN hD H locs hP hS hl
  have hown : s.vm.findClass RX1 = some m.cls := hown
  have ht := am_ht hts
  have hin_X1 : ∀ w ∈ u_ws RX1 TX1 14, w ∈ wsX1_addAct := fun w h => List.mem_cons_of_mem _ (am_inX1 w h)
  have hf_15 := ht 61 (.fieldLink RX1 15 "ApartCost$Product" "tools" "[I") rfl
  have hf_18 := ht 62 (.fieldLink RX1 18 "ApartCost$Product" "sides" "[I") rfl
  have hf_21 := ht 63 (.fieldLink RX1 21 "ApartCost$Product" "cents" "[J") rfl
  have hf_54 := ht 56 (.fieldLink RX1 54 "ApartCost$Product" "acts" "I") rfl
  have hf_9 := ht 60 (.fieldLink RX1 9 "ApartCost$Product" "frees" "[I") rfl
  refine lv_aload_n hx hb dX1_addAct_0 rfl (lv_at hl 0 rfl) ?_
  refine va_get (D := D) (ci := 1) (v := .int (fi 0)) (C := RX1) (T := TX1) (N := 14) hx hb hts hin_X1 hown hK hP 1 rfl rfl 0 (by decide) hf_54 (fun _ h9 => h9) rfl dX1_addAct_1 ?_
  refine lv_istore (lv' := [(6, .int (fi 0)), (0, .ref (ad 1)), (1, .int x), (2, .int t), (3, .int d), (4, .long z)]) hx hb dX1_addAct_4 hl (by decide) rfl (fun ls hl => ?_)
  refine lv_aload_n hx hb dX1_addAct_6 rfl (lv_at hl 1 rfl) ?_
  refine va_get (D := D) (ci := 1) (v := .ref (ad 5)) (C := RX1) (T := TX1) (N := 14) hx hb hts hin_X1 hown hK hP 1 rfl rfl 1 (by decide) hf_9 (fun _ h9 => h9) rfl dX1_addAct_7 ?_
  refine lv_iload hx hb dX1_addAct_10 (lv_at hl 0 rfl) ?_
  refine lv_iload_n hx hb dX1_addAct_12 rfl (lv_at hl 2 rfl) ?_
  refine am_iast hx hb hK hP hD hS 5 0 rfl rfl na hna (by omega) (by decide) (ac_w ad cI cL fi fl (va_up ai 5 (upd (ai 5) na x)) al) rfl dX1_addAct_13 (fun H locs hP hD hS => ?_)
  refine lv_aload_n hx hb dX1_addAct_14 rfl (lv_at hl 1 rfl) ?_
  refine va_get (D := D) (ci := 1) (v := .ref (ad 6)) (C := RX1) (T := TX1) (N := 14) hx hb hts hin_X1 hown hK hP 1 rfl rfl 2 (by decide) hf_15 (fun _ h9 => h9) rfl dX1_addAct_15 ?_
  refine lv_iload hx hb dX1_addAct_18 (lv_at hl 0 rfl) ?_
  refine lv_iload_n hx hb dX1_addAct_20 rfl (lv_at hl 3 rfl) ?_
  refine am_iast hx hb hK hP hD hS 6 0 rfl rfl na hna (by omega) (by decide) (ac_w ad cI cL fi fl (va_up (va_up ai 5 (upd (ai 5) na x)) 6 (upd (ai 6) na t)) al) rfl dX1_addAct_21 (fun H locs hP hD hS => ?_)
  refine lv_aload_n hx hb dX1_addAct_22 rfl (lv_at hl 1 rfl) ?_
  refine va_get (D := D) (ci := 1) (v := .ref (ad 7)) (C := RX1) (T := TX1) (N := 14) hx hb hts hin_X1 hown hK hP 1 rfl rfl 3 (by decide) hf_18 (fun _ h9 => h9) rfl dX1_addAct_23 ?_
  refine lv_iload hx hb dX1_addAct_26 (lv_at hl 0 rfl) ?_
  refine lv_iload_n hx hb dX1_addAct_28 rfl (lv_at hl 4 rfl) ?_
  refine am_iast hx hb hK hP hD hS 7 0 rfl rfl na hna (by omega) (by decide) (ac_w ad cI cL fi fl (va_up (va_up (va_up ai 5 (upd (ai 5) na x)) 6 (upd (ai 6) na t)) 7 (upd (ai 7) na d)) al) rfl dX1_addAct_29 (fun H locs hP hD hS => ?_)
  refine lv_aload_n hx hb dX1_addAct_30 rfl (lv_at hl 1 rfl) ?_
  refine va_get (D := D) (ci := 1) (v := .ref (ad 8)) (C := RX1) (T := TX1) (N := 14) hx hb hts hin_X1 hown hK hP 1 rfl rfl 4 (by decide) hf_21 (fun _ h9 => h9) rfl dX1_addAct_31 ?_
  refine lv_iload hx hb dX1_addAct_34 (lv_at hl 0 rfl) ?_
  refine lv_lload hx hb dX1_addAct_36 (lv_at hl 5 rfl) ?_
  refine am_last hx hb hK hP hD hS 8 1 rfl rfl na hna (by omega) (by decide) (ac_w ad cI cL fi fl (va_up (va_up (va_up ai 5 (upd (ai 5) na x)) 6 (upd (ai 6) na t)) 7 (upd (ai 7) na d)) (va_up al 8 (vp_updL (al 8) na z))) rfl dX1_addAct_38 (fun H locs hP hD hS => ?_)
  refine lv_aload_n hx hb dX1_addAct_39 rfl (lv_at hl 1 rfl) ?_
  refine lv_dup hx hb dX1_addAct_40 rfl ?_
  refine va_get (D := D) (ci := 1) (v := .int (fi 0)) (C := RX1) (T := TX1) (N := 14) hx hb hts hin_X1 hown hK hP 1 rfl rfl 0 (by decide) hf_54 (fun _ h9 => h9) rfl dX1_addAct_41 ?_
  refine lv_iconst (v := 1) hx hb dX1_addAct_44 (by decide) ?_
  refine lv_iadd hx hb dX1_addAct_45 ?_
  refine va_put (D := D) (ci := 1) (v := .int ((fi 0) + 1)) (ty := .int) (C := RX1) (T := TX1) (N := 14) hx hb hts hin_X1 tyX1 tyX1_ok nmX1 hown hK hP hD hS 1 rfl rfl 0 (by decide) hf_54 (fun _ h9 => h9) rfl (by decide +kernel) rfl rfl (Nat.le_of_ble_eq_true rfl) dX1_addAct_46 (fun H locs hP hD hS => ?_)
  have hP : va_P D vwCl (ac_w ad cI cL (upd fi 0 ((fi 0) + 1)) fl (va_up (va_up (va_up ai 5 (upd (ai 5) na x)) 6 (upd (ai 6) na t)) 7 (upd (ai 7) na d)) (va_up al 8 (vp_updL (al 8) na z))) H := hP
  have hD : va_D A (ac_w ad cI cL (upd fi 0 ((fi 0) + 1)) fl (va_up (va_up (va_up ai 5 (upd (ai 5) na x)) 6 (upd (ai 6) na t)) 7 (upd (ai 7) na d)) (va_up al 8 (vp_updL (al 8) na z))) := am_D hD rfl
  refine lv_iload hx hb dX1_addAct_49 (lv_at hl 0 rfl) ?_
  exact am_iretM hx hb hr hlocks hP hS (by rfl) dX1_addAct_51

set_option maxHeartbeats 4000000 in
set_option maxRecDepth 100000 in
theorem c_X1_addNeed (l : Launch) (D : va_G) (ad : Nat → Nat) (cI cL : ClassId) (fi : Nat → Int32) (fl : Nat → Int64) (ai : Nat → Nat → Int32) (al : Nat → Nat → Int64) (A : Nat → Prop) (a : Nat) (b : Nat) (na : Nat) (hna : fi 0 = nI na) (hnl : na ≤ 10) (ha : a < na) (hb2 : b < na) : Met l yX1_addNeed wsX1_addNeed (am_rm 1 21) (va_Pc [.ref (ad 1), .int (nI a), .int (nI b)] (am_M nwL vwCl D A (ac_w ad cI cL fi fl ai al) [(cI, .int), (cL, .long)])) (am_Mv vwCl D (ac_w ad cI cL fi fl (va_up ai 9 (ac_addNeed ((ai 9) a ||| ((1 : Int32) <<< (nI a &&& 31))) (nI b) (ai 9) na)) al) A) 0 0 A := by
  refine am_startM (cc := cX1_addNeed) (maxL := 5) (ret := none) (by decide) rfl (Nat.le_of_ble_eq_true rfl) [(0, .ref (ad 1)), (1, .int (nI a)), (2, .int (nI b))] rfl ?_
  intro p e s m below meth c ls hx hb hr hml hown hts hlocks hK hN hD H locs hP hS hl
  have hown : s.vm.findClass RX1 = some m.cls := hown
  have ht := am_ht hts
  have hin_X1 : ∀ w ∈ u_ws RX1 TX1 14, w ∈ wsX1_addNeed := fun w h => List.mem_cons_of_mem _ (am_inX1 w h)
  have hf_25 := ht 65 (.fieldLink RX1 25 "ApartCost$Product" "needs" "[I") rfl
  have hf_54 := ht 56 (.fieldLink RX1 54 "ApartCost$Product" "acts" "I") rfl
  refine lv_aload_n hx hb dX1_addNeed_0 rfl (lv_at hl 0 rfl) ?_
  refine va_get (D := D) (ci := 1) (v := .ref (ad 9)) (C := RX1) (T := TX1) (N := 14) hx hb hts hin_X1 hown hK hP 1 rfl rfl 5 (by decide) hf_25 (fun _ h9 => h9) rfl dX1_addNeed_1 ?_
  refine lv_iload_n hx hb dX1_addNeed_4 rfl (lv_at hl 1 rfl) ?_
  refine am_iald hx hb hK hP 9 0 rfl rfl a rfl (by omega) (by decide) dX1_addNeed_5 ?_
  refine lv_iconst (v := 1) hx hb dX1_addNeed_6 (by decide) ?_
  refine lv_iload_n hx hb dX1_addNeed_7 rfl (lv_at hl 1 rfl) ?_
  refine lv_ishl hx hb dX1_addNeed_8 ?_
  refine lv_ior hx hb dX1_addNeed_9 ?_
  refine lv_istore_n (lv' := [(3, .int (((ai 9) a) ||| ((1 : Int32) <<< ((nI a) &&& 31)))), (0, .ref (ad 1)), (1, .int (nI a)), (2, .int (nI b))]) hx hb dX1_addNeed_10 rfl hl (by decide) rfl (fun ls hl => ?_)
  refine lv_iconst (v := 0) hx hb dX1_addNeed_11 (by decide) ?_
  refine lv_istore (lv' := [(4, .int 0), (3, .int (((ai 9) a) ||| ((1 : Int32) <<< ((nI a) &&& 31)))), (0, .ref (ad 1)), (1, .int (nI a)), (2, .int (nI b))]) hx hb dX1_addNeed_12 hl (by decide) rfl (fun ls hl => ?_)
  refine am_loop (σ := Nat) (fun q n9 H locs ls => n9 = na - q ∧ q ≤ na ∧ va_P D vwCl (ac_w ad cI cL fi fl (va_up ai 9 (ac_addNeed ((ai 9) a ||| ((1 : Int32) <<< (nI a &&& 31))) (nI b) (ai 9) q)) al) H ∧ va_S A s.heap H locs ∧ lv_has ls 5 [(0, .ref (ad 1)), (1, .int (nI a)), (2, .int (nI b)), (3, .int (((ai 9) a) ||| ((1 : Int32) <<< ((nI a) &&& 31)))), (4, .int (nI q))]) ?_ 0 (na - 0) H locs ls ⟨rfl, (by omega), hP, hS, lv_sub hl [2, 3, 4, 1, 0] rfl⟩
  rintro k n9 H locs ls ⟨hn_14, hk, hP, hS, hl⟩ ih_14
  have hD : va_D A (ac_w ad cI cL fi fl (va_up ai 9 (ac_addNeed ((ai 9) a ||| ((1 : Int32) <<< (nI a &&& 31))) (nI b) (ai 9) k)) al) := am_D hD rfl
  refine lv_iload hx hb dX1_addNeed_14 (lv_at hl 4 rfl) ?_
  refine lv_aload_n hx hb dX1_addNeed_16 rfl (lv_at hl 0 rfl) ?_
  refine va_get (D := D) (ci := 1) (v := .int (fi 0)) (C := RX1) (T := TX1) (N := 14) hx hb hts hin_X1 hown hK hP 1 rfl rfl 0 (by decide) hf_54 (fun _ h9 => h9) rfl dX1_addNeed_17 ?_
  refine lv_icmp_ge (tgt := 60) hx hb dX1_addNeed_20 (by decide) (fun c_20 => ?_) (fun c_20 => ?_)
  · skip
    have hke_20 : na ≤ k := (am_ge hna (by omega) (by omega)).mp c_20
    have hkq_20 : na = k := by omega
    subst hkq_20
    exact am_vretM hx hb hr hlocks hP hS dX1_addNeed_60
  · skip
    have hkl_20 : k < na := Nat.lt_of_not_le (fun z => c_20 ((am_ge hna (by omega) (by omega)).mpr z))
    refine lv_iload hx hb dX1_addNeed_23 (lv_at hl 4 rfl) ?_
    refine lv_iload_n hx hb dX1_addNeed_25 rfl (lv_at hl 2 rfl) ?_
    refine lv_icmp_eq (tgt := 43) hx hb dX1_addNeed_26 (by decide) (fun c_26 => ?_) (fun c_26 => ?_)
    · skip
      refine lv_aload_n hx hb dX1_addNeed_43 rfl (lv_at hl 0 rfl) ?_
      refine va_get (D := D) (ci := 1) (v := .ref (ad 9)) (C := RX1) (T := TX1) (N := 14) hx hb hts hin_X1 hown hK hP 1 rfl rfl 5 (by decide) hf_25 (fun _ h9 => h9) rfl dX1_addNeed_44 ?_
      refine lv_iload hx hb dX1_addNeed_47 (lv_at hl 4 rfl) ?_
      refine lv_dup2_11 hx hb dX1_addNeed_49 rfl rfl ?_
      refine am_iald hx hb hK hP 9 0 rfl rfl k rfl (by omega) (by decide) dX1_addNeed_50 ?_
      refine lv_iload_n hx hb dX1_addNeed_51 rfl (lv_at hl 3 rfl) ?_
      refine lv_ior hx hb dX1_addNeed_52 ?_
      refine am_iast hx hb hK hP hD hS 9 0 rfl rfl k rfl (by omega) (by decide) (ac_w ad cI cL fi fl (va_up ai 9 (upd (ac_addNeed ((ai 9) a ||| ((1 : Int32) <<< (nI a &&& 31))) (nI b) (ai 9) k) k (((ac_addNeed ((ai 9) a ||| ((1 : Int32) <<< (nI a &&& 31))) (nI b) (ai 9) k) k) ||| (((ai 9) a) ||| ((1 : Int32) <<< ((nI a) &&& 31)))))) al) rfl dX1_addNeed_53 (fun H locs hP hD hS => ?_)
      refine lv_iinc (v := nI (k + 1)) (lv' := [(4, .int (nI (k + 1))), (0, .ref (ad 1)), (1, .int (nI a)), (2, .int (nI b)), (3, .int (((ai 9) a) ||| ((1 : Int32) <<< ((nI a) &&& 31))))]) hx hb dX1_addNeed_54 hl (k := 4) rfl (nI_1 k) (by decide) rfl (fun ls hl => ?_)
      refine lv_goto (tgt := 14) hx hb dX1_addNeed_57 (by decide) ?_
      have e_14_0 : (ac_addNeed ((ai 9) a ||| ((1 : Int32) <<< (nI a &&& 31))) (nI b) (ai 9) (k + 1)) = (upd (ac_addNeed ((ai 9) a ||| ((1 : Int32) <<< (nI a &&& 31))) (nI b) (ai 9) k) k (((ac_addNeed ((ai 9) a ||| ((1 : Int32) <<< (nI a &&& 31))) (nI b) (ai 9) k) k) ||| (((ai 9) a) ||| ((1 : Int32) <<< ((nI a) &&& 31))))) := by first | rfl | (simp only [ac_addNeed, c_20, c_26, if_true, if_false, eq_self, not_true_eq_false, not_false_eq_true, ite_true, ite_false, ↓reduceIte]; done) | (simp [ac_addNeed, c_20, c_26]; done)
      refine ih_14 (k + 1) (na - (k + 1)) H locs ls (by omega) ⟨rfl, (by omega), ?_, hS, ?_⟩
      · (try dsimp only); (try rw [e_14_0]); exact hP
      · (try dsimp only); (try rw [e_14_0]); exact lv_sub hl [1, 2, 3, 4, 0] rfl
    · skip
      refine lv_aload_n hx hb dX1_addNeed_29 rfl (lv_at hl 0 rfl) ?_
      refine va_get (D := D) (ci := 1) (v := .ref (ad 9)) (C := RX1) (T := TX1) (N := 14) hx hb hts hin_X1 hown hK hP 1 rfl rfl 5 (by decide) hf_25 (fun _ h9 => h9) rfl dX1_addNeed_30 ?_
      refine lv_iload hx hb dX1_addNeed_33 (lv_at hl 4 rfl) ?_
      refine am_iald hx hb hK hP 9 0 rfl rfl k rfl (by omega) (by decide) dX1_addNeed_35 ?_
      refine lv_iload_n hx hb dX1_addNeed_36 rfl (lv_at hl 2 rfl) ?_
      refine am_callRi (va_Run.run (va_runSN (As := [.int ((ac_addNeed ((ai 9) a ||| ((1 : Int32) <<< (nI a &&& 31))) (nI b) (ai 9) k) k), .int (nI b)]) (rest := []) ⟨hx, hb, hml, hown, hts⟩ (c_X0_has l D _ _ ((ac_addNeed ((ai 9) a ||| ((1 : Int32) <<< (nI a &&& 31))) (nI b) (ai 9) k) k) (nI b)) ⟨va_cnB 2 hts (am_gN (am_in 206 rfl)) rfl rfl rfl (am_nw_at hN 1 rfl) (ht 29 _ rfl) (by decide +kernel) ⟨Nat.le_of_ble_eq_true rfl, Nat.le_of_ble_eq_true rfl⟩, (ht 205 _ rfl), trivial⟩ (am_preSR hP hK hN) rfl rfl hl.1 rfl (lv_room (Nat.le_of_ble_eq_true rfl)) dX1_addNeed_37 ⟨Nat.zero_le _, Nat.zero_le _⟩)) ?_
      refine lv_if_eq (tgt := 54) hx hb dX1_addNeed_40 (by decide) (fun c_40 => ?_) (fun c_40 => ?_)
      · skip
        refine lv_iinc (v := nI (k + 1)) (lv' := [(4, .int (nI (k + 1))), (0, .ref (ad 1)), (1, .int (nI a)), (2, .int (nI b)), (3, .int (((ai 9) a) ||| ((1 : Int32) <<< ((nI a) &&& 31))))]) hx hb dX1_addNeed_54 hl (k := 4) rfl (nI_1 k) (by decide) rfl (fun ls hl => ?_)
        refine lv_goto (tgt := 14) hx hb dX1_addNeed_57 (by decide) ?_
        have e_14_0 : (ac_addNeed ((ai 9) a ||| ((1 : Int32) <<< (nI a &&& 31))) (nI b) (ai 9) (k + 1)) = (ac_addNeed ((ai 9) a ||| ((1 : Int32) <<< (nI a &&& 31))) (nI b) (ai 9) k) := by first | rfl | (simp only [ac_addNeed, c_20, c_26, c_40, if_true, if_false, eq_self, not_true_eq_false, not_false_eq_true, ite_true, ite_false, ↓reduceIte]; done) | (simp [ac_addNeed, c_20, c_26, c_40]; done)
        refine ih_14 (k + 1) (na - (k + 1)) H locs ls (by omega) ⟨rfl, (by omega), ?_, hS, ?_⟩
        · (try dsimp only); (try rw [e_14_0]); exact hP
        · (try dsimp only); (try rw [e_14_0]); exact lv_sub hl [1, 2, 3, 4, 0] rfl
      · skip
        refine lv_aload_n hx hb dX1_addNeed_43 rfl (lv_at hl 0 rfl) ?_
        refine va_get (D := D) (ci := 1) (v := .ref (ad 9)) (C := RX1) (T := TX1) (N := 14) hx hb hts hin_X1 hown hK hP 1 rfl rfl 5 (by decide) hf_25 (fun _ h9 => h9) rfl dX1_addNeed_44 ?_
        refine lv_iload hx hb dX1_addNeed_47 (lv_at hl 4 rfl) ?_
        refine lv_dup2_11 hx hb dX1_addNeed_49 rfl rfl ?_
        refine am_iald hx hb hK hP 9 0 rfl rfl k rfl (by omega) (by decide) dX1_addNeed_50 ?_
        refine lv_iload_n hx hb dX1_addNeed_51 rfl (lv_at hl 3 rfl) ?_
        refine lv_ior hx hb dX1_addNeed_52 ?_
        refine am_iast hx hb hK hP hD hS 9 0 rfl rfl k rfl (by omega) (by decide) (ac_w ad cI cL fi fl (va_up ai 9 (upd (ac_addNeed ((ai 9) a ||| ((1 : Int32) <<< (nI a &&& 31))) (nI b) (ai 9) k) k (((ac_addNeed ((ai 9) a ||| ((1 : Int32) <<< (nI a &&& 31))) (nI b) (ai 9) k) k) ||| (((ai 9) a) ||| ((1 : Int32) <<< ((nI a) &&& 31)))))) al) rfl dX1_addNeed_53 (fun H locs hP hD hS => ?_)
        refine lv_iinc (v := nI (k + 1)) (lv' := [(4, .int (nI (k + 1))), (0, .ref (ad 1)), (1, .int (nI a)), (2, .int (nI b)), (3, .int (((ai 9) a) ||| ((1 : Int32) <<< ((nI a) &&& 31))))]) hx hb dX1_addNeed_54 hl (k := 4) rfl (nI_1 k) (by decide) rfl (fun ls hl => ?_)
        refine lv_goto (tgt := 14) hx hb dX1_addNeed_57 (by decide) ?_
        have e_14_0 : (ac_addNeed ((ai 9) a ||| ((1 : Int32) <<< (nI a &&& 31))) (nI b) (ai 9) (k + 1)) = (upd (ac_addNeed ((ai 9) a ||| ((1 : Int32) <<< (nI a &&& 31))) (nI b) (ai 9) k) k (((ac_addNeed ((ai 9) a ||| ((1 : Int32) <<< (nI a &&& 31))) (nI b) (ai 9) k) k) ||| (((ai 9) a) ||| ((1 : Int32) <<< ((nI a) &&& 31))))) := by first | rfl | (simp only [ac_addNeed, c_20, c_26, c_40, if_true, if_false, eq_self, not_true_eq_false, not_false_eq_true, ite_true, ite_false, ↓reduceIte]; done) | (simp [ac_addNeed, c_20, c_26, c_40]; done)
        refine ih_14 (k + 1) (na - (k + 1)) H locs ls (by omega) ⟨rfl, (by omega), ?_, hS, ?_⟩
        · (try dsimp only); (try rw [e_14_0]); exact hP
        · (try dsimp only); (try rw [e_14_0]); exact lv_sub hl [1, 2, 3, 4, 0] rfl

set_option maxHeartbeats 4000000 in
set_option maxRecDepth 100000 in
theorem c_X1_tellRest (l : Launch) (D : va_G) (ad : Nat → Nat) (cI cL : ClassId) (fi : Nat → Int32) (fl : Nat → Int64) (ai : Nat → Nat → Int32) (al : Nat → Nat → Int64) (A : Nat → Prop) (x : Int32) (z : Int64) (nr : Nat) (hnr : fi 2 = nI nr) (hnrl : nr ≤ 16) : Met l yX1_tellRest wsX1_tellRest (am_rm 1 22) (va_Pc [.ref (ad 1), .int x, .long z] (am_M nwL vwCl D A (ac_w ad cI cL fi fl ai al) [(cI, .int), (cL, .long)])) (am_Mi vwCl D (if ac_place (ai 14) x nr 0 < 16 then 1 else 0) (ac_w ad cI cL (upd fi 2 (if ac_place (ai 14) x nr 0 < 16 then (if ac_place (ai 14) x nr 0 = nr then (fi 2) + 1 else (fi 2)) else (fi 2))) fl (va_up ai 14 (if ac_place (ai 14) x nr 0 < 16 then upd (ai 14) (ac_place (ai 14) x nr 0) x else (ai 14))) (va_up al 15 (if ac_place (ai 14) x nr 0 < 16 then vp_updL (al 15) (ac_place (ai 14) x nr 0) z else (al 15)))) A) 0 0 A := by
  refine am_startM (cc := cX1_tellRest) (maxL := 5) (ret := (some .boolean)) (by decide) rfl (Nat.le_of_ble_eq_true rfl) [(0, .ref (ad 1)), (1, .int x), (2, .long z)] rfl ?_
  intro p e s m below meth c ls hx hb hr hml hown hts hlocks hK hN hD H locs hP hS hl
  have hown : s.vm.findClass RX1 = some m.cls := hown
  have ht := am_ht hts
  have hin_X1 : ∀ w ∈ u_ws RX1 TX1 14, w ∈ wsX1_tellRest := fun w h => List.mem_cons_of_mem _ (am_inX1 w h)
  have hf_40 := ht 81 (.fieldLink RX1 40 "ApartCost$Product" "restParts" "[I") rfl
  have hf_43 := ht 82 (.fieldLink RX1 43 "ApartCost$Product" "restCents" "[J") rfl
  have hf_66 := ht 79 (.fieldLink RX1 66 "ApartCost$Product" "rests" "I") rfl
  have hpb := (ac_place_le (ai 14) x nr 0).2
  refine lv_aload_n hx hb dX1_tellRest_0 rfl (lv_at hl 0 rfl) ?_
  refine lv_iload_n hx hb dX1_tellRest_1 rfl (lv_at hl 1 rfl) ?_
  refine am_callRi (W.runV (As := [.int x]) (rest := []) ⟨hx, hb, hml, hown, hts⟩ (c_X1_placeOfRest l D ad cI cL fi fl ai al x nr hnr hnrl) (cwV 1 hts (am_gV (am_in 239 rfl) (am_in 240 rfl) (am_in 0 rfl) (am_in 30 rfl) (am_in 241 rfl)) rfl rfl rfl (by decide +kernel) ⟨Nat.le_of_ble_eq_true rfl, Nat.le_of_ble_eq_true rfl⟩) (am_preVR 1 1 rfl rfl rfl hP hK hN) rfl rfl hl.1 rfl (lv_room (Nat.le_of_ble_eq_true rfl)) dX1_tellRest_2 ⟨Nat.zero_le _, Nat.zero_le _⟩) ?_
  refine lv_istore (lv' := [(4, .int (nI (ac_place (ai 14) x nr 0))), (0, .ref (ad 1)), (1, .int x), (2, .long z)]) hx hb dX1_tellRest_5 hl (by decide) rfl (fun ls hl => ?_)
  refine lv_iload hx hb dX1_tellRest_7 (lv_at hl 0 rfl) ?_
  refine lv_bipush (v := 16) hx hb dX1_tellRest_9 (by decide) ?_
  refine lv_icmp_lt (tgt := 16) hx hb dX1_tellRest_11 (by decide) (fun c_11 => ?_) (fun c_11 => ?_)
  · skip
    have hpl : ac_place (ai 14) x nr 0 < 16 := (am_lt16 (by omega)).mp c_11
    refine lv_iload hx hb dX1_tellRest_16 (lv_at hl 0 rfl) ?_
    refine lv_aload_n hx hb dX1_tellRest_18 rfl (lv_at hl 1 rfl) ?_
    refine va_get (D := D) (ci := 1) (v := .int (fi 2)) (C := RX1) (T := TX1) (N := 14) hx hb hts hin_X1 hown hK hP 1 rfl rfl 11 (by decide) hf_66 (fun _ h9 => h9) rfl dX1_tellRest_19 ?_
    refine lv_icmp_ne (tgt := 35) hx hb dX1_tellRest_22 (by decide) (fun c_22 => ?_) (fun c_22 => ?_)
    · skip
      have hpe : ¬ ac_place (ai 14) x nr 0 = nr := fun z => c_22 (by rw [hnr, z])
      refine lv_aload_n hx hb dX1_tellRest_35 rfl (lv_at hl 1 rfl) ?_
      refine va_get (D := D) (ci := 1) (v := .ref (ad 14)) (C := RX1) (T := TX1) (N := 14) hx hb hts hin_X1 hown hK hP 1 rfl rfl 12 (by decide) hf_40 (fun _ h9 => h9) rfl dX1_tellRest_36 ?_
      refine lv_iload hx hb dX1_tellRest_39 (lv_at hl 0 rfl) ?_
      refine lv_iload_n hx hb dX1_tellRest_41 rfl (lv_at hl 2 rfl) ?_
      refine am_iast hx hb hK hP hD hS 14 0 rfl rfl (ac_place (ai 14) x nr 0) rfl (by omega) (by decide) (ac_w ad cI cL fi fl (va_up ai 14 (upd (ai 14) (ac_place (ai 14) x nr 0) x)) al) rfl dX1_tellRest_42 (fun H locs hP hD hS => ?_)
      refine lv_aload_n hx hb dX1_tellRest_43 rfl (lv_at hl 1 rfl) ?_
      refine va_get (D := D) (ci := 1) (v := .ref (ad 15)) (C := RX1) (T := TX1) (N := 14) hx hb hts hin_X1 hown hK hP 1 rfl rfl 13 (by decide) hf_43 (fun _ h9 => h9) rfl dX1_tellRest_44 ?_
      refine lv_iload hx hb dX1_tellRest_47 (lv_at hl 0 rfl) ?_
      refine lv_lload_n hx hb dX1_tellRest_49 rfl (lv_at hl 3 rfl) ?_
      refine am_last hx hb hK hP hD hS 15 1 rfl rfl (ac_place (ai 14) x nr 0) rfl (by omega) (by decide) (ac_w ad cI cL fi fl (va_up ai 14 (upd (ai 14) (ac_place (ai 14) x nr 0) x)) (va_up al 15 (vp_updL (al 15) (ac_place (ai 14) x nr 0) z))) rfl dX1_tellRest_50 (fun H locs hP hD hS => ?_)
      refine lv_iconst (v := 1) hx hb dX1_tellRest_51 (by decide) ?_
      exact am_zretM hx hb hr hlocks (Or.inr rfl) (by simp only [if_pos hpl, if_neg hpe]; exact hP) hS (by rw [if_pos hpl]) dX1_tellRest_52
    · skip
      have hpe : ac_place (ai 14) x nr 0 = nr := by have h := c_22; rw [hnr, nI_eq (by omega) (by omega)] at h; exact h
      refine lv_aload_n hx hb dX1_tellRest_25 rfl (lv_at hl 1 rfl) ?_
      refine lv_dup hx hb dX1_tellRest_26 rfl ?_
      refine va_get (D := D) (ci := 1) (v := .int (fi 2)) (C := RX1) (T := TX1) (N := 14) hx hb hts hin_X1 hown hK hP 1 rfl rfl 11 (by decide) hf_66 (fun _ h9 => h9) rfl dX1_tellRest_27 ?_
      refine lv_iconst (v := 1) hx hb dX1_tellRest_30 (by decide) ?_
      refine lv_iadd hx hb dX1_tellRest_31 ?_
      refine va_put (D := D) (ci := 1) (v := .int ((fi 2) + 1)) (ty := .int) (C := RX1) (T := TX1) (N := 14) hx hb hts hin_X1 tyX1 tyX1_ok nmX1 hown hK hP hD hS 1 rfl rfl 11 (by decide) hf_66 (fun _ h9 => h9) rfl (by decide +kernel) rfl rfl (Nat.le_of_ble_eq_true rfl) dX1_tellRest_32 (fun H locs hP hD hS => ?_)
      have hP : va_P D vwCl (ac_w ad cI cL (upd fi 2 ((fi 2) + 1)) fl ai al) H := hP
      have hD : va_D A (ac_w ad cI cL (upd fi 2 ((fi 2) + 1)) fl ai al) := am_D hD rfl
      refine lv_aload_n hx hb dX1_tellRest_35 rfl (lv_at hl 1 rfl) ?_
      refine va_get (D := D) (ci := 1) (v := .ref (ad 14)) (C := RX1) (T := TX1) (N := 14) hx hb hts hin_X1 hown hK hP 1 rfl rfl 12 (by decide) hf_40 (fun _ h9 => h9) rfl dX1_tellRest_36 ?_
      refine lv_iload hx hb dX1_tellRest_39 (lv_at hl 0 rfl) ?_
      refine lv_iload_n hx hb dX1_tellRest_41 rfl (lv_at hl 2 rfl) ?_
      refine am_iast hx hb hK hP hD hS 14 0 rfl rfl (ac_place (ai 14) x nr 0) rfl (by omega) (by decide) (ac_w ad cI cL (upd fi 2 ((fi 2) + 1)) fl (va_up ai 14 (upd (ai 14) (ac_place (ai 14) x nr 0) x)) al) rfl dX1_tellRest_42 (fun H locs hP hD hS => ?_)
      refine lv_aload_n hx hb dX1_tellRest_43 rfl (lv_at hl 1 rfl) ?_
      refine va_get (D := D) (ci := 1) (v := .ref (ad 15)) (C := RX1) (T := TX1) (N := 14) hx hb hts hin_X1 hown hK hP 1 rfl rfl 13 (by decide) hf_43 (fun _ h9 => h9) rfl dX1_tellRest_44 ?_
      refine lv_iload hx hb dX1_tellRest_47 (lv_at hl 0 rfl) ?_
      refine lv_lload_n hx hb dX1_tellRest_49 rfl (lv_at hl 3 rfl) ?_
      refine am_last hx hb hK hP hD hS 15 1 rfl rfl (ac_place (ai 14) x nr 0) rfl (by omega) (by decide) (ac_w ad cI cL (upd fi 2 ((fi 2) + 1)) fl (va_up ai 14 (upd (ai 14) (ac_place (ai 14) x nr 0) x)) (va_up al 15 (vp_updL (al 15) (ac_place (ai 14) x nr 0) z))) rfl dX1_tellRest_50 (fun H locs hP hD hS => ?_)
      refine lv_iconst (v := 1) hx hb dX1_tellRest_51 (by decide) ?_
      exact am_zretM hx hb hr hlocks (Or.inr rfl) (by simp only [if_pos hpl, if_pos hpe]; exact hP) hS (by rw [if_pos hpl]) dX1_tellRest_52
  · skip
    have hpl : ¬ ac_place (ai 14) x nr 0 < 16 := fun z => c_11 ((am_lt16 (by omega)).mpr z)
    refine lv_iconst (v := 0) hx hb dX1_tellRest_14 (by decide) ?_
    exact am_zretM hx hb hr hlocks (Or.inl rfl) (by simp only [if_neg hpl]; exact hP) hS (by rw [if_neg hpl]) dX1_tellRest_15

set_option maxHeartbeats 4000000 in
set_option maxRecDepth 100000 in
theorem c_X2_valueAsTold (l : Launch) (D : va_G) (ad : Nat → Nat) (cI cL : ClassId) (fi : Nat → Int32) (fl : Nat → Int64) (ai : Nat → Nat → Int32) (al : Nat → Nat → Int64) (A : Nat → Prop) : Met l yX2_valueAsTold wsX2_valueAsTold (am_rm 1 21) (va_Pc [.ref (ad 2)] (am_M nwL vwCl D A (ac_w ad cI cL fi fl ai al) [(cI, .int), (cL, .long)])) (am_Mv vwCl D (ac_w ad cI cL fi fl ai (va_up al 16 (ac_vals (al 12) (al 13) (al 16) 12))) A) 0 0 A := by
  refine am_startM (cc := cX2_valueAsTold) (maxL := 2) (ret := none) (by decide) rfl (Nat.le_of_ble_eq_true rfl) [(0, .ref (ad 2))] rfl ?_
  intro p e s m below meth c ls hx hb hr hml hown hts hlocks hK hN hD H locs hP hS hl
  have hown : s.vm.findClass RX2 = some m.cls := hown
  have ht := am_ht hts
  have hin_X2 : ∀ w ∈ u_ws RX2 TX2 4, w ∈ wsX2_valueAsTold := fun w h => List.mem_cons_of_mem _ (am_inX2 w h)
  have hf_21 := ht 106 (.fieldLink RX2 21 "ApartCost$Planner" "product" "LApartCost$Product;") rfl
  have hf_9 := ht 108 (.fieldLink RX2 9 "ApartCost$Planner" "values" "[J") rfl
  refine lv_iconst (v := 0) hx hb dX2_valueAsTold_0 (by decide) ?_
  refine lv_istore_n (lv' := [(1, .int 0), (0, .ref (ad 2))]) hx hb dX2_valueAsTold_1 rfl hl (by decide) rfl (fun ls hl => ?_)
  refine am_loop (σ := Nat) (fun q n9 H locs ls => n9 = 12 - q ∧ q ≤ 12 ∧ va_P D vwCl (ac_w ad cI cL fi fl ai (va_up al 16 (ac_vals (al 12) (al 13) (al 16) q))) H ∧ va_S A s.heap H locs ∧ lv_has ls 2 [(0, .ref (ad 2)), (1, .int (nI q))]) ?_ 0 (12 - 0) H locs ls ⟨rfl, (by omega), hP, hS, lv_sub hl [1, 0] rfl⟩
  rintro k n9 H locs ls ⟨hn_2, hk, hP, hS, hl⟩ ih_2
  have hD : va_D A (ac_w ad cI cL fi fl ai (va_up al 16 (ac_vals (al 12) (al 13) (al 16) k))) := am_D hD rfl
  refine lv_iload_n hx hb dX2_valueAsTold_2 rfl (lv_at hl 1 rfl) ?_
  refine lv_bipush (v := 12) hx hb dX2_valueAsTold_3 (by decide) ?_
  refine lv_icmp_ge (tgt := 28) hx hb dX2_valueAsTold_5 (by decide) (fun c_5 => ?_) (fun c_5 => ?_)
  · skip
    have hke_5 : 12 ≤ k := (am_ge (rfl : (12 : Int32) = nI 12) (by decide) (by omega)).mp c_5
    have hkq_5 : k = 12 := by omega
    subst hkq_5
    exact am_vretM hx hb hr hlocks hP hS dX2_valueAsTold_28
  · skip
    have hkl_5 : k < 12 := Nat.lt_of_not_le (fun z => c_5 ((am_ge (rfl : (12 : Int32) = nI 12) (by decide) (by omega)).mpr z))
    refine lv_aload_n hx hb dX2_valueAsTold_8 rfl (lv_at hl 0 rfl) ?_
    refine va_get (D := D) (ci := 2) (v := .ref (ad 16)) (C := RX2) (T := TX2) (N := 4) hx hb hts hin_X2 hown hK hP 2 rfl rfl 1 (by decide) hf_9 (fun _ h9 => h9) rfl dX2_valueAsTold_9 ?_
    refine lv_iload_n hx hb dX2_valueAsTold_12 rfl (lv_at hl 1 rfl) ?_
    refine lv_aload_n hx hb dX2_valueAsTold_13 rfl (lv_at hl 0 rfl) ?_
    refine va_get (D := D) (ci := 2) (v := .ref (ad 1)) (C := RX2) (T := TX2) (N := 4) hx hb hts hin_X2 hown hK hP 2 rfl rfl 0 (by decide) hf_21 (fun _ h9 => h9) rfl dX2_valueAsTold_14 ?_
    refine lv_iload_n hx hb dX2_valueAsTold_17 rfl (lv_at hl 1 rfl) ?_
    refine am_callRl (W.runV (As := [.int (nI k)]) (rest := [.int (nI k), .ref (ad 16)]) ⟨hx, hb, hml, hown, hts⟩ (c_X1_valueOf l D ad cI cL fi fl ai (va_up al 16 (ac_vals (al 12) (al 13) (al 16) k)) k (by omega)) (cwV 1 hts (am_gV (am_in 285 rfl) (am_in 286 rfl) (am_in 287 rfl) (am_in 30 rfl) (am_in 288 rfl)) rfl rfl rfl (by decide +kernel) ⟨Nat.le_of_ble_eq_true rfl, Nat.le_of_ble_eq_true rfl⟩) (am_preVR 1 1 rfl rfl rfl hP hK hN) rfl rfl hl.1 rfl (lv_room (Nat.le_of_ble_eq_true rfl)) dX2_valueAsTold_18 ⟨Nat.zero_le _, Nat.zero_le _⟩) ?_
    refine am_last hx hb hK hP hD hS 16 1 rfl rfl k rfl (by omega) (by decide) (ac_w ad cI cL fi fl ai (va_up al 16 (vp_updL (ac_vals (al 12) (al 13) (al 16) k) k ((al 12) k * (al 13) k)))) rfl dX2_valueAsTold_21 (fun H locs hP hD hS => ?_)
    refine lv_iinc (v := nI (k + 1)) (lv' := [(1, .int (nI (k + 1))), (0, .ref (ad 2))]) hx hb dX2_valueAsTold_22 hl (k := 1) rfl (nI_1 k) (by decide) rfl (fun ls hl => ?_)
    refine lv_goto (tgt := 2) hx hb dX2_valueAsTold_25 (by decide) ?_
    have e_2_0 : (ac_vals (al 12) (al 13) (al 16) (k + 1)) = (vp_updL (ac_vals (al 12) (al 13) (al 16) k) k ((al 12) k * (al 13) k)) := by first | rfl | (simp only [ac_vals, c_5, if_true, if_false, eq_self, not_true_eq_false, not_false_eq_true, ite_true, ite_false, ↓reduceIte]; done) | (simp [ac_vals, c_5]; done)
    refine ih_2 (k + 1) (12 - (k + 1)) H locs ls (by omega) ⟨rfl, (by omega), ?_, hS, ?_⟩
    · (try dsimp only); (try rw [e_2_0]); exact hP
    · (try dsimp only); (try rw [e_2_0]); exact lv_sub hl [1, 0] rfl

set_option maxHeartbeats 4000000 in
set_option maxRecDepth 100000 in
theorem c_X2_valueByShare (l : Launch) (D : va_G) (ad : Nat → Nat) (cI cL : ClassId) (fi : Nat → Int32) (fl : Nat → Int64) (ai : Nat → Nat → Int32) (al : Nat → Nat → Int64) (A : Nat → Prop) (a : Nat) (z : Int64) (ha : a < 12) : Met l yX2_valueByShare wsX2_valueByShare (am_rm 0 0) (va_Pc [.ref (ad 2), .int (nI a), .long z] (am_M nwL vwCl D A (ac_w ad cI cL fi fl ai al) [(cI, .int), (cL, .long)])) (am_Mv vwCl D (ac_w ad cI cL fi fl ai (va_up al 16 (vp_updL (al 16) a ((al 12) a * z)))) A) 0 0 A := by
  refine am_startM (cc := cX2_valueByShare) (maxL := 4) (ret := none) (by decide) rfl (Nat.le_of_ble_eq_true rfl) [(0, .ref (ad 2)), (1, .int (nI a)), (2, .long z)] rfl ?_
  intro p e s m below meth c ls hx hb hr hml hown hts hlocks hK hN hD H locs hP hS hl
  have hown : s.vm.findClass RX2 = some m.cls := hown
  have ht := am_ht hts
  have hin_X2 : ∀ w ∈ u_ws RX2 TX2 4, w ∈ wsX2_valueByShare := fun w h => List.mem_cons_of_mem _ (am_inX2 w h)
  have hin_X1 : ∀ w ∈ u_ws RX1 TX1 14, w ∈ wsX2_valueByShare := fun w h => List.mem_cons_of_mem _ (am_inX1 w h)
  have hf_21 := ht 106 (.fieldLink RX2 21 "ApartCost$Planner" "product" "LApartCost$Product;") rfl
  have hf_31 := ht 75 (.fieldLink RX2 31 "ApartCost$Product" "worths" "[J") rfl
  have hf_9 := ht 108 (.fieldLink RX2 9 "ApartCost$Planner" "values" "[J") rfl
  refine lv_aload_n hx hb dX2_valueByShare_0 rfl (lv_at hl 0 rfl) ?_
  refine va_get (D := D) (ci := 2) (v := .ref (ad 16)) (C := RX2) (T := TX2) (N := 4) hx hb hts hin_X2 hown hK hP 2 rfl rfl 1 (by decide) hf_9 (fun _ h9 => h9) rfl dX2_valueByShare_1 ?_
  refine lv_iload_n hx hb dX2_valueByShare_4 rfl (lv_at hl 1 rfl) ?_
  refine lv_aload_n hx hb dX2_valueByShare_5 rfl (lv_at hl 0 rfl) ?_
  refine va_get (D := D) (ci := 2) (v := .ref (ad 1)) (C := RX2) (T := TX2) (N := 4) hx hb hts hin_X2 hown hK hP 2 rfl rfl 0 (by decide) hf_21 (fun _ h9 => h9) rfl dX2_valueByShare_6 ?_
  refine va_get (D := D) (ci := 1) (v := .ref (ad 12)) (C := RX1) (T := TX1) (N := 14) hx hb hts hin_X1 hown hK hP 1 rfl rfl 9 (by decide) hf_31 (fun _ h9 => h9) rfl dX2_valueByShare_9 ?_
  refine lv_iload_n hx hb dX2_valueByShare_12 rfl (lv_at hl 1 rfl) ?_
  refine am_lald hx hb hK hP 12 1 rfl rfl a rfl (by omega) (by decide) dX2_valueByShare_13 ?_
  refine lv_lload_n hx hb dX2_valueByShare_14 rfl (lv_at hl 2 rfl) ?_
  refine lv_lmul hx hb dX2_valueByShare_15 ?_
  refine am_last hx hb hK hP hD hS 16 1 rfl rfl a rfl (by omega) (by decide) (ac_w ad cI cL fi fl ai (va_up al 16 (vp_updL (al 16) a (((al 12) a) * z)))) rfl dX2_valueByShare_16 (fun H locs hP hD hS => ?_)
  exact am_vretM hx hb hr hlocks hP hS dX2_valueByShare_17

