set_option maxHeartbeats 4000000 in
set_option maxRecDepth 100000 in
theorem c_X5_isCents (l : Launch) (D : va_G) (w : va_W) (tys : List (ClassId × FieldType)) (z : Int64) : Met l yX5_isCents wsX5_isCents (am_rm 0 0) (va_Pc [.long z] (am_R nwL vwCl D w tys)) (vp_Si (fun r => r = ac_isPrice z)) 0 0 am_No := by
  refine am_startR (cc := cX5_isCents) (maxL := 2) (ret := (some .boolean)) (by decide) rfl (Nat.le_of_ble_eq_true rfl) [(0, .long z)] rfl ?_
  intro p e s m below meth c ls hx hb hr hml hown hts hlocks hP hK hN hl
  have hown : s.vm.findClass RX5 = some m.cls := hown
  have ht := am_ht hts
  refine lv_lload_n hx hb dX5_isCents_0 rfl (lv_at hl 0 rfl) ?_
  refine lv_lconst (v := 0) hx hb dX5_isCents_1 (by decide) ?_
  refine W.lcmp hx hb dX5_isCents_2 ?_
  refine lv_if_lt (tgt := 18) hx hb dX5_isCents_3 (by decide) (fun c_3 => ?_) (fun c_3 => ?_)
  · skip
    have c_3 : z < 0 := (lg_cmp_lt _ _).mp c_3
    refine lv_iconst (v := 0) hx hb dX5_isCents_18 (by decide) ?_
    exact am_zretR hx hb hr hlocks (Or.inl rfl) (by first | rfl | (simp only [ac_isPrice, c_3, if_true, if_false, eq_self, not_true_eq_false, not_false_eq_true, ite_true, ite_false, ↓reduceIte]; done) | (simp [ac_isPrice, c_3]; done)) dX5_isCents_19
  · skip
    have c_3 : ¬ (z < 0) := (fun z => c_3 ((lg_cmp_lt _ _).mpr z))
    refine lv_lload_n hx hb dX5_isCents_6 rfl (lv_at hl 0 rfl) ?_
    refine lv_ldc2 (v := 1000000) hx hb hown (ht 503 _ rfl) dX5_isCents_7 ?_
    refine W.lcmp hx hb dX5_isCents_10 ?_
    refine lv_if_gt (tgt := 18) hx hb dX5_isCents_11 (by decide) (fun c_11 => ?_) (fun c_11 => ?_)
    · skip
      have c_11 : 1000000 < z := (lg_cmp_gt _ _).mp c_11
      refine lv_iconst (v := 0) hx hb dX5_isCents_18 (by decide) ?_
      exact am_zretR hx hb hr hlocks (Or.inl rfl) (by first | rfl | (simp only [ac_isPrice, c_3, c_11, if_true, if_false, eq_self, not_true_eq_false, not_false_eq_true, ite_true, ite_false, ↓reduceIte]; done) | (simp [ac_isPrice, c_3, c_11]; done)) dX5_isCents_19
    · skip
      have c_11 : ¬ (1000000 < z) := (fun z => c_11 ((lg_cmp_gt _ _).mpr z))
      refine lv_iconst (v := 1) hx hb dX5_isCents_14 (by decide) ?_
      refine lv_goto (tgt := 19) hx hb dX5_isCents_15 (by decide) ?_
      exact am_zretR hx hb hr hlocks (Or.inr rfl) (by first | rfl | (simp only [ac_isPrice, c_3, c_11, if_true, if_false, eq_self, not_true_eq_false, not_false_eq_true, ite_true, ite_false, ↓reduceIte]; done) | (simp [ac_isPrice, c_3, c_11]; done)) dX5_isCents_19

set_option maxHeartbeats 4000000 in
set_option maxRecDepth 100000 in
theorem c_X5_isWorth (l : Launch) (D : va_G) (w : va_W) (tys : List (ClassId × FieldType)) (z : Int64) : Met l yX5_isWorth wsX5_isWorth (am_rm 0 0) (va_Pc [.long z] (am_R nwL vwCl D w tys)) (vp_Si (fun r => r = ac_isWorth z)) 0 0 am_No := by
  refine am_startR (cc := cX5_isWorth) (maxL := 2) (ret := (some .boolean)) (by decide) rfl (Nat.le_of_ble_eq_true rfl) [(0, .long z)] rfl ?_
  intro p e s m below meth c ls hx hb hr hml hown hts hlocks hP hK hN hl
  have hown : s.vm.findClass RX5 = some m.cls := hown
  have ht := am_ht hts
  refine lv_lload_n hx hb dX5_isWorth_0 rfl (lv_at hl 0 rfl) ?_
  refine lv_ldc2 (v := (-1000000)) hx hb hown (ht 532 _ rfl) dX5_isWorth_1 ?_
  refine W.lcmp hx hb dX5_isWorth_4 ?_
  refine lv_if_lt (tgt := 20) hx hb dX5_isWorth_5 (by decide) (fun c_5 => ?_) (fun c_5 => ?_)
  · skip
    have c_5 : z < (-1000000) := (lg_cmp_lt _ _).mp c_5
    refine lv_iconst (v := 0) hx hb dX5_isWorth_20 (by decide) ?_
    exact am_zretR hx hb hr hlocks (Or.inl rfl) (by first | rfl | (simp only [ac_isWorth, c_5, if_true, if_false, eq_self, not_true_eq_false, not_false_eq_true, ite_true, ite_false, ↓reduceIte]; done) | (simp [ac_isWorth, c_5]; done)) dX5_isWorth_21
  · skip
    have c_5 : ¬ (z < (-1000000)) := (fun z => c_5 ((lg_cmp_lt _ _).mpr z))
    refine lv_lload_n hx hb dX5_isWorth_8 rfl (lv_at hl 0 rfl) ?_
    refine lv_ldc2 (v := 1000000) hx hb hown (ht 503 _ rfl) dX5_isWorth_9 ?_
    refine W.lcmp hx hb dX5_isWorth_12 ?_
    refine lv_if_gt (tgt := 20) hx hb dX5_isWorth_13 (by decide) (fun c_13 => ?_) (fun c_13 => ?_)
    · skip
      have c_13 : 1000000 < z := (lg_cmp_gt _ _).mp c_13
      refine lv_iconst (v := 0) hx hb dX5_isWorth_20 (by decide) ?_
      exact am_zretR hx hb hr hlocks (Or.inl rfl) (by first | rfl | (simp only [ac_isWorth, c_5, c_13, if_true, if_false, eq_self, not_true_eq_false, not_false_eq_true, ite_true, ite_false, ↓reduceIte]; done) | (simp [ac_isWorth, c_5, c_13]; done)) dX5_isWorth_21
    · skip
      have c_13 : ¬ (1000000 < z) := (fun z => c_13 ((lg_cmp_gt _ _).mpr z))
      refine lv_iconst (v := 1) hx hb dX5_isWorth_16 (by decide) ?_
      refine lv_goto (tgt := 21) hx hb dX5_isWorth_17 (by decide) ?_
      exact am_zretR hx hb hr hlocks (Or.inr rfl) (by first | rfl | (simp only [ac_isWorth, c_5, c_13, if_true, if_false, eq_self, not_true_eq_false, not_false_eq_true, ite_true, ite_false, ↓reduceIte]; done) | (simp [ac_isWorth, c_5, c_13]; done)) dX5_isWorth_21

set_option maxHeartbeats 4000000 in
set_option maxRecDepth 100000 in
theorem c_X5_isKind (l : Launch) (D : va_G) (w : va_W) (tys : List (ClassId × FieldType)) (x : Int32) : Met l yX5_isKind wsX5_isKind (am_rm 0 0) (va_Pc [.int x] (am_R nwL vwCl D w tys)) (vp_Si (fun r => r = ac_isKind x)) 0 0 am_No := by
  refine am_startR (cc := cX5_isKind) (maxL := 1) (ret := (some .boolean)) (by decide) rfl (Nat.le_of_ble_eq_true rfl) [(0, .int x)] rfl ?_
  intro p e s m below meth c ls hx hb hr hml hown hts hlocks hP hK hN hl
  have hown : s.vm.findClass RX5 = some m.cls := hown
  have ht := am_ht hts
  refine lv_iload_n hx hb dX5_isKind_0 rfl (lv_at hl 0 rfl) ?_
  refine lv_if_lt (tgt := 14) hx hb dX5_isKind_1 (by decide) (fun c_1 => ?_) (fun c_1 => ?_)
  · skip
    have c_1 : x < 0 := c_1
    refine lv_iconst (v := 0) hx hb dX5_isKind_14 (by decide) ?_
    exact am_zretR hx hb hr hlocks (Or.inl rfl) (by first | rfl | (simp only [ac_isKind, c_1, if_true, if_false, eq_self, not_true_eq_false, not_false_eq_true, ite_true, ite_false, ↓reduceIte]; done) | (simp [ac_isKind, c_1]; done)) dX5_isKind_15
  · skip
    have c_1 : ¬ (x < 0) := c_1
    refine lv_iload_n hx hb dX5_isKind_4 rfl (lv_at hl 0 rfl) ?_
    refine lv_bipush (v := 6) hx hb dX5_isKind_5 (by decide) ?_
    refine lv_icmp_ge (tgt := 14) hx hb dX5_isKind_7 (by decide) (fun c_7 => ?_) (fun c_7 => ?_)
    · skip
      have c_7 : 6 ≤ x := c_7
      refine lv_iconst (v := 0) hx hb dX5_isKind_14 (by decide) ?_
      exact am_zretR hx hb hr hlocks (Or.inl rfl) (by first | rfl | (simp only [ac_isKind, c_1, c_7, if_true, if_false, eq_self, not_true_eq_false, not_false_eq_true, ite_true, ite_false, ↓reduceIte]; done) | (simp [ac_isKind, c_1, c_7]; done)) dX5_isKind_15
    · skip
      have c_7 : ¬ (6 ≤ x) := c_7
      refine lv_iconst (v := 1) hx hb dX5_isKind_10 (by decide) ?_
      refine lv_goto (tgt := 15) hx hb dX5_isKind_11 (by decide) ?_
      exact am_zretR hx hb hr hlocks (Or.inr rfl) (by first | rfl | (simp only [ac_isKind, c_1, c_7, if_true, if_false, eq_self, not_true_eq_false, not_false_eq_true, ite_true, ite_false, ↓reduceIte]; done) | (simp [ac_isKind, c_1, c_7]; done)) dX5_isKind_15

set_option maxHeartbeats 4000000 in
set_option maxRecDepth 100000 in
theorem c_X5_isPart (l : Launch) (D : va_G) (w : va_W) (tys : List (ClassId × FieldType)) (x : Int32) : Met l yX5_isPart wsX5_isPart (am_rm 0 0) (va_Pc [.int x] (am_R nwL vwCl D w tys)) (vp_Si (fun r => r = ac_isPart x)) 0 0 am_No := by
  refine am_startR (cc := cX5_isPart) (maxL := 1) (ret := (some .boolean)) (by decide) rfl (Nat.le_of_ble_eq_true rfl) [(0, .int x)] rfl ?_
  intro p e s m below meth c ls hx hb hr hml hown hts hlocks hP hK hN hl
  have hown : s.vm.findClass RX5 = some m.cls := hown
  have ht := am_ht hts
  refine lv_iload_n hx hb dX5_isPart_0 rfl (lv_at hl 0 rfl) ?_
  refine lv_if_lt (tgt := 14) hx hb dX5_isPart_1 (by decide) (fun c_1 => ?_) (fun c_1 => ?_)
  · skip
    have c_1 : x < 0 := c_1
    refine lv_iconst (v := 0) hx hb dX5_isPart_14 (by decide) ?_
    exact am_zretR hx hb hr hlocks (Or.inl rfl) (by first | rfl | (simp only [ac_isPart, c_1, if_true, if_false, eq_self, not_true_eq_false, not_false_eq_true, ite_true, ite_false, ↓reduceIte]; done) | (simp [ac_isPart, c_1]; done)) dX5_isPart_15
  · skip
    have c_1 : ¬ (x < 0) := c_1
    refine lv_iload_n hx hb dX5_isPart_4 rfl (lv_at hl 0 rfl) ?_
    refine lv_bipush (v := 12) hx hb dX5_isPart_5 (by decide) ?_
    refine lv_icmp_ge (tgt := 14) hx hb dX5_isPart_7 (by decide) (fun c_7 => ?_) (fun c_7 => ?_)
    · skip
      have c_7 : 12 ≤ x := c_7
      refine lv_iconst (v := 0) hx hb dX5_isPart_14 (by decide) ?_
      exact am_zretR hx hb hr hlocks (Or.inl rfl) (by first | rfl | (simp only [ac_isPart, c_1, c_7, if_true, if_false, eq_self, not_true_eq_false, not_false_eq_true, ite_true, ite_false, ↓reduceIte]; done) | (simp [ac_isPart, c_1, c_7]; done)) dX5_isPart_15
    · skip
      have c_7 : ¬ (12 ≤ x) := c_7
      refine lv_iconst (v := 1) hx hb dX5_isPart_10 (by decide) ?_
      refine lv_goto (tgt := 15) hx hb dX5_isPart_11 (by decide) ?_
      exact am_zretR hx hb hr hlocks (Or.inr rfl) (by first | rfl | (simp only [ac_isPart, c_1, c_7, if_true, if_false, eq_self, not_true_eq_false, not_false_eq_true, ite_true, ite_false, ↓reduceIte]; done) | (simp [ac_isPart, c_1, c_7]; done)) dX5_isPart_15

set_option maxHeartbeats 4000000 in
set_option maxRecDepth 100000 in
theorem c_X5_has (l : Launch) (D : va_G) (w : va_W) (tys : List (ClassId × FieldType)) (x : Int32) (y : Int32) : Met l yX5_has wsX5_has (am_rm 0 0) (va_Pc [.int x, .int y] (am_R nwL vwCl D w tys)) (vp_Si (fun r => r = rc_has x y)) 0 0 am_No := by
  refine am_startR (cc := cX5_has) (maxL := 2) (ret := (some .boolean)) (by decide) rfl (Nat.le_of_ble_eq_true rfl) [(0, .int x), (1, .int y)] rfl ?_
  intro p e s m below meth c ls hx hb hr hml hown hts hlocks hP hK hN hl
  have hown : s.vm.findClass RX5 = some m.cls := hown
  have ht := am_ht hts
  refine lv_iload_n hx hb dX5_has_0 rfl (lv_at hl 0 rfl) ?_
  refine lv_iload_n hx hb dX5_has_1 rfl (lv_at hl 1 rfl) ?_
  refine lv_ishr hx hb dX5_has_2 ?_
  refine lv_iconst (v := 1) hx hb dX5_has_3 (by decide) ?_
  refine lv_iand hx hb dX5_has_4 ?_
  refine lv_iconst (v := 1) hx hb dX5_has_5 (by decide) ?_
  refine lv_icmp_ne (tgt := 13) hx hb dX5_has_6 (by decide) (fun c_6 => ?_) (fun c_6 => ?_)
  · skip
    have c_6 : ¬ ((x >>> (y &&& 31)) &&& 1) = 1 := c_6
    refine lv_iconst (v := 0) hx hb dX5_has_13 (by decide) ?_
    exact am_zretR hx hb hr hlocks (Or.inl rfl) (by first | rfl | (simp only [rc_has, c_6, if_true, if_false, eq_self, not_true_eq_false, not_false_eq_true, ite_true, ite_false, ↓reduceIte]; done) | (simp [rc_has, c_6]; done)) dX5_has_14
  · skip
    have c_6 : ((x >>> (y &&& 31)) &&& 1) = 1 := c_6
    refine lv_iconst (v := 1) hx hb dX5_has_9 (by decide) ?_
    refine lv_goto (tgt := 14) hx hb dX5_has_10 (by decide) ?_
    exact am_zretR hx hb hr hlocks (Or.inr rfl) (by first | rfl | (simp only [rc_has, c_6, if_true, if_false, eq_self, not_true_eq_false, not_false_eq_true, ite_true, ite_false, ↓reduceIte]; done) | (simp [rc_has, c_6]; done)) dX5_has_14

set_option maxHeartbeats 4000000 in
set_option maxRecDepth 100000 in
theorem c_X5_isAct (l : Launch) (D : va_G) (ad : Nat → Nat) (cI cL cZ : ClassId) (fi : Nat → Int32) (fl : Nat → Int64) (ai : Nat → Nat → Int32) (al : Nat → Nat → Int64) (x : Int32) : Met l yX5_isAct wsX5_isAct (am_rm 0 0) (va_Pc [.ref (ad 0), .int x] (am_R nwL vwCl D (rm_w ad cI cL cZ fi fl ai al) [(cI, .int), (cL, .long), (cZ, .boolean)])) (vp_Si (fun r => r = ac_hasAct (fi 0) x)) 0 0 am_No := by
  refine am_startR (cc := cX5_isAct) (maxL := 2) (ret := (some .boolean)) (by decide) rfl (Nat.le_of_ble_eq_true rfl) [(0, .ref (ad 0)), (1, .int x)] rfl ?_
  intro p e s m below meth c ls hx hb hr hml hown hts hlocks hP hK hN hl
  have hown : s.vm.findClass RX5 = some m.cls := hown
  have ht := am_ht hts
  have hin_X5 : ∀ w ∈ u_ws RX5 TX5 31, w ∈ wsX5_isAct := fun w h => List.mem_cons_of_mem _ (am_inX5 w h)
  have hf_86 := ht 430 (.fieldLink RX5 86 "ApartCostModel" "count" "I") rfl
  refine lv_iload_n hx hb dX5_isAct_0 rfl (lv_at hl 1 rfl) ?_
  refine lv_if_lt (tgt := 16) hx hb dX5_isAct_1 (by decide) (fun c_1 => ?_) (fun c_1 => ?_)
  · skip
    have c_1 : x < 0 := c_1
    refine lv_iconst (v := 0) hx hb dX5_isAct_16 (by decide) ?_
    exact am_zretR hx hb hr hlocks (Or.inl rfl) (by first | rfl | (simp only [ac_hasAct, c_1, if_true, if_false, eq_self, not_true_eq_false, not_false_eq_true, ite_true, ite_false, ↓reduceIte]; done) | (simp [ac_hasAct, c_1]; done)) dX5_isAct_17
  · skip
    have c_1 : ¬ (x < 0) := c_1
    refine lv_iload_n hx hb dX5_isAct_4 rfl (lv_at hl 1 rfl) ?_
    refine lv_aload_n hx hb dX5_isAct_5 rfl (lv_at hl 0 rfl) ?_
    refine va_get (D := D) (ci := 5) (v := .int (fi 0)) (C := RX5) (T := TX5) (N := 31) hx hb hts hin_X5 hown hK hP 0 rfl rfl 0 (by decide) hf_86 (fun _ h9 => h9) rfl dX5_isAct_6 ?_
    refine lv_icmp_ge (tgt := 16) hx hb dX5_isAct_9 (by decide) (fun c_9 => ?_) (fun c_9 => ?_)
    · skip
      have c_9 : (fi 0) ≤ x := c_9
      refine lv_iconst (v := 0) hx hb dX5_isAct_16 (by decide) ?_
      exact am_zretR hx hb hr hlocks (Or.inl rfl) (by first | rfl | (simp only [ac_hasAct, c_1, c_9, if_true, if_false, eq_self, not_true_eq_false, not_false_eq_true, ite_true, ite_false, ↓reduceIte]; done) | (simp [ac_hasAct, c_1, c_9]; done)) dX5_isAct_17
    · skip
      have c_9 : ¬ ((fi 0) ≤ x) := c_9
      refine lv_iconst (v := 1) hx hb dX5_isAct_12 (by decide) ?_
      refine lv_goto (tgt := 17) hx hb dX5_isAct_13 (by decide) ?_
      exact am_zretR hx hb hr hlocks (Or.inr rfl) (by first | rfl | (simp only [ac_hasAct, c_1, c_9, if_true, if_false, eq_self, not_true_eq_false, not_false_eq_true, ite_true, ite_false, ↓reduceIte]; done) | (simp [ac_hasAct, c_1, c_9]; done)) dX5_isAct_17

set_option maxHeartbeats 4000000 in
set_option maxRecDepth 100000 in
theorem c_X5_leadsTo (l : Launch) (D : va_G) (ad : Nat → Nat) (cI cL cZ : ClassId) (fi : Nat → Int32) (fl : Nat → Int64) (ai : Nat → Nat → Int32) (al : Nat → Nat → Int64) (a : Nat) (y9 : Int32) (na : Nat) (hna : fi 0 = nI na) (hnl : na ≤ 10) (ha : a < na) : Met l yX5_leadsTo wsX5_leadsTo (am_rm 0 0) (va_Pc [.ref (ad 0), .int (nI a), .int y9] (am_R nwL vwCl D (rm_w ad cI cL cZ fi fl ai al) [(cI, .int), (cL, .long), (cZ, .boolean)])) (vp_Si (fun r => r = rc_leads (ai 6) na a y9)) 0 0 am_No := by
  refine am_startR (cc := cX5_leadsTo) (maxL := 7) (ret := (some .boolean)) (by decide) rfl (Nat.le_of_ble_eq_true rfl) [(0, .ref (ad 0)), (1, .int (nI a)), (2, .int y9)] rfl ?_
  intro p e s m below meth c ls hx hb hr hml hown hts hlocks hP hK hN hl
  have hown : s.vm.findClass RX5 = some m.cls := hown
  have ht := am_ht hts
  have hin_X5 : ∀ w ∈ u_ws RX5 TX5 31, w ∈ wsX5_leadsTo := fun w h => List.mem_cons_of_mem _ (am_inX5 w h)
  have hf_27 := ht 436 (.fieldLink RX5 27 "ApartCostModel" "needs" "[Z") rfl
  have hf_86 := ht 430 (.fieldLink RX5 86 "ApartCostModel" "count" "I") rfl
  refine lv_iconst (v := 1) hx hb dX5_leadsTo_0 (by decide) ?_
  refine lv_iload_n hx hb dX5_leadsTo_1 rfl (lv_at hl 1 rfl) ?_
  refine lv_ishl hx hb dX5_leadsTo_2 ?_
  refine lv_istore_n (lv' := [(3, .int ((1 : Int32) <<< ((nI a) &&& 31))), (0, .ref (ad 0)), (1, .int (nI a)), (2, .int y9)]) hx hb dX5_leadsTo_3 rfl hl (by decide) rfl (fun ls hl => ?_)
  refine lv_iconst (v := 0) hx hb dX5_leadsTo_4 (by decide) ?_
  refine lv_istore (lv' := [(4, .int 0), (3, .int ((1 : Int32) <<< ((nI a) &&& 31))), (0, .ref (ad 0)), (1, .int (nI a)), (2, .int y9)]) hx hb dX5_leadsTo_5 hl (by decide) rfl (fun ls hl => ?_)
  refine am_loopR (σ := Nat) (fun q n9 ls => n9 = na - q ∧ q ≤ na ∧ lv_has ls 7 [(0, .ref (ad 0)), (1, .int (nI a)), (2, .int y9), (3, .int (rc_lt (ai 6) na ((1 : Int32) <<< (nI a &&& 31)) q)), (4, .int (nI q))]) ?_ 0 (na - 0) ls ⟨rfl, (by omega), lv_sub hl [2, 3, 4, 1, 0] rfl⟩
  rintro t n9 ls ⟨hn_7, hkt, hl⟩ ih_7
  refine lv_iload hx hb dX5_leadsTo_7 (lv_at hl 4 rfl) ?_
  refine lv_aload_n hx hb dX5_leadsTo_9 rfl (lv_at hl 0 rfl) ?_
  refine va_get (D := D) (ci := 5) (v := .int (fi 0)) (C := RX5) (T := TX5) (N := 31) hx hb hts hin_X5 hown hK hP 0 rfl rfl 0 (by decide) hf_86 (fun _ h9 => h9) rfl dX5_leadsTo_10 ?_
  refine lv_icmp_ge (tgt := 95) hx hb dX5_leadsTo_13 (by decide) (fun c_13 => ?_) (fun c_13 => ?_)
  · skip
    have c_13 : (fi 0) ≤ (nI t) := c_13
    have hke_13 : na ≤ t := (am_ge hna (by omega) (by omega)).mp c_13
    have hkq_13 : na = t := by omega
    subst hkq_13
    refine lv_iload_n hx hb dX5_leadsTo_95 rfl (lv_at hl 3 rfl) ?_
    refine lv_iload_n hx hb dX5_leadsTo_96 rfl (lv_at hl 2 rfl) ?_
    refine lv_ishr hx hb dX5_leadsTo_97 ?_
    refine lv_iconst (v := 1) hx hb dX5_leadsTo_98 (by decide) ?_
    refine lv_iand hx hb dX5_leadsTo_99 ?_
    refine lv_iconst (v := 1) hx hb dX5_leadsTo_100 (by decide) ?_
    refine lv_icmp_ne (tgt := 108) hx hb dX5_leadsTo_101 (by decide) (fun c_101 => ?_) (fun c_101 => ?_)
    · skip
      have c_101 : ¬ (((rc_lt (ai 6) na ((1 : Int32) <<< (nI a &&& 31)) na) >>> (y9 &&& 31)) &&& 1) = 1 := c_101
      refine lv_iconst (v := 0) hx hb dX5_leadsTo_108 (by decide) ?_
      exact am_zretR hx hb hr hlocks (Or.inl rfl) (by first | rfl | (simp only [rc_leads, c_13, c_101, if_true, if_false, eq_self, not_true_eq_false, not_false_eq_true, ite_true, ite_false, ↓reduceIte]; done) | (simp [rc_leads, c_13, c_101]; done)) dX5_leadsTo_109
    · skip
      have c_101 : (((rc_lt (ai 6) na ((1 : Int32) <<< (nI a &&& 31)) na) >>> (y9 &&& 31)) &&& 1) = 1 := c_101
      refine lv_iconst (v := 1) hx hb dX5_leadsTo_104 (by decide) ?_
      refine lv_goto (tgt := 109) hx hb dX5_leadsTo_105 (by decide) ?_
      exact am_zretR hx hb hr hlocks (Or.inr rfl) (by first | rfl | (simp only [rc_leads, c_13, c_101, if_true, if_false, eq_self, not_true_eq_false, not_false_eq_true, ite_true, ite_false, ↓reduceIte]; done) | (simp [rc_leads, c_13, c_101]; done)) dX5_leadsTo_109
  · skip
    have c_13 : ¬ ((fi 0) ≤ (nI t)) := c_13
    have hkl_13 : t < na := Nat.lt_of_not_le (fun z => c_13 ((am_ge hna (by omega) (by omega)).mpr z))
    refine lv_iconst (v := 0) hx hb dX5_leadsTo_16 (by decide) ?_
    refine lv_istore (lv' := [(5, .int 0), (0, .ref (ad 0)), (1, .int (nI a)), (2, .int y9), (3, .int (rc_lt (ai 6) na ((1 : Int32) <<< (nI a &&& 31)) t)), (4, .int (nI t))]) hx hb dX5_leadsTo_17 hl (by decide) rfl (fun ls hl => ?_)
    refine am_loopR (σ := Nat) (fun q n9 ls => n9 = na - q ∧ q ≤ na ∧ lv_has ls 7 [(0, .ref (ad 0)), (1, .int (nI a)), (2, .int y9), (3, .int (rc_lx (ai 6) na (rc_lt (ai 6) na ((1 : Int32) <<< (nI a &&& 31)) t) q)), (4, .int (nI t)), (5, .int (nI q))]) ?_ 0 (na - 0) ls ⟨rfl, (by omega), lv_sub hl [1, 2, 3, 4, 5, 0] rfl⟩
    rintro x n9 ls ⟨hn_19, hkx, hl⟩ ih_19
    refine lv_iload hx hb dX5_leadsTo_19 (lv_at hl 5 rfl) ?_
    refine lv_aload_n hx hb dX5_leadsTo_21 rfl (lv_at hl 0 rfl) ?_
    refine va_get (D := D) (ci := 5) (v := .int (fi 0)) (C := RX5) (T := TX5) (N := 31) hx hb hts hin_X5 hown hK hP 0 rfl rfl 0 (by decide) hf_86 (fun _ h9 => h9) rfl dX5_leadsTo_22 ?_
    refine lv_icmp_ge (tgt := 89) hx hb dX5_leadsTo_25 (by decide) (fun c_25 => ?_) (fun c_25 => ?_)
    · skip
      have c_25 : (fi 0) ≤ (nI x) := c_25
      have hke_25 : na ≤ x := (am_ge hna (by omega) (by omega)).mp c_25
      have hkq_25 : na = x := by omega
      subst hkq_25
      refine lv_iinc (v := nI (t + 1)) (lv' := [(4, .int (nI (t + 1))), (0, .ref (ad 0)), (1, .int (nI a)), (2, .int y9), (3, .int (rc_lx (ai 6) na (rc_lt (ai 6) na ((1 : Int32) <<< (nI a &&& 31)) t) na)), (5, .int (nI na))]) hx hb dX5_leadsTo_89 hl (k := 4) rfl (nI_1 t) (by decide) rfl (fun ls hl => ?_)
      refine lv_goto (tgt := 7) hx hb dX5_leadsTo_92 (by decide) ?_
      have e_7_0 : rc_lt (ai 6) na ((1 : Int32) <<< (nI a &&& 31)) (t + 1) = rc_lx (ai 6) na (rc_lt (ai 6) na ((1 : Int32) <<< (nI a &&& 31)) t) na := by first | rfl | (simp only [rc_lt, c_25, if_true, if_false, eq_self, not_true_eq_false, not_false_eq_true, ite_true, ite_false, ↓reduceIte]; done) | (simp [rc_lt, c_25]; done)
      refine ih_7 (t + 1) (na - (t + 1)) ls (by omega) ⟨rfl, (by omega), ?_⟩
      try dsimp only
      rw [e_7_0]
      exact lv_sub hl [1, 2, 3, 4, 0] rfl
    · skip
      have c_25 : ¬ ((fi 0) ≤ (nI x)) := c_25
      have hkl_25 : x < na := Nat.lt_of_not_le (fun z => c_25 ((am_ge hna (by omega) (by omega)).mpr z))
      refine lv_iconst (v := 0) hx hb dX5_leadsTo_28 (by decide) ?_
      refine lv_istore (lv' := [(6, .int 0), (0, .ref (ad 0)), (1, .int (nI a)), (2, .int y9), (3, .int (rc_lx (ai 6) na (rc_lt (ai 6) na ((1 : Int32) <<< (nI a &&& 31)) t) x)), (4, .int (nI t)), (5, .int (nI x))]) hx hb dX5_leadsTo_29 hl (by decide) rfl (fun ls hl => ?_)
      refine am_loopR (σ := Nat) (fun q n9 ls => n9 = na - q ∧ q ≤ na ∧ lv_has ls 7 [(0, .ref (ad 0)), (1, .int (nI a)), (2, .int y9), (3, .int (rc_ly (ai 6) x (rc_lx (ai 6) na (rc_lt (ai 6) na ((1 : Int32) <<< (nI a &&& 31)) t) x) q)), (4, .int (nI t)), (5, .int (nI x)), (6, .int (nI q))]) ?_ 0 (na - 0) ls ⟨rfl, (by omega), lv_sub hl [1, 2, 3, 4, 5, 6, 0] rfl⟩
      rintro y n9 ls ⟨hn_31, hky, hl⟩ ih_31
      refine lv_iload hx hb dX5_leadsTo_31 (lv_at hl 6 rfl) ?_
      refine lv_aload_n hx hb dX5_leadsTo_33 rfl (lv_at hl 0 rfl) ?_
      refine va_get (D := D) (ci := 5) (v := .int (fi 0)) (C := RX5) (T := TX5) (N := 31) hx hb hts hin_X5 hown hK hP 0 rfl rfl 0 (by decide) hf_86 (fun _ h9 => h9) rfl dX5_leadsTo_34 ?_
      refine lv_icmp_ge (tgt := 83) hx hb dX5_leadsTo_37 (by decide) (fun c_37 => ?_) (fun c_37 => ?_)
      · skip
        have c_37 : (fi 0) ≤ (nI y) := c_37
        have hke_37 : na ≤ y := (am_ge hna (by omega) (by omega)).mp c_37
        have hkq_37 : na = y := by omega
        subst hkq_37
        refine lv_iinc (v := nI (x + 1)) (lv' := [(5, .int (nI (x + 1))), (0, .ref (ad 0)), (1, .int (nI a)), (2, .int y9), (3, .int (rc_ly (ai 6) x (rc_lx (ai 6) na (rc_lt (ai 6) na ((1 : Int32) <<< (nI a &&& 31)) t) x) na)), (4, .int (nI t)), (6, .int (nI na))]) hx hb dX5_leadsTo_83 hl (k := 5) rfl (nI_1 x) (by decide) rfl (fun ls hl => ?_)
        refine lv_goto (tgt := 19) hx hb dX5_leadsTo_86 (by decide) ?_
        have e_19_0 : rc_lx (ai 6) na (rc_lt (ai 6) na ((1 : Int32) <<< (nI a &&& 31)) t) (x + 1) = rc_ly (ai 6) x (rc_lx (ai 6) na (rc_lt (ai 6) na ((1 : Int32) <<< (nI a &&& 31)) t) x) na := by first | rfl | (simp only [rc_lx, c_37, if_true, if_false, eq_self, not_true_eq_false, not_false_eq_true, ite_true, ite_false, ↓reduceIte]; done) | (simp [rc_lx, c_37]; done)
        refine ih_19 (x + 1) (na - (x + 1)) ls (by omega) ⟨rfl, (by omega), ?_⟩
        try dsimp only
        rw [e_19_0]
        exact lv_sub hl [1, 2, 3, 4, 5, 0] rfl
      · skip
        have c_37 : ¬ ((fi 0) ≤ (nI y)) := c_37
        have hkl_37 : y < na := Nat.lt_of_not_le (fun z => c_37 ((am_ge hna (by omega) (by omega)).mpr z))
        refine lv_iload_n hx hb dX5_leadsTo_40 rfl (lv_at hl 3 rfl) ?_
        refine lv_iload hx hb dX5_leadsTo_41 (lv_at hl 5 rfl) ?_
        refine lv_ishr hx hb dX5_leadsTo_43 ?_
        refine lv_iconst (v := 1) hx hb dX5_leadsTo_44 (by decide) ?_
        refine lv_iand hx hb dX5_leadsTo_45 ?_
        refine lv_iconst (v := 1) hx hb dX5_leadsTo_46 (by decide) ?_
        refine lv_icmp_ne (tgt := 75) hx hb dX5_leadsTo_47 (by decide) (fun c_47 => ?_) (fun c_47 => ?_)
        · skip
          have c_47 : ¬ (((rc_ly (ai 6) x (rc_lx (ai 6) na (rc_lt (ai 6) na ((1 : Int32) <<< (nI a &&& 31)) t) x) y) >>> ((nI x) &&& 31)) &&& 1) = 1 := c_47
          refine lv_iload_n hx hb dX5_leadsTo_75 rfl (lv_at hl 3 rfl) ?_
          refine lv_istore_n (lv' := [(3, .int (rc_ly (ai 6) x (rc_lx (ai 6) na (rc_lt (ai 6) na ((1 : Int32) <<< (nI a &&& 31)) t) x) y)), (0, .ref (ad 0)), (1, .int (nI a)), (2, .int y9), (4, .int (nI t)), (5, .int (nI x)), (6, .int (nI y))]) hx hb dX5_leadsTo_76 rfl hl (by decide) rfl (fun ls hl => ?_)
          refine lv_iinc (v := nI (y + 1)) (lv' := [(6, .int (nI (y + 1))), (3, .int (rc_ly (ai 6) x (rc_lx (ai 6) na (rc_lt (ai 6) na ((1 : Int32) <<< (nI a &&& 31)) t) x) y)), (0, .ref (ad 0)), (1, .int (nI a)), (2, .int y9), (4, .int (nI t)), (5, .int (nI x))]) hx hb dX5_leadsTo_77 hl (k := 6) rfl (nI_1 y) (by decide) rfl (fun ls hl => ?_)
          refine lv_goto (tgt := 31) hx hb dX5_leadsTo_80 (by decide) ?_
          have e_31_0 : rc_ly (ai 6) x (rc_lx (ai 6) na (rc_lt (ai 6) na ((1 : Int32) <<< (nI a &&& 31)) t) x) (y + 1) = rc_ly (ai 6) x (rc_lx (ai 6) na (rc_lt (ai 6) na ((1 : Int32) <<< (nI a &&& 31)) t) x) y := by first | rfl | (simp only [rc_ly, c_37, c_47, if_true, if_false, eq_self, not_true_eq_false, not_false_eq_true, ite_true, ite_false, ↓reduceIte]; done) | (simp [rc_ly, c_37, c_47]; done)
          refine ih_31 (y + 1) (na - (y + 1)) ls (by omega) ⟨rfl, (by omega), ?_⟩
          try dsimp only
          rw [e_31_0]
          exact lv_sub hl [2, 3, 4, 1, 5, 6, 0] rfl
        · skip
          have c_47 : (((rc_ly (ai 6) x (rc_lx (ai 6) na (rc_lt (ai 6) na ((1 : Int32) <<< (nI a &&& 31)) t) x) y) >>> ((nI x) &&& 31)) &&& 1) = 1 := c_47
          refine lv_aload_n hx hb dX5_leadsTo_50 rfl (lv_at hl 0 rfl) ?_
          refine va_get (D := D) (ci := 5) (v := .ref (ad 6)) (C := RX5) (T := TX5) (N := 31) hx hb hts hin_X5 hown hK hP 0 rfl rfl 6 (by decide) hf_27 (fun _ h9 => h9) rfl dX5_leadsTo_51 ?_
          refine lv_bipush (v := 10) hx hb dX5_leadsTo_54 (by decide) ?_
          refine lv_iload hx hb dX5_leadsTo_56 (lv_at hl 5 rfl) ?_
          refine lv_imul hx hb dX5_leadsTo_58 ?_
          refine lv_iload hx hb dX5_leadsTo_59 (lv_at hl 6 rfl) ?_
          refine lv_iadd hx hb dX5_leadsTo_61 ?_
          refine am_zald hx hb hK hP 6 2 rfl rfl (10 * x + y) (am_x10 x y) (by omega) (by decide) dX5_leadsTo_62 ?_
          refine lv_if_eq (tgt := 75) hx hb dX5_leadsTo_63 (by decide) (fun c_63 => ?_) (fun c_63 => ?_)
          · skip
            have c_63 : ((ai 6) (10 * x + y)) = 0 := c_63
            refine lv_iload_n hx hb dX5_leadsTo_75 rfl (lv_at hl 3 rfl) ?_
            refine lv_istore_n (lv' := [(3, .int (rc_ly (ai 6) x (rc_lx (ai 6) na (rc_lt (ai 6) na ((1 : Int32) <<< (nI a &&& 31)) t) x) y)), (0, .ref (ad 0)), (1, .int (nI a)), (2, .int y9), (4, .int (nI t)), (5, .int (nI x)), (6, .int (nI y))]) hx hb dX5_leadsTo_76 rfl hl (by decide) rfl (fun ls hl => ?_)
            refine lv_iinc (v := nI (y + 1)) (lv' := [(6, .int (nI (y + 1))), (3, .int (rc_ly (ai 6) x (rc_lx (ai 6) na (rc_lt (ai 6) na ((1 : Int32) <<< (nI a &&& 31)) t) x) y)), (0, .ref (ad 0)), (1, .int (nI a)), (2, .int y9), (4, .int (nI t)), (5, .int (nI x))]) hx hb dX5_leadsTo_77 hl (k := 6) rfl (nI_1 y) (by decide) rfl (fun ls hl => ?_)
            refine lv_goto (tgt := 31) hx hb dX5_leadsTo_80 (by decide) ?_
            have e_31_0 : rc_ly (ai 6) x (rc_lx (ai 6) na (rc_lt (ai 6) na ((1 : Int32) <<< (nI a &&& 31)) t) x) (y + 1) = rc_ly (ai 6) x (rc_lx (ai 6) na (rc_lt (ai 6) na ((1 : Int32) <<< (nI a &&& 31)) t) x) y := by first | rfl | (simp only [rc_ly, c_37, c_47, c_63, if_true, if_false, eq_self, not_true_eq_false, not_false_eq_true, ite_true, ite_false, ↓reduceIte]; done) | (simp [rc_ly, c_37, c_47, c_63]; done)
            refine ih_31 (y + 1) (na - (y + 1)) ls (by omega) ⟨rfl, (by omega), ?_⟩
            try dsimp only
            rw [e_31_0]
            exact lv_sub hl [2, 3, 4, 1, 5, 6, 0] rfl
          · skip
            have c_63 : ¬ (((ai 6) (10 * x + y)) = 0) := c_63
            refine lv_iload_n hx hb dX5_leadsTo_66 rfl (lv_at hl 3 rfl) ?_
            refine lv_iconst (v := 1) hx hb dX5_leadsTo_67 (by decide) ?_
            refine lv_iload hx hb dX5_leadsTo_68 (lv_at hl 6 rfl) ?_
            refine lv_ishl hx hb dX5_leadsTo_70 ?_
            refine lv_ior hx hb dX5_leadsTo_71 ?_
            refine lv_goto (tgt := 76) hx hb dX5_leadsTo_72 (by decide) ?_
            refine lv_istore_n (lv' := [(3, .int ((rc_ly (ai 6) x (rc_lx (ai 6) na (rc_lt (ai 6) na ((1 : Int32) <<< (nI a &&& 31)) t) x) y) ||| ((1 : Int32) <<< ((nI y) &&& 31)))), (0, .ref (ad 0)), (1, .int (nI a)), (2, .int y9), (4, .int (nI t)), (5, .int (nI x)), (6, .int (nI y))]) hx hb dX5_leadsTo_76 rfl hl (by decide) rfl (fun ls hl => ?_)
            refine lv_iinc (v := nI (y + 1)) (lv' := [(6, .int (nI (y + 1))), (3, .int ((rc_ly (ai 6) x (rc_lx (ai 6) na (rc_lt (ai 6) na ((1 : Int32) <<< (nI a &&& 31)) t) x) y) ||| ((1 : Int32) <<< ((nI y) &&& 31)))), (0, .ref (ad 0)), (1, .int (nI a)), (2, .int y9), (4, .int (nI t)), (5, .int (nI x))]) hx hb dX5_leadsTo_77 hl (k := 6) rfl (nI_1 y) (by decide) rfl (fun ls hl => ?_)
            refine lv_goto (tgt := 31) hx hb dX5_leadsTo_80 (by decide) ?_
            have e_31_0 : rc_ly (ai 6) x (rc_lx (ai 6) na (rc_lt (ai 6) na ((1 : Int32) <<< (nI a &&& 31)) t) x) (y + 1) = (rc_ly (ai 6) x (rc_lx (ai 6) na (rc_lt (ai 6) na ((1 : Int32) <<< (nI a &&& 31)) t) x) y) ||| ((1 : Int32) <<< ((nI y) &&& 31)) := by first | rfl | (simp only [rc_ly, c_37, c_47, c_63, if_true, if_false, eq_self, not_true_eq_false, not_false_eq_true, ite_true, ite_false, ↓reduceIte]; done) | (simp [rc_ly, c_37, c_47, c_63]; done)
            refine ih_31 (y + 1) (na - (y + 1)) ls (by omega) ⟨rfl, (by omega), ?_⟩
            try dsimp only
            rw [e_31_0]
            exact lv_sub hl [2, 3, 4, 1, 5, 6, 0] rfl

set_option maxHeartbeats 4000000 in
set_option maxRecDepth 100000 in
theorem c_X5_isClosed (l : Launch) (D : va_G) (ad : Nat → Nat) (cI cL cZ : ClassId) (fi : Nat → Int32) (fl : Nat → Int64) (ai : Nat → Nat → Int32) (al : Nat → Nat → Int64) (x : Int32) (na : Nat) (hna : fi 0 = nI na) (hnl : na ≤ 10) : Met l yX5_isClosed wsX5_isClosed (am_rm 1 21) (va_Pc [.ref (ad 0), .int x] (am_R nwL vwCl D (rm_w ad cI cL cZ fi fl ai al) [(cI, .int), (cL, .long), (cZ, .boolean)])) (vp_Si (fun r => r = rc_ca (ai 6) x na na)) 0 0 am_No := by
  refine am_startR (cc := cX5_isClosed) (maxL := 5) (ret := (some .boolean)) (by decide) rfl (Nat.le_of_ble_eq_true rfl) [(0, .ref (ad 0)), (1, .int x)] rfl ?_
  intro p e s m below meth c ls hx hb hr hml hown hts hlocks hP hK hN hl
  have hown : s.vm.findClass RX5 = some m.cls := hown
  have ht := am_ht hts
  have hin_X5 : ∀ w ∈ u_ws RX5 TX5 31, w ∈ wsX5_isClosed := fun w h => List.mem_cons_of_mem _ (am_inX5 w h)
  have hf_27 := ht 436 (.fieldLink RX5 27 "ApartCostModel" "needs" "[Z") rfl
  have hf_86 := ht 430 (.fieldLink RX5 86 "ApartCostModel" "count" "I") rfl
  refine lv_iconst (v := 1) hx hb dX5_isClosed_0 (by decide) ?_
  refine lv_istore_n (lv' := [(2, .int 1), (0, .ref (ad 0)), (1, .int x)]) hx hb dX5_isClosed_1 rfl hl (by decide) rfl (fun ls hl => ?_)
  refine lv_iconst (v := 0) hx hb dX5_isClosed_2 (by decide) ?_
  refine lv_istore_n (lv' := [(3, .int 0), (2, .int 1), (0, .ref (ad 0)), (1, .int x)]) hx hb dX5_isClosed_3 rfl hl (by decide) rfl (fun ls hl => ?_)
  refine am_loopR (σ := Nat) (fun q n9 ls => n9 = na - q ∧ q ≤ na ∧ lv_has ls 5 [(0, .ref (ad 0)), (1, .int x), (2, .int (rc_ca (ai 6) x na q)), (3, .int (nI q))]) ?_ 0 (na - 0) ls ⟨rfl, (by omega), lv_sub hl [2, 3, 1, 0] rfl⟩
  rintro a n9 ls ⟨hn_4, hka, hl⟩ ih_4
  refine lv_iload_n hx hb dX5_isClosed_4 rfl (lv_at hl 3 rfl) ?_
  refine lv_aload_n hx hb dX5_isClosed_5 rfl (lv_at hl 0 rfl) ?_
  refine va_get (D := D) (ci := 5) (v := .int (fi 0)) (C := RX5) (T := TX5) (N := 31) hx hb hts hin_X5 hown hK hP 0 rfl rfl 0 (by decide) hf_86 (fun _ h9 => h9) rfl dX5_isClosed_6 ?_
  refine lv_icmp_ge (tgt := 78) hx hb dX5_isClosed_9 (by decide) (fun c_9 => ?_) (fun c_9 => ?_)
  · skip
    have c_9 : (fi 0) ≤ (nI a) := c_9
    have hke_9 : na ≤ a := (am_ge hna (by omega) (by omega)).mp c_9
    have hkq_9 : na = a := by omega
    subst hkq_9
    refine lv_iload_n hx hb dX5_isClosed_78 rfl (lv_at hl 2 rfl) ?_
    exact am_zretR hx hb hr hlocks (rc_ca_z _ _ _ _) (by first | rfl | (simp only [c_9, if_true, if_false, eq_self, not_true_eq_false, not_false_eq_true, ite_true, ite_false, ↓reduceIte]; done) | (simp [c_9]; done)) dX5_isClosed_79
  · skip
    have c_9 : ¬ ((fi 0) ≤ (nI a)) := c_9
    have hkl_9 : a < na := Nat.lt_of_not_le (fun z => c_9 ((am_ge hna (by omega) (by omega)).mpr z))
    refine lv_iconst (v := 0) hx hb dX5_isClosed_12 (by decide) ?_
    refine lv_istore (lv' := [(4, .int 0), (0, .ref (ad 0)), (1, .int x), (2, .int (rc_ca (ai 6) x na a)), (3, .int (nI a))]) hx hb dX5_isClosed_13 hl (by decide) rfl (fun ls hl => ?_)
    refine am_loopR (σ := Nat) (fun q n9 ls => n9 = na - q ∧ q ≤ na ∧ lv_has ls 5 [(0, .ref (ad 0)), (1, .int x), (2, .int (rc_cb (ai 6) x a (rc_ca (ai 6) x na a) q)), (3, .int (nI a)), (4, .int (nI q))]) ?_ 0 (na - 0) ls ⟨rfl, (by omega), lv_sub hl [1, 2, 3, 4, 0] rfl⟩
    rintro b n9 ls ⟨hn_15, hkb, hl⟩ ih_15
    refine lv_iload hx hb dX5_isClosed_15 (lv_at hl 4 rfl) ?_
    refine lv_aload_n hx hb dX5_isClosed_17 rfl (lv_at hl 0 rfl) ?_
    refine va_get (D := D) (ci := 5) (v := .int (fi 0)) (C := RX5) (T := TX5) (N := 31) hx hb hts hin_X5 hown hK hP 0 rfl rfl 0 (by decide) hf_86 (fun _ h9 => h9) rfl dX5_isClosed_18 ?_
    refine lv_icmp_ge (tgt := 72) hx hb dX5_isClosed_21 (by decide) (fun c_21 => ?_) (fun c_21 => ?_)
    · skip
      have c_21 : (fi 0) ≤ (nI b) := c_21
      have hke_21 : na ≤ b := (am_ge hna (by omega) (by omega)).mp c_21
      have hkq_21 : na = b := by omega
      subst hkq_21
      refine lv_iinc (v := nI (a + 1)) (lv' := [(3, .int (nI (a + 1))), (0, .ref (ad 0)), (1, .int x), (2, .int (rc_cb (ai 6) x a (rc_ca (ai 6) x na a) na)), (4, .int (nI na))]) hx hb dX5_isClosed_72 hl (k := 3) rfl (nI_1 a) (by decide) rfl (fun ls hl => ?_)
      refine lv_goto (tgt := 4) hx hb dX5_isClosed_75 (by decide) ?_
      have e_4_0 : rc_ca (ai 6) x na (a + 1) = rc_cb (ai 6) x a (rc_ca (ai 6) x na a) na := by first | rfl | (simp only [rc_ca, c_21, if_true, if_false, eq_self, not_true_eq_false, not_false_eq_true, ite_true, ite_false, ↓reduceIte]; done) | (simp [rc_ca, c_21]; done)
      refine ih_4 (a + 1) (na - (a + 1)) ls (by omega) ⟨rfl, (by omega), ?_⟩
      try dsimp only
      rw [e_4_0]
      exact lv_sub hl [1, 2, 3, 0] rfl
    · skip
      have c_21 : ¬ ((fi 0) ≤ (nI b)) := c_21
      have hkl_21 : b < na := Nat.lt_of_not_le (fun z => c_21 ((am_ge hna (by omega) (by omega)).mpr z))
      refine lv_iload_n hx hb dX5_isClosed_24 rfl (lv_at hl 2 rfl) ?_
      refine lv_if_eq (tgt := 64) hx hb dX5_isClosed_25 (by decide) (fun c_25 => ?_) (fun c_25 => ?_)
      · skip
        have c_25 : (rc_cb (ai 6) x a (rc_ca (ai 6) x na a) b) = 0 := c_25
        refine lv_iconst (v := 0) hx hb dX5_isClosed_64 (by decide) ?_
        refine lv_istore_n (lv' := [(2, .int 0), (0, .ref (ad 0)), (1, .int x), (3, .int (nI a)), (4, .int (nI b))]) hx hb dX5_isClosed_65 rfl hl (by decide) rfl (fun ls hl => ?_)
        refine lv_iinc (v := nI (b + 1)) (lv' := [(4, .int (nI (b + 1))), (2, .int 0), (0, .ref (ad 0)), (1, .int x), (3, .int (nI a))]) hx hb dX5_isClosed_66 hl (k := 4) rfl (nI_1 b) (by decide) rfl (fun ls hl => ?_)
        refine lv_goto (tgt := 15) hx hb dX5_isClosed_69 (by decide) ?_
        have e_15_0 : rc_cb (ai 6) x a (rc_ca (ai 6) x na a) (b + 1) = 0 := by first | rfl | (simp only [rc_cb, c_21, c_25, if_true, if_false, eq_self, not_true_eq_false, not_false_eq_true, ite_true, ite_false, ↓reduceIte]; done) | (simp [rc_cb, c_21, c_25]; done)
        refine ih_15 (b + 1) (na - (b + 1)) ls (by omega) ⟨rfl, (by omega), ?_⟩
        try dsimp only
        rw [e_15_0]
        exact lv_sub hl [2, 3, 1, 4, 0] rfl
      · skip
        have c_25 : ¬ ((rc_cb (ai 6) x a (rc_ca (ai 6) x na a) b) = 0) := c_25
        refine lv_iload_n hx hb dX5_isClosed_28 rfl (lv_at hl 1 rfl) ?_
        refine lv_iload_n hx hb dX5_isClosed_29 rfl (lv_at hl 3 rfl) ?_
        refine am_callRi (W.runS (As := [.int x, .int (nI a)]) (rest := []) ⟨hx, hb, hml, hown, hts⟩ (c_X5_has l D _ _ x (nI a)) (va_cwS 2 hts (am_gS (am_in 554 rfl) (am_in 555 rfl) (am_in 35 rfl) (am_in 556 rfl)) rfl rfl rfl (by decide +kernel) ⟨Nat.le_of_ble_eq_true rfl, Nat.le_of_ble_eq_true rfl⟩) (am_preSR hP hK hN) rfl rfl hl.1 rfl (lv_room (Nat.le_of_ble_eq_true rfl)) dX5_isClosed_30 ⟨Nat.zero_le _, Nat.zero_le _⟩) ?_
        refine lv_if_eq (tgt := 60) hx hb dX5_isClosed_33 (by decide) (fun c_33 => ?_) (fun c_33 => ?_)
        · skip
          have c_33 : (rc_has x (nI a)) = 0 := c_33
          refine lv_iconst (v := 1) hx hb dX5_isClosed_60 (by decide) ?_
          refine lv_goto (tgt := 65) hx hb dX5_isClosed_61 (by decide) ?_
          refine lv_istore_n (lv' := [(2, .int 1), (0, .ref (ad 0)), (1, .int x), (3, .int (nI a)), (4, .int (nI b))]) hx hb dX5_isClosed_65 rfl hl (by decide) rfl (fun ls hl => ?_)
          refine lv_iinc (v := nI (b + 1)) (lv' := [(4, .int (nI (b + 1))), (2, .int 1), (0, .ref (ad 0)), (1, .int x), (3, .int (nI a))]) hx hb dX5_isClosed_66 hl (k := 4) rfl (nI_1 b) (by decide) rfl (fun ls hl => ?_)
          refine lv_goto (tgt := 15) hx hb dX5_isClosed_69 (by decide) ?_
          have e_15_0 : rc_cb (ai 6) x a (rc_ca (ai 6) x na a) (b + 1) = 1 := by first | rfl | (simp only [rc_cb, c_21, c_25, c_33, if_true, if_false, eq_self, not_true_eq_false, not_false_eq_true, ite_true, ite_false, ↓reduceIte]; done) | (simp [rc_cb, c_21, c_25, c_33]; done)
          refine ih_15 (b + 1) (na - (b + 1)) ls (by omega) ⟨rfl, (by omega), ?_⟩
          try dsimp only
          rw [e_15_0]
          exact lv_sub hl [2, 3, 1, 4, 0] rfl
        · skip
          have c_33 : ¬ ((rc_has x (nI a)) = 0) := c_33
          refine lv_aload_n hx hb dX5_isClosed_36 rfl (lv_at hl 0 rfl) ?_
          refine va_get (D := D) (ci := 5) (v := .ref (ad 6)) (C := RX5) (T := TX5) (N := 31) hx hb hts hin_X5 hown hK hP 0 rfl rfl 6 (by decide) hf_27 (fun _ h9 => h9) rfl dX5_isClosed_37 ?_
          refine lv_bipush (v := 10) hx hb dX5_isClosed_40 (by decide) ?_
          refine lv_iload_n hx hb dX5_isClosed_42 rfl (lv_at hl 3 rfl) ?_
          refine lv_imul hx hb dX5_isClosed_43 ?_
          refine lv_iload hx hb dX5_isClosed_44 (lv_at hl 4 rfl) ?_
          refine lv_iadd hx hb dX5_isClosed_46 ?_
          refine am_zald hx hb hK hP 6 2 rfl rfl (10 * a + b) (am_x10 a b) (by omega) (by decide) dX5_isClosed_47 ?_
          refine lv_if_eq (tgt := 60) hx hb dX5_isClosed_48 (by decide) (fun c_48 => ?_) (fun c_48 => ?_)
          · skip
            have c_48 : ((ai 6) (10 * a + b)) = 0 := c_48
            refine lv_iconst (v := 1) hx hb dX5_isClosed_60 (by decide) ?_
            refine lv_goto (tgt := 65) hx hb dX5_isClosed_61 (by decide) ?_
            refine lv_istore_n (lv' := [(2, .int 1), (0, .ref (ad 0)), (1, .int x), (3, .int (nI a)), (4, .int (nI b))]) hx hb dX5_isClosed_65 rfl hl (by decide) rfl (fun ls hl => ?_)
            refine lv_iinc (v := nI (b + 1)) (lv' := [(4, .int (nI (b + 1))), (2, .int 1), (0, .ref (ad 0)), (1, .int x), (3, .int (nI a))]) hx hb dX5_isClosed_66 hl (k := 4) rfl (nI_1 b) (by decide) rfl (fun ls hl => ?_)
            refine lv_goto (tgt := 15) hx hb dX5_isClosed_69 (by decide) ?_
            have e_15_0 : rc_cb (ai 6) x a (rc_ca (ai 6) x na a) (b + 1) = 1 := by first | rfl | (simp only [rc_cb, c_21, c_25, c_33, c_48, if_true, if_false, eq_self, not_true_eq_false, not_false_eq_true, ite_true, ite_false, ↓reduceIte]; done) | (simp [rc_cb, c_21, c_25, c_33, c_48]; done)
            refine ih_15 (b + 1) (na - (b + 1)) ls (by omega) ⟨rfl, (by omega), ?_⟩
            try dsimp only
            rw [e_15_0]
            exact lv_sub hl [2, 3, 1, 4, 0] rfl
          · skip
            have c_48 : ¬ (((ai 6) (10 * a + b)) = 0) := c_48
            refine lv_iload_n hx hb dX5_isClosed_51 rfl (lv_at hl 1 rfl) ?_
            refine lv_iload hx hb dX5_isClosed_52 (lv_at hl 4 rfl) ?_
            refine am_callRi (W.runS (As := [.int x, .int (nI b)]) (rest := []) ⟨hx, hb, hml, hown, hts⟩ (c_X5_has l D _ _ x (nI b)) (va_cwS 2 hts (am_gS (am_in 554 rfl) (am_in 555 rfl) (am_in 35 rfl) (am_in 556 rfl)) rfl rfl rfl (by decide +kernel) ⟨Nat.le_of_ble_eq_true rfl, Nat.le_of_ble_eq_true rfl⟩) (am_preSR hP hK hN) rfl rfl hl.1 rfl (lv_room (Nat.le_of_ble_eq_true rfl)) dX5_isClosed_54 ⟨Nat.zero_le _, Nat.zero_le _⟩) ?_
            refine lv_if_eq (tgt := 64) hx hb dX5_isClosed_57 (by decide) (fun c_57 => ?_) (fun c_57 => ?_)
            · skip
              have c_57 : (rc_has x (nI b)) = 0 := c_57
              refine lv_iconst (v := 0) hx hb dX5_isClosed_64 (by decide) ?_
              refine lv_istore_n (lv' := [(2, .int 0), (0, .ref (ad 0)), (1, .int x), (3, .int (nI a)), (4, .int (nI b))]) hx hb dX5_isClosed_65 rfl hl (by decide) rfl (fun ls hl => ?_)
              refine lv_iinc (v := nI (b + 1)) (lv' := [(4, .int (nI (b + 1))), (2, .int 0), (0, .ref (ad 0)), (1, .int x), (3, .int (nI a))]) hx hb dX5_isClosed_66 hl (k := 4) rfl (nI_1 b) (by decide) rfl (fun ls hl => ?_)
              refine lv_goto (tgt := 15) hx hb dX5_isClosed_69 (by decide) ?_
              have e_15_0 : rc_cb (ai 6) x a (rc_ca (ai 6) x na a) (b + 1) = 0 := by first | rfl | (simp only [rc_cb, c_21, c_25, c_33, c_48, c_57, if_true, if_false, eq_self, not_true_eq_false, not_false_eq_true, ite_true, ite_false, ↓reduceIte]; done) | (simp [rc_cb, c_21, c_25, c_33, c_48, c_57]; done)
              refine ih_15 (b + 1) (na - (b + 1)) ls (by omega) ⟨rfl, (by omega), ?_⟩
              try dsimp only
              rw [e_15_0]
              exact lv_sub hl [2, 3, 1, 4, 0] rfl
            · skip
              have c_57 : ¬ ((rc_has x (nI b)) = 0) := c_57
              refine lv_iconst (v := 1) hx hb dX5_isClosed_60 (by decide) ?_
              refine lv_goto (tgt := 65) hx hb dX5_isClosed_61 (by decide) ?_
              refine lv_istore_n (lv' := [(2, .int 1), (0, .ref (ad 0)), (1, .int x), (3, .int (nI a)), (4, .int (nI b))]) hx hb dX5_isClosed_65 rfl hl (by decide) rfl (fun ls hl => ?_)
              refine lv_iinc (v := nI (b + 1)) (lv' := [(4, .int (nI (b + 1))), (2, .int 1), (0, .ref (ad 0)), (1, .int x), (3, .int (nI a))]) hx hb dX5_isClosed_66 hl (k := 4) rfl (nI_1 b) (by decide) rfl (fun ls hl => ?_)
              refine lv_goto (tgt := 15) hx hb dX5_isClosed_69 (by decide) ?_
              have e_15_0 : rc_cb (ai 6) x a (rc_ca (ai 6) x na a) (b + 1) = 1 := by first | rfl | (simp only [rc_cb, c_21, c_25, c_33, c_48, c_57, if_true, if_false, eq_self, not_true_eq_false, not_false_eq_true, ite_true, ite_false, ↓reduceIte]; done) | (simp [rc_cb, c_21, c_25, c_33, c_48, c_57]; done)
              refine ih_15 (b + 1) (na - (b + 1)) ls (by omega) ⟨rfl, (by omega), ?_⟩
              try dsimp only
              rw [e_15_0]
              exact lv_sub hl [2, 3, 1, 4, 0] rfl

set_option maxHeartbeats 4000000 in
set_option maxRecDepth 100000 in
theorem c_X5_states (l : Launch) (D : va_G) (ad : Nat → Nat) (cI cL cZ : ClassId) (fi : Nat → Int32) (fl : Nat → Int64) (ai : Nat → Nat → Int32) (al : Nat → Nat → Int64) (na : Nat) (hna : fi 0 = nI na) (hnl : na ≤ 10) : Met l yX5_states wsX5_states (am_rm 2 45) (va_Pc [.ref (ad 0)] (am_R nwL vwCl D (rm_w ad cI cL cZ fi fl ai al) [(cI, .int), (cL, .long), (cZ, .boolean)])) (vp_Sl (fun r => r = rc_st (ai 6) na (2 ^ na - 1))) 0 0 am_No := by
  refine am_startR (cc := cX5_states) (maxL := 7) (ret := (some .long)) (by decide) rfl (Nat.le_of_ble_eq_true rfl) [(0, .ref (ad 0))] rfl ?_
  intro p e s m below meth c ls hx hb hr hml hown hts hlocks hP hK hN hl
  have hown : s.vm.findClass RX5 = some m.cls := hown
  have ht := am_ht hts
  have hin_X5 : ∀ w ∈ u_ws RX5 TX5 31, w ∈ wsX5_states := fun w h => List.mem_cons_of_mem _ (am_inX5 w h)
  have hf_27 := ht 436 (.fieldLink RX5 27 "ApartCostModel" "needs" "[Z") rfl
  have hf_86 := ht 430 (.fieldLink RX5 86 "ApartCostModel" "count" "I") rfl
  have hp2 := am_p2 hnl
  refine lv_lconst (v := 1) hx hb dX5_states_0 (by decide) ?_
  refine lv_lstore_n (lv' := [(1, .long 1), (0, .ref (ad 0))]) hx hb dX5_states_1 rfl hl (by decide) rfl (fun ls hl => ?_)
  refine lv_iconst (v := 1) hx hb dX5_states_2 (by decide) ?_
  refine lv_istore_n (lv' := [(3, .int 1), (1, .long 1), (0, .ref (ad 0))]) hx hb dX5_states_3 rfl hl (by decide) rfl (fun ls hl => ?_)
  refine am_loopR (σ := Nat) (fun q n9 ls => n9 = 2 ^ na - 1 - q ∧ q ≤ 2 ^ na - 1 ∧ lv_has ls 7 [(0, .ref (ad 0)), (1, .long (rc_st (ai 6) na q)), (3, .int (nI (q + 1)))]) ?_ 0 (2 ^ na - 1 - 0) ls ⟨rfl, (by omega), lv_sub hl [2, 1, 0] rfl⟩
  rintro k n9 ls ⟨hn_4, hk, hl⟩ ih_4
  refine lv_iload_n hx hb dX5_states_4 rfl (lv_at hl 2 rfl) ?_
  refine lv_iconst (v := 1) hx hb dX5_states_5 (by decide) ?_
  refine lv_aload_n hx hb dX5_states_6 rfl (lv_at hl 0 rfl) ?_
  refine va_get (D := D) (ci := 5) (v := .int (fi 0)) (C := RX5) (T := TX5) (N := 31) hx hb hts hin_X5 hown hK hP 0 rfl rfl 0 (by decide) hf_86 (fun _ h9 => h9) rfl dX5_states_7 ?_
  refine lv_ishl hx hb dX5_states_10 ?_
  refine am_topi (am_shlc hna hnl) ?_
  refine lv_icmp_ge (tgt := 122) hx hb dX5_states_11 (by decide) (fun c_11 => ?_) (fun c_11 => ?_)
  · skip
    have c_11 : (nI (2 ^ na)) ≤ (nI (k + 1)) := c_11
    have hkq : 2 ^ na - 1 = k := by have := (am_ge (rfl : nI (2 ^ na) = nI (2 ^ na)) (by omega) (by omega)).mp c_11; omega
    subst hkq
    refine lv_lload_n hx hb dX5_states_122 rfl (lv_at hl 1 rfl) ?_
    exact am_lretR hx hb hr hlocks (by first | rfl | (simp only [c_11, if_true, if_false, eq_self, not_true_eq_false, not_false_eq_true, ite_true, ite_false, ↓reduceIte]; done) | (simp [c_11]; done)) dX5_states_123
  · skip
    have c_11 : ¬ ((nI (2 ^ na)) ≤ (nI (k + 1))) := c_11
    have hkl : k + 1 < 2 ^ na := Nat.lt_of_not_le (fun z => c_11 ((am_ge (rfl : nI (2 ^ na) = nI (2 ^ na)) (by omega) (by omega)).mpr z))
    refine lv_iconst (v := 0) hx hb dX5_states_14 (by decide) ?_
    refine lv_istore (lv' := [(4, .int 0), (0, .ref (ad 0)), (1, .long (rc_st (ai 6) na k)), (3, .int (nI (k + 1)))]) hx hb dX5_states_15 hl (by decide) rfl (fun ls hl => ?_)
    refine am_loopR (σ := (Nat) × (Int64)) (fun q n9 ls => n9 = na - q.1 ∧ q.1 ≤ na ∧ rc_sl (ai 6) (nI (k + 1)) na na 0 (rc_st (ai 6) na k) = rc_sl (ai 6) (nI (k + 1)) na (na - q.1) q.1 q.2 ∧ lv_has ls 7 [(0, .ref (ad 0)), (1, .long q.2), (3, .int (nI (k + 1))), (4, .int (nI q.1))]) ?_ (0, (rc_st (ai 6) na k)) (na - 0) ls ⟨rfl, (by first | omega | (dsimp only; omega)), rfl, lv_sub hl [1, 2, 3, 0] rfl⟩
    rintro ⟨b, mz⟩ n9 ls ⟨hn_17, hkb, hm, hl⟩ ih_17
    dsimp only at hn_17 hkb hm hl
    refine lv_iload hx hb dX5_states_17 (lv_at hl 3 rfl) ?_
    refine lv_aload_n hx hb dX5_states_19 rfl (lv_at hl 0 rfl) ?_
    refine va_get (D := D) (ci := 5) (v := .int (fi 0)) (C := RX5) (T := TX5) (N := 31) hx hb hts hin_X5 hown hK hP 0 rfl rfl 0 (by decide) hf_86 (fun _ h9 => h9) rfl dX5_states_20 ?_
    refine lv_icmp_ge (tgt := 116) hx hb dX5_states_23 (by decide) (fun c_23 => ?_) (fun c_23 => ?_)
    · skip
      have c_23 : (fi 0) ≤ (nI b) := c_23
      have hke_23 : na ≤ b := (am_ge hna (by omega) (by omega)).mp c_23
      have hkq_23 : na = b := by omega
      subst hkq_23
      have hmz : mz = rc_sl (ai 6) (nI (k + 1)) na na 0 (rc_st (ai 6) na k) := by rw [hm, Nat.sub_self, rc_sl]
      subst hmz
      have hl : lv_has ls 7 [(0, .ref (ad 0)), (1, .long (rc_sl (ai 6) (nI (k + 1)) na na 0 (rc_st (ai 6) na k))), (3, .int (nI (k + 1))), (4, .int (nI na))] := hl
      refine lv_iinc (v := nI ((k + 1) + 1)) (lv' := [(3, .int (nI ((k + 1) + 1))), (0, .ref (ad 0)), (1, .long (rc_sl (ai 6) (nI (k + 1)) na na 0 (rc_st (ai 6) na k))), (4, .int (nI na))]) hx hb dX5_states_116 hl (k := 2) rfl (nI_1 (k + 1)) (by decide) rfl (fun ls hl => ?_)
      refine lv_goto (tgt := 4) hx hb dX5_states_119 (by decide) ?_
      have e_4_0 : rc_st (ai 6) na (k + 1) = rc_sl (ai 6) (nI (k + 1)) na na 0 (rc_st (ai 6) na k) := by first | rfl | (simp only [rc_st, c_23, if_true, if_false, eq_self, not_true_eq_false, not_false_eq_true, ite_true, ite_false, ↓reduceIte]; done) | (simp [rc_st, c_23]; done)
      refine ih_4 (k + 1) (2 ^ na - 1 - (k + 1)) ls (by omega) ⟨rfl, (by omega), ?_⟩
      try dsimp only
      rw [e_4_0]
      exact lv_sub hl [1, 2, 0] rfl
    · skip
      have c_23 : ¬ ((fi 0) ≤ (nI b)) := c_23
      have hkl_23 : b < na := Nat.lt_of_not_le (fun z => c_23 ((am_ge hna (by omega) (by omega)).mpr z))
      refine lv_aload_n hx hb dX5_states_26 rfl (lv_at hl 0 rfl) ?_
      refine lv_iload_n hx hb dX5_states_27 rfl (lv_at hl 2 rfl) ?_
      refine am_callRi (W.runV (As := [.int (nI (k + 1))]) (rest := []) ⟨hx, hb, hml, hown, hts⟩ (c_X5_isClosed l D ad cI cL cZ fi fl ai al (nI (k + 1)) na hna hnl) (cwV 1 hts (am_gV (am_in 551 rfl) (am_in 552 rfl) (am_in 14 rfl) (am_in 35 rfl) (am_in 553 rfl)) rfl rfl rfl (by decide +kernel) ⟨Nat.le_of_ble_eq_true rfl, Nat.le_of_ble_eq_true rfl⟩) (am_preVR 5 0 rfl rfl rfl hP hK hN) rfl rfl hl.1 rfl (lv_room (Nat.le_of_ble_eq_true rfl)) dX5_states_28 ⟨Nat.zero_le _, Nat.zero_le _⟩) ?_
      refine lv_if_eq (tgt := 116) hx hb dX5_states_31 (by decide) (fun c_31 => ?_) (fun c_31 => ?_)
      · skip
        have c_31 : (rc_ca (ai 6) (nI (k + 1)) na na) = 0 := c_31
        have hmz : mz = rc_sl (ai 6) (nI (k + 1)) na na 0 (rc_st (ai 6) na k) := by rw [hm, rc_sl_stop c_31]
        subst hmz
        have hl : lv_has ls 7 [(0, .ref (ad 0)), (1, .long (rc_sl (ai 6) (nI (k + 1)) na na 0 (rc_st (ai 6) na k))), (3, .int (nI (k + 1))), (4, .int (nI b))] := hl
        refine lv_iinc (v := nI ((k + 1) + 1)) (lv' := [(3, .int (nI ((k + 1) + 1))), (0, .ref (ad 0)), (1, .long (rc_sl (ai 6) (nI (k + 1)) na na 0 (rc_st (ai 6) na k))), (4, .int (nI b))]) hx hb dX5_states_116 hl (k := 2) rfl (nI_1 (k + 1)) (by decide) rfl (fun ls hl => ?_)
        refine lv_goto (tgt := 4) hx hb dX5_states_119 (by decide) ?_
        have e_4_0 : rc_st (ai 6) na (k + 1) = rc_sl (ai 6) (nI (k + 1)) na na 0 (rc_st (ai 6) na k) := by first | rfl | (simp only [rc_st, c_23, c_31, if_true, if_false, eq_self, not_true_eq_false, not_false_eq_true, ite_true, ite_false, ↓reduceIte]; done) | (simp [rc_st, c_23, c_31]; done)
        refine ih_4 (k + 1) (2 ^ na - 1 - (k + 1)) ls (by omega) ⟨rfl, (by omega), ?_⟩
        try dsimp only
        rw [e_4_0]
        exact lv_sub hl [1, 2, 0] rfl
      · skip
        have c_31 : ¬ ((rc_ca (ai 6) (nI (k + 1)) na na) = 0) := c_31
        refine lv_iload_n hx hb dX5_states_34 rfl (lv_at hl 2 rfl) ?_
        refine lv_iload hx hb dX5_states_35 (lv_at hl 3 rfl) ?_
        refine am_callRi (W.runS (As := [.int (nI (k + 1)), .int (nI b)]) (rest := []) ⟨hx, hb, hml, hown, hts⟩ (c_X5_has l D _ _ (nI (k + 1)) (nI b)) (va_cwS 2 hts (am_gS (am_in 554 rfl) (am_in 555 rfl) (am_in 35 rfl) (am_in 556 rfl)) rfl rfl rfl (by decide +kernel) ⟨Nat.le_of_ble_eq_true rfl, Nat.le_of_ble_eq_true rfl⟩) (am_preSR hP hK hN) rfl rfl hl.1 rfl (lv_room (Nat.le_of_ble_eq_true rfl)) dX5_states_37 ⟨Nat.zero_le _, Nat.zero_le _⟩) ?_
        refine lv_istore (lv' := [(5, .int (rc_has (nI (k + 1)) (nI b))), (0, .ref (ad 0)), (1, .long mz), (3, .int (nI (k + 1))), (4, .int (nI b))]) hx hb dX5_states_40 hl (by decide) rfl (fun ls hl => ?_)
        refine lv_iconst (v := 0) hx hb dX5_states_42 (by decide) ?_
        refine lv_istore (lv' := [(6, .int 0), (5, .int (rc_has (nI (k + 1)) (nI b))), (0, .ref (ad 0)), (1, .long mz), (3, .int (nI (k + 1))), (4, .int (nI b))]) hx hb dX5_states_43 hl (by decide) rfl (fun ls hl => ?_)
        refine am_loopR (σ := Nat) (fun q n9 ls => n9 = na - q ∧ q ≤ na ∧ lv_has ls 7 [(0, .ref (ad 0)), (1, .long mz), (3, .int (nI (k + 1))), (4, .int (nI b)), (5, .int (rc_fa (ai 6) (nI (k + 1)) b q)), (6, .int (nI q))]) ?_ 0 (na - 0) ls ⟨rfl, (by omega), lv_sub hl [2, 3, 4, 5, 1, 0] rfl⟩
        rintro a n9 ls ⟨hn_45, hka, hl⟩ ih_45
        refine lv_iload hx hb dX5_states_45 (lv_at hl 5 rfl) ?_
        refine lv_aload_n hx hb dX5_states_47 rfl (lv_at hl 0 rfl) ?_
        refine va_get (D := D) (ci := 5) (v := .int (fi 0)) (C := RX5) (T := TX5) (N := 31) hx hb hts hin_X5 hown hK hP 0 rfl rfl 0 (by decide) hf_86 (fun _ h9 => h9) rfl dX5_states_48 ?_
        refine lv_icmp_ge (tgt := 97) hx hb dX5_states_51 (by decide) (fun c_51 => ?_) (fun c_51 => ?_)
        · skip
          have c_51 : (fi 0) ≤ (nI a) := c_51
          have hke_51 : na ≤ a := (am_ge hna (by omega) (by omega)).mp c_51
          have hkq_51 : na = a := by omega
          subst hkq_51
          refine lv_iload hx hb dX5_states_97 (lv_at hl 4 rfl) ?_
          refine lv_if_eq (tgt := 108) hx hb dX5_states_99 (by decide) (fun c_99 => ?_) (fun c_99 => ?_)
          · skip
            have c_99 : (rc_fa (ai 6) (nI (k + 1)) b na) = 0 := c_99
            refine lv_lload_n hx hb dX5_states_108 rfl (lv_at hl 1 rfl) ?_
            refine lv_lstore_n (lv' := [(1, .long mz), (0, .ref (ad 0)), (3, .int (nI (k + 1))), (4, .int (nI b)), (5, .int (rc_fa (ai 6) (nI (k + 1)) b na)), (6, .int (nI na))]) hx hb dX5_states_109 rfl hl (by decide) rfl (fun ls hl => ?_)
            refine lv_iinc (v := nI (b + 1)) (lv' := [(4, .int (nI (b + 1))), (1, .long mz), (0, .ref (ad 0)), (3, .int (nI (k + 1))), (5, .int (rc_fa (ai 6) (nI (k + 1)) b na)), (6, .int (nI na))]) hx hb dX5_states_110 hl (k := 3) rfl (nI_1 b) (by decide) rfl (fun ls hl => ?_)
            refine lv_goto (tgt := 17) hx hb dX5_states_113 (by decide) ?_
            refine ih_17 (b + 1, mz) (na - (b + 1)) ls (by omega) ⟨rfl, (by first | omega | (dsimp only; omega)), (by dsimp only; rw [hm, show na - b = (na - (b + 1)) + 1 by omega, rc_sl, if_neg c_31, if_pos c_99]), ?_⟩
            exact lv_sub hl [2, 1, 3, 0] rfl
          · skip
            have c_99 : ¬ ((rc_fa (ai 6) (nI (k + 1)) b na) = 0) := c_99
            refine lv_lload_n hx hb dX5_states_102 rfl (lv_at hl 1 rfl) ?_
            refine lv_lconst (v := 1) hx hb dX5_states_103 (by decide) ?_
            refine lv_ladd hx hb dX5_states_104 ?_
            refine lv_goto (tgt := 109) hx hb dX5_states_105 (by decide) ?_
            refine lv_lstore_n (lv' := [(1, .long (mz + 1)), (0, .ref (ad 0)), (3, .int (nI (k + 1))), (4, .int (nI b)), (5, .int (rc_fa (ai 6) (nI (k + 1)) b na)), (6, .int (nI na))]) hx hb dX5_states_109 rfl hl (by decide) rfl (fun ls hl => ?_)
            refine lv_iinc (v := nI (b + 1)) (lv' := [(4, .int (nI (b + 1))), (1, .long (mz + 1)), (0, .ref (ad 0)), (3, .int (nI (k + 1))), (5, .int (rc_fa (ai 6) (nI (k + 1)) b na)), (6, .int (nI na))]) hx hb dX5_states_110 hl (k := 3) rfl (nI_1 b) (by decide) rfl (fun ls hl => ?_)
            refine lv_goto (tgt := 17) hx hb dX5_states_113 (by decide) ?_
            refine ih_17 (b + 1, mz + 1) (na - (b + 1)) ls (by omega) ⟨rfl, (by first | omega | (dsimp only; omega)), (by dsimp only; rw [hm, show na - b = (na - (b + 1)) + 1 by omega, rc_sl, if_neg c_31, if_neg c_99]), ?_⟩
            exact lv_sub hl [2, 1, 3, 0] rfl
        · skip
          have c_51 : ¬ ((fi 0) ≤ (nI a)) := c_51
          have hkl_51 : a < na := Nat.lt_of_not_le (fun z => c_51 ((am_ge hna (by omega) (by omega)).mpr z))
          refine lv_iload hx hb dX5_states_54 (lv_at hl 4 rfl) ?_
          refine lv_if_eq (tgt := 88) hx hb dX5_states_56 (by decide) (fun c_56 => ?_) (fun c_56 => ?_)
          · skip
            have c_56 : (rc_fa (ai 6) (nI (k + 1)) b a) = 0 := c_56
            refine lv_iconst (v := 0) hx hb dX5_states_88 (by decide) ?_
            refine lv_istore (lv' := [(5, .int 0), (0, .ref (ad 0)), (1, .long mz), (3, .int (nI (k + 1))), (4, .int (nI b)), (6, .int (nI a))]) hx hb dX5_states_89 hl (by decide) rfl (fun ls hl => ?_)
            refine lv_iinc (v := nI (a + 1)) (lv' := [(6, .int (nI (a + 1))), (5, .int 0), (0, .ref (ad 0)), (1, .long mz), (3, .int (nI (k + 1))), (4, .int (nI b))]) hx hb dX5_states_91 hl (k := 5) rfl (nI_1 a) (by decide) rfl (fun ls hl => ?_)
            refine lv_goto (tgt := 45) hx hb dX5_states_94 (by decide) ?_
            have e_45_0 : rc_fa (ai 6) (nI (k + 1)) b (a + 1) = 0 := by first | rfl | (simp only [rc_fa, c_51, c_56, if_true, if_false, eq_self, not_true_eq_false, not_false_eq_true, ite_true, ite_false, ↓reduceIte]; done) | (simp [rc_fa, c_51, c_56]; done)
            refine ih_45 (a + 1) (na - (a + 1)) ls (by omega) ⟨rfl, (by omega), ?_⟩
            try dsimp only
            rw [e_45_0]
            exact lv_sub hl [2, 3, 4, 5, 1, 0] rfl
          · skip
            have c_56 : ¬ ((rc_fa (ai 6) (nI (k + 1)) b a) = 0) := c_56
            refine lv_iload_n hx hb dX5_states_59 rfl (lv_at hl 2 rfl) ?_
            refine lv_iload hx hb dX5_states_60 (lv_at hl 5 rfl) ?_
            refine am_callRi (W.runS (As := [.int (nI (k + 1)), .int (nI a)]) (rest := []) ⟨hx, hb, hml, hown, hts⟩ (c_X5_has l D _ _ (nI (k + 1)) (nI a)) (va_cwS 2 hts (am_gS (am_in 554 rfl) (am_in 555 rfl) (am_in 35 rfl) (am_in 556 rfl)) rfl rfl rfl (by decide +kernel) ⟨Nat.le_of_ble_eq_true rfl, Nat.le_of_ble_eq_true rfl⟩) (am_preSR hP hK hN) rfl rfl hl.1 rfl (lv_room (Nat.le_of_ble_eq_true rfl)) dX5_states_62 ⟨Nat.zero_le _, Nat.zero_le _⟩) ?_
            refine lv_if_eq (tgt := 84) hx hb dX5_states_65 (by decide) (fun c_65 => ?_) (fun c_65 => ?_)
            · skip
              have c_65 : (rc_has (nI (k + 1)) (nI a)) = 0 := c_65
              refine lv_iconst (v := 1) hx hb dX5_states_84 (by decide) ?_
              refine lv_goto (tgt := 89) hx hb dX5_states_85 (by decide) ?_
              refine lv_istore (lv' := [(5, .int 1), (0, .ref (ad 0)), (1, .long mz), (3, .int (nI (k + 1))), (4, .int (nI b)), (6, .int (nI a))]) hx hb dX5_states_89 hl (by decide) rfl (fun ls hl => ?_)
              refine lv_iinc (v := nI (a + 1)) (lv' := [(6, .int (nI (a + 1))), (5, .int 1), (0, .ref (ad 0)), (1, .long mz), (3, .int (nI (k + 1))), (4, .int (nI b))]) hx hb dX5_states_91 hl (k := 5) rfl (nI_1 a) (by decide) rfl (fun ls hl => ?_)
              refine lv_goto (tgt := 45) hx hb dX5_states_94 (by decide) ?_
              have e_45_0 : rc_fa (ai 6) (nI (k + 1)) b (a + 1) = 1 := by first | rfl | (simp only [rc_fa, c_51, c_56, c_65, if_true, if_false, eq_self, not_true_eq_false, not_false_eq_true, ite_true, ite_false, ↓reduceIte]; done) | (simp [rc_fa, c_51, c_56, c_65]; done)
              refine ih_45 (a + 1) (na - (a + 1)) ls (by omega) ⟨rfl, (by omega), ?_⟩
              try dsimp only
              rw [e_45_0]
              exact lv_sub hl [2, 3, 4, 5, 1, 0] rfl
            · skip
              have c_65 : ¬ ((rc_has (nI (k + 1)) (nI a)) = 0) := c_65
              refine lv_aload_n hx hb dX5_states_68 rfl (lv_at hl 0 rfl) ?_
              refine va_get (D := D) (ci := 5) (v := .ref (ad 6)) (C := RX5) (T := TX5) (N := 31) hx hb hts hin_X5 hown hK hP 0 rfl rfl 6 (by decide) hf_27 (fun _ h9 => h9) rfl dX5_states_69 ?_
              refine lv_bipush (v := 10) hx hb dX5_states_72 (by decide) ?_
              refine lv_iload hx hb dX5_states_74 (lv_at hl 5 rfl) ?_
              refine lv_imul hx hb dX5_states_76 ?_
              refine lv_iload hx hb dX5_states_77 (lv_at hl 3 rfl) ?_
              refine lv_iadd hx hb dX5_states_79 ?_
              refine am_zald hx hb hK hP 6 2 rfl rfl (10 * a + b) (am_x10 a b) (by omega) (by decide) dX5_states_80 ?_
              refine lv_if_ne (tgt := 88) hx hb dX5_states_81 (by decide) (fun c_81 => ?_) (fun c_81 => ?_)
              · skip
                have c_81 : ¬ ((ai 6) (10 * a + b)) = 0 := c_81
                refine lv_iconst (v := 0) hx hb dX5_states_88 (by decide) ?_
                refine lv_istore (lv' := [(5, .int 0), (0, .ref (ad 0)), (1, .long mz), (3, .int (nI (k + 1))), (4, .int (nI b)), (6, .int (nI a))]) hx hb dX5_states_89 hl (by decide) rfl (fun ls hl => ?_)
                refine lv_iinc (v := nI (a + 1)) (lv' := [(6, .int (nI (a + 1))), (5, .int 0), (0, .ref (ad 0)), (1, .long mz), (3, .int (nI (k + 1))), (4, .int (nI b))]) hx hb dX5_states_91 hl (k := 5) rfl (nI_1 a) (by decide) rfl (fun ls hl => ?_)
                refine lv_goto (tgt := 45) hx hb dX5_states_94 (by decide) ?_
                have e_45_0 : rc_fa (ai 6) (nI (k + 1)) b (a + 1) = 0 := by first | rfl | (simp only [rc_fa, c_51, c_56, c_65, c_81, if_true, if_false, eq_self, not_true_eq_false, not_false_eq_true, ite_true, ite_false, ↓reduceIte]; done) | (simp [rc_fa, c_51, c_56, c_65, c_81]; done)
                refine ih_45 (a + 1) (na - (a + 1)) ls (by omega) ⟨rfl, (by omega), ?_⟩
                try dsimp only
                rw [e_45_0]
                exact lv_sub hl [2, 3, 4, 5, 1, 0] rfl
              · skip
                have c_81 : ((ai 6) (10 * a + b)) = 0 := c_81
                refine lv_iconst (v := 1) hx hb dX5_states_84 (by decide) ?_
                refine lv_goto (tgt := 89) hx hb dX5_states_85 (by decide) ?_
                refine lv_istore (lv' := [(5, .int 1), (0, .ref (ad 0)), (1, .long mz), (3, .int (nI (k + 1))), (4, .int (nI b)), (6, .int (nI a))]) hx hb dX5_states_89 hl (by decide) rfl (fun ls hl => ?_)
                refine lv_iinc (v := nI (a + 1)) (lv' := [(6, .int (nI (a + 1))), (5, .int 1), (0, .ref (ad 0)), (1, .long mz), (3, .int (nI (k + 1))), (4, .int (nI b))]) hx hb dX5_states_91 hl (k := 5) rfl (nI_1 a) (by decide) rfl (fun ls hl => ?_)
                refine lv_goto (tgt := 45) hx hb dX5_states_94 (by decide) ?_
                have e_45_0 : rc_fa (ai 6) (nI (k + 1)) b (a + 1) = 1 := by first | rfl | (simp only [rc_fa, c_51, c_56, c_65, c_81, if_true, if_false, eq_self, not_true_eq_false, not_false_eq_true, ite_true, ite_false, ↓reduceIte]; done) | (simp [rc_fa, c_51, c_56, c_65, c_81]; done)
                refine ih_45 (a + 1) (na - (a + 1)) ls (by omega) ⟨rfl, (by omega), ?_⟩
                try dsimp only
                rw [e_45_0]
                exact lv_sub hl [2, 3, 4, 5, 1, 0] rfl
set_option maxHeartbeats 4000000 in
set_option maxRecDepth 100000 in
theorem c_X5_stepCost (l : Launch) (D : va_G) (ad : Nat → Nat) (cI cL cZ : ClassId) (fi : Nat → Int32) (fl : Nat → Int64) (ai : Nat → Nat → Int32) (al : Nat → Nat → Int64) (j : Nat) (b : Nat) (na : Nat) (hna : fi 0 = nI na) (hnl : na ≤ 10) (hto : ∀ a, a < na → ∃ t, t < 6 ∧ (ai 2) a = nI t) (hsi : ∀ a, a < na → ∃ t, t < 6 ∧ (ai 3) a = nI t) (hj : j ≤ na) (hb2 : b < na) : Met l yX5_stepCost wsX5_stepCost (am_rm 0 0) (va_Pc [.ref (ad 0), .int (ac_la j), .int (nI b)] (am_R nwL vwCl D (rm_w ad cI cL cZ fi fl ai al) [(cI, .int), (cL, .long), (cZ, .boolean)])) (vp_Sl (fun r => r = (rc_step (ai 2) (ai 3) (al 4) (al 7) (al 8)) j b)) 0 0 am_No := by
  refine am_startR (cc := cX5_stepCost) (maxL := 5) (ret := (some .long)) (by decide) rfl (Nat.le_of_ble_eq_true rfl) [(0, .ref (ad 0)), (1, .int (ac_la j)), (2, .int (nI b))] rfl ?_
  intro p e s m below meth c ls hx hb hr hml hown hts hlocks hP hK hN hl
  have hown : s.vm.findClass RX5 = some m.cls := hown
  have ht := am_ht hts
  have hin_X5 : ∀ w ∈ u_ws RX5 TX5 31, w ∈ wsX5_stepCost := fun w h => List.mem_cons_of_mem _ (am_inX5 w h)
  have hf_13 := ht 432 (.fieldLink RX5 13 "ApartCostModel" "tools" "[I") rfl
  have hf_16 := ht 433 (.fieldLink RX5 16 "ApartCostModel" "sides" "[I") rfl
  have hf_19 := ht 434 (.fieldLink RX5 19 "ApartCostModel" "costs" "[J") rfl
  have hf_30 := ht 437 (.fieldLink RX5 30 "ApartCostModel" "changes" "[J") rfl
  have hf_33 := ht 438 (.fieldLink RX5 33 "ApartCostModel" "turns" "[J") rfl
  refine lv_aload_n hx hb dX5_stepCost_0 rfl (lv_at hl 0 rfl) ?_
  refine va_get (D := D) (ci := 5) (v := .ref (ad 4)) (C := RX5) (T := TX5) (N := 31) hx hb hts hin_X5 hown hK hP 0 rfl rfl 4 (by decide) hf_19 (fun _ h9 => h9) rfl dX5_stepCost_1 ?_
  refine lv_iload_n hx hb dX5_stepCost_4 rfl (lv_at hl 2 rfl) ?_
  refine am_lald hx hb hK hP 4 1 rfl rfl b rfl (by omega) (by decide) dX5_stepCost_5 ?_
  refine lv_lstore_n (lv' := [(3, .long ((al 4) b)), (0, .ref (ad 0)), (1, .int (ac_la j)), (2, .int (nI b))]) hx hb dX5_stepCost_6 rfl hl (by decide) rfl (fun ls hl => ?_)
  refine lv_iload_n hx hb dX5_stepCost_7 rfl (lv_at hl 2 rfl) ?_
  refine lv_if_lt (tgt := 97) hx hb dX5_stepCost_8 (by decide) (fun c_8 => ?_) (fun c_8 => ?_)
  · skip
    have c_8 : (ac_la j) < 0 := c_8
    obtain rfl : j = 0 := (ac_la_lt (by omega)).mp c_8
    have hl : lv_has ls 5 [(3, .long ((al 4) b)), (0, .ref (ad 0)), (1, .int (-1)), (2, .int (nI b))] := hl
    refine lv_ldc2 (v := 27720) hx hb hown (ht 571 _ rfl) dX5_stepCost_97 ?_
    refine lv_lload_n hx hb dX5_stepCost_100 rfl (lv_at hl 0 rfl) ?_
    refine lv_lmul hx hb dX5_stepCost_101 ?_
    exact am_lretR hx hb hr hlocks (by first | rfl | (simp only [rc_step, c_8, if_true, if_false, eq_self, not_true_eq_false, not_false_eq_true, ite_true, ite_false, ↓reduceIte]; done) | (simp [rc_step, c_8]; done)) dX5_stepCost_102
  · skip
    have c_8 : ¬ ((ac_la j) < 0) := c_8
    obtain ⟨a, rfl⟩ : ∃ z, j = z + 1 := by cases j with | zero => exact absurd (by decide +kernel) c_8 | succ z => exact ⟨z, rfl⟩
    have hl : lv_has ls 5 [(3, .long ((al 4) b)), (0, .ref (ad 0)), (1, .int (nI a)), (2, .int (nI b))] := hl
    refine lv_lload_n hx hb dX5_stepCost_11 rfl (lv_at hl 0 rfl) ?_
    refine lv_aload_n hx hb dX5_stepCost_12 rfl (lv_at hl 1 rfl) ?_
    refine va_get (D := D) (ci := 5) (v := .ref (ad 2)) (C := RX5) (T := TX5) (N := 31) hx hb hts hin_X5 hown hK hP 0 rfl rfl 2 (by decide) hf_13 (fun _ h9 => h9) rfl dX5_stepCost_13 ?_
    refine lv_iload_n hx hb dX5_stepCost_16 rfl (lv_at hl 2 rfl) ?_
    refine am_iald hx hb hK hP 2 0 rfl rfl a rfl (by omega) (by decide) dX5_stepCost_17 ?_
    refine lv_aload_n hx hb dX5_stepCost_18 rfl (lv_at hl 1 rfl) ?_
    refine va_get (D := D) (ci := 5) (v := .ref (ad 2)) (C := RX5) (T := TX5) (N := 31) hx hb hts hin_X5 hown hK hP 0 rfl rfl 2 (by decide) hf_13 (fun _ h9 => h9) rfl dX5_stepCost_19 ?_
    refine lv_iload_n hx hb dX5_stepCost_22 rfl (lv_at hl 3 rfl) ?_
    refine am_iald hx hb hK hP 2 0 rfl rfl b rfl (by omega) (by decide) dX5_stepCost_23 ?_
    refine lv_icmp_ne (tgt := 31) hx hb dX5_stepCost_24 (by decide) (fun c_24 => ?_) (fun c_24 => ?_)
    · skip
      have c_24 : ¬ ((ai 2) a) = ((ai 2) b) := c_24
      refine lv_aload_n hx hb dX5_stepCost_31 rfl (lv_at hl 1 rfl) ?_
      refine va_get (D := D) (ci := 5) (v := .ref (ad 7)) (C := RX5) (T := TX5) (N := 31) hx hb hts hin_X5 hown hK hP 0 rfl rfl 7 (by decide) hf_30 (fun _ h9 => h9) rfl dX5_stepCost_32 ?_
      refine lv_bipush (v := 6) hx hb dX5_stepCost_35 (by decide) ?_
      refine lv_aload_n hx hb dX5_stepCost_37 rfl (lv_at hl 1 rfl) ?_
      refine va_get (D := D) (ci := 5) (v := .ref (ad 2)) (C := RX5) (T := TX5) (N := 31) hx hb hts hin_X5 hown hK hP 0 rfl rfl 2 (by decide) hf_13 (fun _ h9 => h9) rfl dX5_stepCost_38 ?_
      refine lv_iload_n hx hb dX5_stepCost_41 rfl (lv_at hl 2 rfl) ?_
      refine am_iald hx hb hK hP 2 0 rfl rfl a rfl (by omega) (by decide) dX5_stepCost_42 ?_
      refine lv_imul hx hb dX5_stepCost_43 ?_
      refine lv_aload_n hx hb dX5_stepCost_44 rfl (lv_at hl 1 rfl) ?_
      refine va_get (D := D) (ci := 5) (v := .ref (ad 2)) (C := RX5) (T := TX5) (N := 31) hx hb hts hin_X5 hown hK hP 0 rfl rfl 2 (by decide) hf_13 (fun _ h9 => h9) rfl dX5_stepCost_45 ?_
      refine lv_iload_n hx hb dX5_stepCost_48 rfl (lv_at hl 3 rfl) ?_
      refine am_iald hx hb hK hP 2 0 rfl rfl b rfl (by omega) (by decide) dX5_stepCost_49 ?_
      refine lv_iadd hx hb dX5_stepCost_50 ?_
      refine am_lald hx hb hK hP 7 1 rfl rfl ((6 * (ai 2) a + (ai 2) b).toNatClampNeg) (am_jx6 (hto a (by omega)) (hto b (by omega))).1 (am_jx6 (hto a (by omega)) (hto b (by omega))).2 (by decide) dX5_stepCost_51 ?_
      refine lv_ladd hx hb dX5_stepCost_52 ?_
      refine lv_lstore_n (lv' := [(3, .long (((al 4) b) + ((al 7) ((6 * (ai 2) a + (ai 2) b).toNatClampNeg)))), (0, .ref (ad 0)), (1, .int (nI a)), (2, .int (nI b))]) hx hb dX5_stepCost_53 rfl hl (by decide) rfl (fun ls hl => ?_)
      refine lv_lload_n hx hb dX5_stepCost_54 rfl (lv_at hl 0 rfl) ?_
      refine lv_aload_n hx hb dX5_stepCost_55 rfl (lv_at hl 1 rfl) ?_
      refine va_get (D := D) (ci := 5) (v := .ref (ad 3)) (C := RX5) (T := TX5) (N := 31) hx hb hts hin_X5 hown hK hP 0 rfl rfl 3 (by decide) hf_16 (fun _ h9 => h9) rfl dX5_stepCost_56 ?_
      refine lv_iload_n hx hb dX5_stepCost_59 rfl (lv_at hl 2 rfl) ?_
      refine am_iald hx hb hK hP 3 0 rfl rfl a rfl (by omega) (by decide) dX5_stepCost_60 ?_
      refine lv_aload_n hx hb dX5_stepCost_61 rfl (lv_at hl 1 rfl) ?_
      refine va_get (D := D) (ci := 5) (v := .ref (ad 3)) (C := RX5) (T := TX5) (N := 31) hx hb hts hin_X5 hown hK hP 0 rfl rfl 3 (by decide) hf_16 (fun _ h9 => h9) rfl dX5_stepCost_62 ?_
      refine lv_iload_n hx hb dX5_stepCost_65 rfl (lv_at hl 3 rfl) ?_
      refine am_iald hx hb hK hP 3 0 rfl rfl b rfl (by omega) (by decide) dX5_stepCost_66 ?_
      refine lv_icmp_ne (tgt := 74) hx hb dX5_stepCost_67 (by decide) (fun c_67 => ?_) (fun c_67 => ?_)
      · skip
        have c_67 : ¬ ((ai 3) a) = ((ai 3) b) := c_67
        refine lv_aload_n hx hb dX5_stepCost_74 rfl (lv_at hl 1 rfl) ?_
        refine va_get (D := D) (ci := 5) (v := .ref (ad 8)) (C := RX5) (T := TX5) (N := 31) hx hb hts hin_X5 hown hK hP 0 rfl rfl 8 (by decide) hf_33 (fun _ h9 => h9) rfl dX5_stepCost_75 ?_
        refine lv_bipush (v := 6) hx hb dX5_stepCost_78 (by decide) ?_
        refine lv_aload_n hx hb dX5_stepCost_80 rfl (lv_at hl 1 rfl) ?_
        refine va_get (D := D) (ci := 5) (v := .ref (ad 3)) (C := RX5) (T := TX5) (N := 31) hx hb hts hin_X5 hown hK hP 0 rfl rfl 3 (by decide) hf_16 (fun _ h9 => h9) rfl dX5_stepCost_81 ?_
        refine lv_iload_n hx hb dX5_stepCost_84 rfl (lv_at hl 2 rfl) ?_
        refine am_iald hx hb hK hP 3 0 rfl rfl a rfl (by omega) (by decide) dX5_stepCost_85 ?_
        refine lv_imul hx hb dX5_stepCost_86 ?_
        refine lv_aload_n hx hb dX5_stepCost_87 rfl (lv_at hl 1 rfl) ?_
        refine va_get (D := D) (ci := 5) (v := .ref (ad 3)) (C := RX5) (T := TX5) (N := 31) hx hb hts hin_X5 hown hK hP 0 rfl rfl 3 (by decide) hf_16 (fun _ h9 => h9) rfl dX5_stepCost_88 ?_
        refine lv_iload_n hx hb dX5_stepCost_91 rfl (lv_at hl 3 rfl) ?_
        refine am_iald hx hb hK hP 3 0 rfl rfl b rfl (by omega) (by decide) dX5_stepCost_92 ?_
        refine lv_iadd hx hb dX5_stepCost_93 ?_
        refine am_lald hx hb hK hP 8 1 rfl rfl ((6 * (ai 3) a + (ai 3) b).toNatClampNeg) (am_jx6 (hsi a (by omega)) (hsi b (by omega))).1 (am_jx6 (hsi a (by omega)) (hsi b (by omega))).2 (by decide) dX5_stepCost_94 ?_
        refine lv_ladd hx hb dX5_stepCost_95 ?_
        refine lv_lstore_n (lv' := [(3, .long ((((al 4) b) + ((al 7) ((6 * (ai 2) a + (ai 2) b).toNatClampNeg))) + ((al 8) ((6 * (ai 3) a + (ai 3) b).toNatClampNeg)))), (0, .ref (ad 0)), (1, .int (nI a)), (2, .int (nI b))]) hx hb dX5_stepCost_96 rfl hl (by decide) rfl (fun ls hl => ?_)
        refine lv_ldc2 (v := 27720) hx hb hown (ht 571 _ rfl) dX5_stepCost_97 ?_
        refine lv_lload_n hx hb dX5_stepCost_100 rfl (lv_at hl 0 rfl) ?_
        refine lv_lmul hx hb dX5_stepCost_101 ?_
        exact am_lretR hx hb hr hlocks (by first | rfl | (simp only [rc_step, c_8, c_24, c_67, if_true, if_false, eq_self, not_true_eq_false, not_false_eq_true, ite_true, ite_false, ↓reduceIte]; done) | (simp [rc_step, c_8, c_24, c_67]; done)) dX5_stepCost_102
      · skip
        have c_67 : ((ai 3) a) = ((ai 3) b) := c_67
        refine lv_lconst (v := 0) hx hb dX5_stepCost_70 (by decide) ?_
        refine lv_goto (tgt := 95) hx hb dX5_stepCost_71 (by decide) ?_
        refine lv_ladd hx hb dX5_stepCost_95 ?_
        refine lv_lstore_n (lv' := [(3, .long ((((al 4) b) + ((al 7) ((6 * (ai 2) a + (ai 2) b).toNatClampNeg))) + 0)), (0, .ref (ad 0)), (1, .int (nI a)), (2, .int (nI b))]) hx hb dX5_stepCost_96 rfl hl (by decide) rfl (fun ls hl => ?_)
        refine lv_ldc2 (v := 27720) hx hb hown (ht 571 _ rfl) dX5_stepCost_97 ?_
        refine lv_lload_n hx hb dX5_stepCost_100 rfl (lv_at hl 0 rfl) ?_
        refine lv_lmul hx hb dX5_stepCost_101 ?_
        exact am_lretR hx hb hr hlocks (by first | rfl | (simp only [rc_step, c_8, c_24, c_67, if_true, if_false, eq_self, not_true_eq_false, not_false_eq_true, ite_true, ite_false, ↓reduceIte]; done) | (simp [rc_step, c_8, c_24, c_67]; done)) dX5_stepCost_102
    · skip
      have c_24 : ((ai 2) a) = ((ai 2) b) := c_24
      refine lv_lconst (v := 0) hx hb dX5_stepCost_27 (by decide) ?_
      refine lv_goto (tgt := 52) hx hb dX5_stepCost_28 (by decide) ?_
      refine lv_ladd hx hb dX5_stepCost_52 ?_
      refine lv_lstore_n (lv' := [(3, .long (((al 4) b) + 0)), (0, .ref (ad 0)), (1, .int (nI a)), (2, .int (nI b))]) hx hb dX5_stepCost_53 rfl hl (by decide) rfl (fun ls hl => ?_)
      refine lv_lload_n hx hb dX5_stepCost_54 rfl (lv_at hl 0 rfl) ?_
      refine lv_aload_n hx hb dX5_stepCost_55 rfl (lv_at hl 1 rfl) ?_
      refine va_get (D := D) (ci := 5) (v := .ref (ad 3)) (C := RX5) (T := TX5) (N := 31) hx hb hts hin_X5 hown hK hP 0 rfl rfl 3 (by decide) hf_16 (fun _ h9 => h9) rfl dX5_stepCost_56 ?_
      refine lv_iload_n hx hb dX5_stepCost_59 rfl (lv_at hl 2 rfl) ?_
      refine am_iald hx hb hK hP 3 0 rfl rfl a rfl (by omega) (by decide) dX5_stepCost_60 ?_
      refine lv_aload_n hx hb dX5_stepCost_61 rfl (lv_at hl 1 rfl) ?_
      refine va_get (D := D) (ci := 5) (v := .ref (ad 3)) (C := RX5) (T := TX5) (N := 31) hx hb hts hin_X5 hown hK hP 0 rfl rfl 3 (by decide) hf_16 (fun _ h9 => h9) rfl dX5_stepCost_62 ?_
      refine lv_iload_n hx hb dX5_stepCost_65 rfl (lv_at hl 3 rfl) ?_
      refine am_iald hx hb hK hP 3 0 rfl rfl b rfl (by omega) (by decide) dX5_stepCost_66 ?_
      refine lv_icmp_ne (tgt := 74) hx hb dX5_stepCost_67 (by decide) (fun c_67 => ?_) (fun c_67 => ?_)
      · skip
        have c_67 : ¬ ((ai 3) a) = ((ai 3) b) := c_67
        refine lv_aload_n hx hb dX5_stepCost_74 rfl (lv_at hl 1 rfl) ?_
        refine va_get (D := D) (ci := 5) (v := .ref (ad 8)) (C := RX5) (T := TX5) (N := 31) hx hb hts hin_X5 hown hK hP 0 rfl rfl 8 (by decide) hf_33 (fun _ h9 => h9) rfl dX5_stepCost_75 ?_
        refine lv_bipush (v := 6) hx hb dX5_stepCost_78 (by decide) ?_
        refine lv_aload_n hx hb dX5_stepCost_80 rfl (lv_at hl 1 rfl) ?_
        refine va_get (D := D) (ci := 5) (v := .ref (ad 3)) (C := RX5) (T := TX5) (N := 31) hx hb hts hin_X5 hown hK hP 0 rfl rfl 3 (by decide) hf_16 (fun _ h9 => h9) rfl dX5_stepCost_81 ?_
        refine lv_iload_n hx hb dX5_stepCost_84 rfl (lv_at hl 2 rfl) ?_
        refine am_iald hx hb hK hP 3 0 rfl rfl a rfl (by omega) (by decide) dX5_stepCost_85 ?_
        refine lv_imul hx hb dX5_stepCost_86 ?_
        refine lv_aload_n hx hb dX5_stepCost_87 rfl (lv_at hl 1 rfl) ?_
        refine va_get (D := D) (ci := 5) (v := .ref (ad 3)) (C := RX5) (T := TX5) (N := 31) hx hb hts hin_X5 hown hK hP 0 rfl rfl 3 (by decide) hf_16 (fun _ h9 => h9) rfl dX5_stepCost_88 ?_
        refine lv_iload_n hx hb dX5_stepCost_91 rfl (lv_at hl 3 rfl) ?_
        refine am_iald hx hb hK hP 3 0 rfl rfl b rfl (by omega) (by decide) dX5_stepCost_92 ?_
        refine lv_iadd hx hb dX5_stepCost_93 ?_
        refine am_lald hx hb hK hP 8 1 rfl rfl ((6 * (ai 3) a + (ai 3) b).toNatClampNeg) (am_jx6 (hsi a (by omega)) (hsi b (by omega))).1 (am_jx6 (hsi a (by omega)) (hsi b (by omega))).2 (by decide) dX5_stepCost_94 ?_
        refine lv_ladd hx hb dX5_stepCost_95 ?_
        refine lv_lstore_n (lv' := [(3, .long ((((al 4) b) + 0) + ((al 8) ((6 * (ai 3) a + (ai 3) b).toNatClampNeg)))), (0, .ref (ad 0)), (1, .int (nI a)), (2, .int (nI b))]) hx hb dX5_stepCost_96 rfl hl (by decide) rfl (fun ls hl => ?_)
        refine lv_ldc2 (v := 27720) hx hb hown (ht 571 _ rfl) dX5_stepCost_97 ?_
        refine lv_lload_n hx hb dX5_stepCost_100 rfl (lv_at hl 0 rfl) ?_
        refine lv_lmul hx hb dX5_stepCost_101 ?_
        exact am_lretR hx hb hr hlocks (by first | rfl | (simp only [rc_step, c_8, c_24, c_67, if_true, if_false, eq_self, not_true_eq_false, not_false_eq_true, ite_true, ite_false, ↓reduceIte]; done) | (simp [rc_step, c_8, c_24, c_67]; done)) dX5_stepCost_102
      · skip
        have c_67 : ((ai 3) a) = ((ai 3) b) := c_67
        refine lv_lconst (v := 0) hx hb dX5_stepCost_70 (by decide) ?_
        refine lv_goto (tgt := 95) hx hb dX5_stepCost_71 (by decide) ?_
        refine lv_ladd hx hb dX5_stepCost_95 ?_
        refine lv_lstore_n (lv' := [(3, .long ((((al 4) b) + 0) + 0)), (0, .ref (ad 0)), (1, .int (nI a)), (2, .int (nI b))]) hx hb dX5_stepCost_96 rfl hl (by decide) rfl (fun ls hl => ?_)
        refine lv_ldc2 (v := 27720) hx hb hown (ht 571 _ rfl) dX5_stepCost_97 ?_
        refine lv_lload_n hx hb dX5_stepCost_100 rfl (lv_at hl 0 rfl) ?_
        refine lv_lmul hx hb dX5_stepCost_101 ?_
        exact am_lretR hx hb hr hlocks (by first | rfl | (simp only [rc_step, c_8, c_24, c_67, if_true, if_false, eq_self, not_true_eq_false, not_false_eq_true, ite_true, ite_false, ↓reduceIte]; done) | (simp [rc_step, c_8, c_24, c_67]; done)) dX5_stepCost_102

set_option maxHeartbeats 4000000 in
set_option maxRecDepth 100000 in
theorem c_X5_canDo (l : Launch) (D : va_G) (ad : Nat → Nat) (cI cL cZ : ClassId) (fi : Nat → Int32) (fl : Nat → Int64) (ai : Nat → Nat → Int32) (al : Nat → Nat → Int64) (x : Int32) (b : Nat) (hb2 : b < 10) : Met l yX5_canDo wsX5_canDo (am_rm 1 21) (va_Pc [.ref (ad 0), .int x, .int (nI b)] (am_R nwL vwCl D (rm_w ad cI cL cZ fi fl ai al) [(cI, .int), (cL, .long), (cZ, .boolean)])) (vp_Si (fun r => r = rc_can (ai 17) x b)) 0 0 am_No := by
  refine am_startR (cc := cX5_canDo) (maxL := 3) (ret := (some .boolean)) (by decide) rfl (Nat.le_of_ble_eq_true rfl) [(0, .ref (ad 0)), (1, .int x), (2, .int (nI b))] rfl ?_
  intro p e s m below meth c ls hx hb hr hml hown hts hlocks hP hK hN hl
  have hown : s.vm.findClass RX5 = some m.cls := hown
  have ht := am_ht hts
  have hin_X5 : ∀ w ∈ u_ws RX5 TX5 31, w ∈ wsX5_canDo := fun w h => List.mem_cons_of_mem _ (am_inX5 w h)
  have hf_67 := ht 456 (.fieldLink RX5 67 "ApartCostModel" "needed" "[I") rfl
  refine lv_iload_n hx hb dX5_canDo_0 rfl (lv_at hl 1 rfl) ?_
  refine lv_iload_n hx hb dX5_canDo_1 rfl (lv_at hl 2 rfl) ?_
  refine am_callRi (W.runS (As := [.int x, .int (nI b)]) (rest := []) ⟨hx, hb, hml, hown, hts⟩ (c_X5_has l D _ _ x (nI b)) (va_cwS 2 hts (am_gS (am_in 554 rfl) (am_in 555 rfl) (am_in 35 rfl) (am_in 556 rfl)) rfl rfl rfl (by decide +kernel) ⟨Nat.le_of_ble_eq_true rfl, Nat.le_of_ble_eq_true rfl⟩) (am_preSR hP hK hN) rfl rfl hl.1 rfl (lv_room (Nat.le_of_ble_eq_true rfl)) dX5_canDo_2 ⟨Nat.zero_le _, Nat.zero_le _⟩) ?_
  refine lv_if_ne (tgt := 29) hx hb dX5_canDo_5 (by decide) (fun c_5 => ?_) (fun c_5 => ?_)
  · skip
    have c_5 : ¬ (rc_has x (nI b)) = 0 := c_5
    refine lv_iconst (v := 0) hx hb dX5_canDo_29 (by decide) ?_
    exact am_zretR hx hb hr hlocks (Or.inl rfl) (by first | rfl | (simp only [rc_can, c_5, if_true, if_false, eq_self, not_true_eq_false, not_false_eq_true, ite_true, ite_false, ↓reduceIte]; done) | (simp [rc_can, c_5]; done)) dX5_canDo_30
  · skip
    have c_5 : (rc_has x (nI b)) = 0 := c_5
    refine lv_aload_n hx hb dX5_canDo_8 rfl (lv_at hl 0 rfl) ?_
    refine va_get (D := D) (ci := 5) (v := .ref (ad 17)) (C := RX5) (T := TX5) (N := 31) hx hb hts hin_X5 hown hK hP 0 rfl rfl 26 (by decide) hf_67 (fun _ h9 => h9) rfl dX5_canDo_9 ?_
    refine lv_iload_n hx hb dX5_canDo_12 rfl (lv_at hl 2 rfl) ?_
    refine am_iald hx hb hK hP 17 0 rfl rfl b rfl (by omega) (by decide) dX5_canDo_13 ?_
    refine lv_iload_n hx hb dX5_canDo_14 rfl (lv_at hl 1 rfl) ?_
    refine lv_iand hx hb dX5_canDo_15 ?_
    refine lv_aload_n hx hb dX5_canDo_16 rfl (lv_at hl 0 rfl) ?_
    refine va_get (D := D) (ci := 5) (v := .ref (ad 17)) (C := RX5) (T := TX5) (N := 31) hx hb hts hin_X5 hown hK hP 0 rfl rfl 26 (by decide) hf_67 (fun _ h9 => h9) rfl dX5_canDo_17 ?_
    refine lv_iload_n hx hb dX5_canDo_20 rfl (lv_at hl 2 rfl) ?_
    refine am_iald hx hb hK hP 17 0 rfl rfl b rfl (by omega) (by decide) dX5_canDo_21 ?_
    refine lv_icmp_ne (tgt := 29) hx hb dX5_canDo_22 (by decide) (fun c_22 => ?_) (fun c_22 => ?_)
    · skip
      have c_22 : ¬ (((ai 17) b) &&& x) = ((ai 17) b) := c_22
      refine lv_iconst (v := 0) hx hb dX5_canDo_29 (by decide) ?_
      exact am_zretR hx hb hr hlocks (Or.inl rfl) (by first | rfl | (simp only [rc_can, c_5, c_22, if_true, if_false, eq_self, not_true_eq_false, not_false_eq_true, ite_true, ite_false, ↓reduceIte]; done) | (simp [rc_can, c_5, c_22]; done)) dX5_canDo_30
    · skip
      have c_22 : (((ai 17) b) &&& x) = ((ai 17) b) := c_22
      refine lv_iconst (v := 1) hx hb dX5_canDo_25 (by decide) ?_
      refine lv_goto (tgt := 30) hx hb dX5_canDo_26 (by decide) ?_
      exact am_zretR hx hb hr hlocks (Or.inr rfl) (by first | rfl | (simp only [rc_can, c_5, c_22, if_true, if_false, eq_self, not_true_eq_false, not_false_eq_true, ite_true, ite_false, ↓reduceIte]; done) | (simp [rc_can, c_5, c_22]; done)) dX5_canDo_30

set_option maxHeartbeats 4000000 in
set_option maxRecDepth 100000 in
theorem c_X5_bringsOf (l : Launch) (D : va_G) (ad : Nat → Nat) (cI cL cZ : ClassId) (fi : Nat → Int32) (fl : Nat → Int64) (ai : Nat → Nat → Int32) (al : Nat → Nat → Int64) (p9 : Nat) (x : Int32) (na : Nat) (hna : fi 0 = nI na) (hnl : na ≤ 10) (hbe : ∀ p, p < 12 → ¬ ((ai 11) p).toInt64 = 0) (hp9 : p9 < 12) : Met l yX5_bringsOf wsX5_bringsOf (am_rm 1 21) (va_Pc [.ref (ad 0), .int (nI p9), .int x] (am_R nwL vwCl D (rm_w ad cI cL cZ fi fl ai al) [(cI, .int), (cL, .long), (cZ, .boolean)])) (vp_Sl (fun r => r = rc_brings (ai 1) (ai 5) (ai 10) (ai 11) (al 9) (fi 7) (fi 8) na x p9)) 0 0 am_No := by
  refine am_startR (cc := cX5_bringsOf) (maxL := 7) (ret := (some .long)) (by decide) rfl (Nat.le_of_ble_eq_true rfl) [(0, .ref (ad 0)), (1, .int (nI p9)), (2, .int x)] rfl ?_
  intro p e s m below meth c ls hx hb hr hml hown hts hlocks hP hK hN hl
  have hown : s.vm.findClass RX5 = some m.cls := hown
  have ht := am_ht hts
  have hin_X5 : ∀ w ∈ u_ws RX5 TX5 31, w ∈ wsX5_bringsOf := fun w h => List.mem_cons_of_mem _ (am_inX5 w h)
  have hf_127 := ht 455 (.fieldLink RX5 127 "ApartCostModel" "testedAs" "I") rfl
  have hf_23 := ht 435 (.fieldLink RX5 23 "ApartCostModel" "breaking" "[Z") rfl
  have hf_36 := ht 439 (.fieldLink RX5 36 "ApartCostModel" "worths" "[J") rfl
  have hf_39 := ht 440 (.fieldLink RX5 39 "ApartCostModel" "above" "[I") rfl
  have hf_42 := ht 441 (.fieldLink RX5 42 "ApartCostModel" "below" "[I") rfl
  have hf_64 := ht 454 (.fieldLink RX5 64 "ApartCostModel" "tested" "I") rfl
  have hf_7 := ht 431 (.fieldLink RX5 7 "ApartCostModel" "freed" "[I") rfl
  have hf_86 := ht 430 (.fieldLink RX5 86 "ApartCostModel" "count" "I") rfl
  refine lv_iconst (v := 0) hx hb dX5_bringsOf_0 (by decide) ?_
  refine lv_istore_n (lv' := [(3, .int 0), (0, .ref (ad 0)), (1, .int (nI p9)), (2, .int x)]) hx hb dX5_bringsOf_1 rfl hl (by decide) rfl (fun ls hl => ?_)
  refine lv_iconst (v := 1) hx hb dX5_bringsOf_2 (by decide) ?_
  refine lv_istore (lv' := [(4, .int 1), (3, .int 0), (0, .ref (ad 0)), (1, .int (nI p9)), (2, .int x)]) hx hb dX5_bringsOf_3 hl (by decide) rfl (fun ls hl => ?_)
  refine lv_iconst (v := 0) hx hb dX5_bringsOf_5 (by decide) ?_
  refine lv_istore (lv' := [(5, .int 0), (4, .int 1), (3, .int 0), (0, .ref (ad 0)), (1, .int (nI p9)), (2, .int x)]) hx hb dX5_bringsOf_6 hl (by decide) rfl (fun ls hl => ?_)
  refine am_loopR (σ := Nat) (fun q n9 ls => n9 = na - q ∧ q ≤ na ∧ lv_has ls 7 [(0, .ref (ad 0)), (1, .int (nI p9)), (2, .int x), (3, .int (rc_fre (ai 1) x (nI p9) q)), (4, .int (rc_who (ai 1) (ai 5) x (nI p9) q)), (5, .int (nI q))]) ?_ 0 (na - 0) ls ⟨rfl, (by omega), lv_sub hl [3, 4, 5, 2, 1, 0] rfl⟩
  rintro k n9 ls ⟨hn_8, hk, hl⟩ ih_8
  refine lv_iload hx hb dX5_bringsOf_8 (lv_at hl 5 rfl) ?_
  refine lv_aload_n hx hb dX5_bringsOf_10 rfl (lv_at hl 0 rfl) ?_
  refine va_get (D := D) (ci := 5) (v := .int (fi 0)) (C := RX5) (T := TX5) (N := 31) hx hb hts hin_X5 hown hK hP 0 rfl rfl 0 (by decide) hf_86 (fun _ h9 => h9) rfl dX5_bringsOf_11 ?_
  refine lv_icmp_ge (tgt := 92) hx hb dX5_bringsOf_14 (by decide) (fun c_14 => ?_) (fun c_14 => ?_)
  · skip
    have c_14 : (fi 0) ≤ (nI k) := c_14
    have hke_14 : na ≤ k := (am_ge hna (by omega) (by omega)).mp c_14
    have hkq_14 : na = k := by omega
    subst hkq_14
    refine lv_iload_n hx hb dX5_bringsOf_92 rfl (lv_at hl 3 rfl) ?_
    refine lv_if_eq (tgt := 101) hx hb dX5_bringsOf_93 (by decide) (fun c_93 => ?_) (fun c_93 => ?_)
    · skip
      have c_93 : (rc_fre (ai 1) x (nI p9) na) = 0 := c_93
      refine lv_lconst (v := 0) hx hb dX5_bringsOf_101 (by decide) ?_
      exact am_lretR hx hb hr hlocks (by rw [rc_brings, if_pos c_93]) dX5_bringsOf_102
    · skip
      have c_93 : ¬ ((rc_fre (ai 1) x (nI p9) na) = 0) := c_93
      refine lv_iload hx hb dX5_bringsOf_96 (lv_at hl 4 rfl) ?_
      refine lv_if_ne (tgt := 103) hx hb dX5_bringsOf_98 (by decide) (fun c_98 => ?_) (fun c_98 => ?_)
      · skip
        have c_98 : ¬ (rc_who (ai 1) (ai 5) x (nI p9) na) = 0 := c_98
        refine lv_iload_n hx hb dX5_bringsOf_103 rfl (lv_at hl 1 rfl) ?_
        refine lv_aload_n hx hb dX5_bringsOf_104 rfl (lv_at hl 0 rfl) ?_
        refine va_get (D := D) (ci := 5) (v := .int (fi 7)) (C := RX5) (T := TX5) (N := 31) hx hb hts hin_X5 hown hK hP 0 rfl rfl 24 (by decide) hf_64 (fun _ h9 => h9) rfl dX5_bringsOf_105 ?_
        refine lv_icmp_ne (tgt := 134) hx hb dX5_bringsOf_108 (by decide) (fun c_108 => ?_) (fun c_108 => ?_)
        · skip
          have c_108 : ¬ (nI p9) = (fi 7) := c_108
          refine lv_ldc2 (v := 27720) hx hb hown (ht 571 _ rfl) dX5_bringsOf_134 ?_
          refine lv_aload_n hx hb dX5_bringsOf_137 rfl (lv_at hl 0 rfl) ?_
          refine va_get (D := D) (ci := 5) (v := .ref (ad 9)) (C := RX5) (T := TX5) (N := 31) hx hb hts hin_X5 hown hK hP 0 rfl rfl 9 (by decide) hf_36 (fun _ h9 => h9) rfl dX5_bringsOf_138 ?_
          refine lv_iload_n hx hb dX5_bringsOf_141 rfl (lv_at hl 1 rfl) ?_
          refine am_lald hx hb hK hP 9 1 rfl rfl p9 rfl (by omega) (by decide) dX5_bringsOf_142 ?_
          refine lv_lmul hx hb dX5_bringsOf_143 ?_
          refine lv_aload_n hx hb dX5_bringsOf_144 rfl (lv_at hl 0 rfl) ?_
          refine va_get (D := D) (ci := 5) (v := .ref (ad 11)) (C := RX5) (T := TX5) (N := 31) hx hb hts hin_X5 hown hK hP 0 rfl rfl 11 (by decide) hf_42 (fun _ h9 => h9) rfl dX5_bringsOf_145 ?_
          refine lv_iload_n hx hb dX5_bringsOf_148 rfl (lv_at hl 1 rfl) ?_
          refine am_iald hx hb hK hP 11 0 rfl rfl p9 rfl (by omega) (by decide) dX5_bringsOf_149 ?_
          refine lv_i2l (v := ((ai 11) p9).toInt64) hx hb dX5_bringsOf_150 rfl ?_
          refine lv_ldiv hx hb dX5_bringsOf_151 (hbe p9 hp9) ?_
          refine lv_aload_n hx hb dX5_bringsOf_152 rfl (lv_at hl 0 rfl) ?_
          refine va_get (D := D) (ci := 5) (v := .ref (ad 10)) (C := RX5) (T := TX5) (N := 31) hx hb hts hin_X5 hown hK hP 0 rfl rfl 10 (by decide) hf_39 (fun _ h9 => h9) rfl dX5_bringsOf_153 ?_
          refine lv_iload_n hx hb dX5_bringsOf_156 rfl (lv_at hl 1 rfl) ?_
          refine am_iald hx hb hK hP 10 0 rfl rfl p9 rfl (by omega) (by decide) dX5_bringsOf_157 ?_
          refine lv_i2l (v := ((ai 10) p9).toInt64) hx hb dX5_bringsOf_158 rfl ?_
          refine lv_lmul hx hb dX5_bringsOf_159 ?_
          exact am_lretR hx hb hr hlocks (by rw [rc_brings, if_neg c_93, if_neg c_98, if_neg c_108]) dX5_bringsOf_160
        · skip
          have c_108 : (nI p9) = (fi 7) := c_108
          refine lv_aload_n hx hb dX5_bringsOf_111 rfl (lv_at hl 0 rfl) ?_
          refine va_get (D := D) (ci := 5) (v := .int (fi 8)) (C := RX5) (T := TX5) (N := 31) hx hb hts hin_X5 hown hK hP 0 rfl rfl 25 (by decide) hf_127 (fun _ h9 => h9) rfl dX5_bringsOf_112 ?_
          refine lv_iconst (v := 1) hx hb dX5_bringsOf_115 (by decide) ?_
          refine lv_icmp_ne (tgt := 132) hx hb dX5_bringsOf_116 (by decide) (fun c_116 => ?_) (fun c_116 => ?_)
          · skip
            have c_116 : ¬ (fi 8) = 1 := c_116
            refine lv_lconst (v := 0) hx hb dX5_bringsOf_132 (by decide) ?_
            exact am_lretR hx hb hr hlocks (by rw [rc_brings, if_neg c_93, if_neg c_98, if_pos c_108, if_neg c_116]) dX5_bringsOf_133
          · skip
            have c_116 : (fi 8) = 1 := c_116
            refine lv_ldc2 (v := 27720) hx hb hown (ht 571 _ rfl) dX5_bringsOf_119 ?_
            refine lv_aload_n hx hb dX5_bringsOf_122 rfl (lv_at hl 0 rfl) ?_
            refine va_get (D := D) (ci := 5) (v := .ref (ad 9)) (C := RX5) (T := TX5) (N := 31) hx hb hts hin_X5 hown hK hP 0 rfl rfl 9 (by decide) hf_36 (fun _ h9 => h9) rfl dX5_bringsOf_123 ?_
            refine lv_iload_n hx hb dX5_bringsOf_126 rfl (lv_at hl 1 rfl) ?_
            refine am_lald hx hb hK hP 9 1 rfl rfl p9 rfl (by omega) (by decide) dX5_bringsOf_127 ?_
            refine lv_lmul hx hb dX5_bringsOf_128 ?_
            refine lv_goto (tgt := 133) hx hb dX5_bringsOf_129 (by decide) ?_
            exact am_lretR hx hb hr hlocks (by rw [rc_brings, if_neg c_93, if_neg c_98, if_pos c_108, if_pos c_116]) dX5_bringsOf_133
      · skip
        have c_98 : (rc_who (ai 1) (ai 5) x (nI p9) na) = 0 := c_98
        refine lv_lconst (v := 0) hx hb dX5_bringsOf_101 (by decide) ?_
        exact am_lretR hx hb hr hlocks (by rw [rc_brings, if_neg c_93, if_pos c_98]) dX5_bringsOf_102
  · skip
    have c_14 : ¬ ((fi 0) ≤ (nI k)) := c_14
    have hkl_14 : k < na := Nat.lt_of_not_le (fun z => c_14 ((am_ge hna (by omega) (by omega)).mpr z))
    refine lv_iload_n hx hb dX5_bringsOf_17 rfl (lv_at hl 2 rfl) ?_
    refine lv_iload hx hb dX5_bringsOf_18 (lv_at hl 5 rfl) ?_
    refine am_callRi (W.runS (As := [.int x, .int (nI k)]) (rest := []) ⟨hx, hb, hml, hown, hts⟩ (c_X5_has l D _ _ x (nI k)) (va_cwS 2 hts (am_gS (am_in 554 rfl) (am_in 555 rfl) (am_in 35 rfl) (am_in 556 rfl)) rfl rfl rfl (by decide +kernel) ⟨Nat.le_of_ble_eq_true rfl, Nat.le_of_ble_eq_true rfl⟩) (am_preSR hP hK hN) rfl rfl hl.1 rfl (lv_room (Nat.le_of_ble_eq_true rfl)) dX5_bringsOf_20 ⟨Nat.zero_le _, Nat.zero_le _⟩) ?_
    refine lv_if_eq (tgt := 41) hx hb dX5_bringsOf_23 (by decide) (fun c_23 => ?_) (fun c_23 => ?_)
    · skip
      have c_23 : (rc_has x (nI k)) = 0 := c_23
      refine lv_iconst (v := 0) hx hb dX5_bringsOf_41 (by decide) ?_
      refine lv_istore (lv' := [(6, .int 0), (0, .ref (ad 0)), (1, .int (nI p9)), (2, .int x), (3, .int (rc_fre (ai 1) x (nI p9) k)), (4, .int (rc_who (ai 1) (ai 5) x (nI p9) k)), (5, .int (nI k))]) hx hb dX5_bringsOf_42 hl (by decide) rfl (fun ls hl => ?_)
      refine lv_iload_n hx hb dX5_bringsOf_44 rfl (lv_at hl 4 rfl) ?_
      refine lv_if_ne (tgt := 53) hx hb dX5_bringsOf_45 (by decide) (fun c_45 => ?_) (fun c_45 => ?_)
      · skip
        have c_45 : ¬ (rc_fre (ai 1) x (nI p9) k) = 0 := c_45
        refine lv_iconst (v := 1) hx hb dX5_bringsOf_53 (by decide) ?_
        refine lv_goto (tgt := 58) hx hb dX5_bringsOf_54 (by decide) ?_
        refine lv_istore_n (lv' := [(3, .int 1), (6, .int 0), (0, .ref (ad 0)), (1, .int (nI p9)), (2, .int x), (4, .int (rc_who (ai 1) (ai 5) x (nI p9) k)), (5, .int (nI k))]) hx hb dX5_bringsOf_58 rfl hl (by decide) rfl (fun ls hl => ?_)
        refine lv_iload hx hb dX5_bringsOf_59 (lv_at hl 5 rfl) ?_
        refine lv_if_eq (tgt := 83) hx hb dX5_bringsOf_61 (by decide) (fun c_61 => ?_) (fun c_61 => ?_)
        · skip
          have c_61 : (rc_who (ai 1) (ai 5) x (nI p9) k) = 0 := c_61
          refine lv_iconst (v := 0) hx hb dX5_bringsOf_83 (by decide) ?_
          refine lv_istore (lv' := [(4, .int 0), (3, .int 1), (6, .int 0), (0, .ref (ad 0)), (1, .int (nI p9)), (2, .int x), (5, .int (nI k))]) hx hb dX5_bringsOf_84 hl (by decide) rfl (fun ls hl => ?_)
          refine lv_iinc (v := nI (k + 1)) (lv' := [(5, .int (nI (k + 1))), (4, .int 0), (3, .int 1), (6, .int 0), (0, .ref (ad 0)), (1, .int (nI p9)), (2, .int x)]) hx hb dX5_bringsOf_86 hl (k := 6) rfl (nI_1 k) (by decide) rfl (fun ls hl => ?_)
          refine lv_goto (tgt := 8) hx hb dX5_bringsOf_89 (by decide) ?_
          have e_8_0 : rc_fre (ai 1) x (nI p9) (k + 1) = 1 := by first | rfl | (simp only [rc_fre, rc_who, rc_frs, c_14, c_23, c_45, c_61, if_true, if_false, eq_self, not_true_eq_false, not_false_eq_true, ite_true, ite_false, ↓reduceIte]; done) | (simp [rc_fre, rc_who, rc_frs, c_14, c_23, c_45, c_61]; done)
          have e_8_1 : rc_who (ai 1) (ai 5) x (nI p9) (k + 1) = 0 := by first | rfl | (simp only [rc_fre, rc_who, rc_frs, c_14, c_23, c_45, c_61, if_true, if_false, eq_self, not_true_eq_false, not_false_eq_true, ite_true, ite_false, ↓reduceIte]; done) | (simp [rc_fre, rc_who, rc_frs, c_14, c_23, c_45, c_61]; done)
          refine ih_8 (k + 1) (na - (k + 1)) ls (by omega) ⟨rfl, (by omega), ?_⟩
          try dsimp only
          rw [e_8_0, e_8_1]
          exact lv_sub hl [4, 5, 6, 2, 1, 0] rfl
        · skip
          have c_61 : ¬ ((rc_who (ai 1) (ai 5) x (nI p9) k) = 0) := c_61
          refine lv_iload hx hb dX5_bringsOf_64 (lv_at hl 1 rfl) ?_
          refine lv_if_eq (tgt := 79) hx hb dX5_bringsOf_66 (by decide) (fun c_66 => ?_) (fun c_66 => ?_)
          · skip
            refine lv_iconst (v := 1) hx hb dX5_bringsOf_79 (by decide) ?_
            refine lv_goto (tgt := 84) hx hb dX5_bringsOf_80 (by decide) ?_
            refine lv_istore (lv' := [(4, .int 1), (3, .int 1), (6, .int 0), (0, .ref (ad 0)), (1, .int (nI p9)), (2, .int x), (5, .int (nI k))]) hx hb dX5_bringsOf_84 hl (by decide) rfl (fun ls hl => ?_)
            refine lv_iinc (v := nI (k + 1)) (lv' := [(5, .int (nI (k + 1))), (4, .int 1), (3, .int 1), (6, .int 0), (0, .ref (ad 0)), (1, .int (nI p9)), (2, .int x)]) hx hb dX5_bringsOf_86 hl (k := 6) rfl (nI_1 k) (by decide) rfl (fun ls hl => ?_)
            refine lv_goto (tgt := 8) hx hb dX5_bringsOf_89 (by decide) ?_
            have e_8_0 : rc_fre (ai 1) x (nI p9) (k + 1) = 1 := by first | rfl | (simp only [rc_fre, rc_who, rc_frs, c_14, c_23, c_45, c_61, if_true, if_false, eq_self, not_true_eq_false, not_false_eq_true, ite_true, ite_false, ↓reduceIte]; done) | (simp [rc_fre, rc_who, rc_frs, c_14, c_23, c_45, c_61]; done)
            have e_8_1 : rc_who (ai 1) (ai 5) x (nI p9) (k + 1) = 1 := by first | rfl | (simp only [rc_fre, rc_who, rc_frs, c_14, c_23, c_45, c_61, if_true, if_false, eq_self, not_true_eq_false, not_false_eq_true, ite_true, ite_false, ↓reduceIte]; done) | (simp [rc_fre, rc_who, rc_frs, c_14, c_23, c_45, c_61]; done)
            refine ih_8 (k + 1) (na - (k + 1)) ls (by omega) ⟨rfl, (by omega), ?_⟩
            try dsimp only
            rw [e_8_0, e_8_1]
            exact lv_sub hl [4, 5, 6, 2, 1, 0] rfl
          · skip
            exact absurd c_66 (by decide)
      · skip
        have c_45 : (rc_fre (ai 1) x (nI p9) k) = 0 := c_45
        refine lv_iload hx hb dX5_bringsOf_48 (lv_at hl 0 rfl) ?_
        refine lv_if_eq (tgt := 57) hx hb dX5_bringsOf_50 (by decide) (fun c_50 => ?_) (fun c_50 => ?_)
        · skip
          refine lv_iconst (v := 0) hx hb dX5_bringsOf_57 (by decide) ?_
          refine lv_istore_n (lv' := [(3, .int 0), (6, .int 0), (0, .ref (ad 0)), (1, .int (nI p9)), (2, .int x), (4, .int (rc_who (ai 1) (ai 5) x (nI p9) k)), (5, .int (nI k))]) hx hb dX5_bringsOf_58 rfl hl (by decide) rfl (fun ls hl => ?_)
          refine lv_iload hx hb dX5_bringsOf_59 (lv_at hl 5 rfl) ?_
          refine lv_if_eq (tgt := 83) hx hb dX5_bringsOf_61 (by decide) (fun c_61 => ?_) (fun c_61 => ?_)
          · skip
            have c_61 : (rc_who (ai 1) (ai 5) x (nI p9) k) = 0 := c_61
            refine lv_iconst (v := 0) hx hb dX5_bringsOf_83 (by decide) ?_
            refine lv_istore (lv' := [(4, .int 0), (3, .int 0), (6, .int 0), (0, .ref (ad 0)), (1, .int (nI p9)), (2, .int x), (5, .int (nI k))]) hx hb dX5_bringsOf_84 hl (by decide) rfl (fun ls hl => ?_)
            refine lv_iinc (v := nI (k + 1)) (lv' := [(5, .int (nI (k + 1))), (4, .int 0), (3, .int 0), (6, .int 0), (0, .ref (ad 0)), (1, .int (nI p9)), (2, .int x)]) hx hb dX5_bringsOf_86 hl (k := 6) rfl (nI_1 k) (by decide) rfl (fun ls hl => ?_)
            refine lv_goto (tgt := 8) hx hb dX5_bringsOf_89 (by decide) ?_
            have e_8_0 : rc_fre (ai 1) x (nI p9) (k + 1) = 0 := by first | rfl | (simp only [rc_fre, rc_who, rc_frs, c_14, c_23, c_45, c_61, if_true, if_false, eq_self, not_true_eq_false, not_false_eq_true, ite_true, ite_false, ↓reduceIte]; done) | (simp [rc_fre, rc_who, rc_frs, c_14, c_23, c_45, c_61]; done)
            have e_8_1 : rc_who (ai 1) (ai 5) x (nI p9) (k + 1) = 0 := by first | rfl | (simp only [rc_fre, rc_who, rc_frs, c_14, c_23, c_45, c_61, if_true, if_false, eq_self, not_true_eq_false, not_false_eq_true, ite_true, ite_false, ↓reduceIte]; done) | (simp [rc_fre, rc_who, rc_frs, c_14, c_23, c_45, c_61]; done)
            refine ih_8 (k + 1) (na - (k + 1)) ls (by omega) ⟨rfl, (by omega), ?_⟩
            try dsimp only
            rw [e_8_0, e_8_1]
            exact lv_sub hl [4, 5, 6, 2, 1, 0] rfl
          · skip
            have c_61 : ¬ ((rc_who (ai 1) (ai 5) x (nI p9) k) = 0) := c_61
            refine lv_iload hx hb dX5_bringsOf_64 (lv_at hl 1 rfl) ?_
            refine lv_if_eq (tgt := 79) hx hb dX5_bringsOf_66 (by decide) (fun c_66 => ?_) (fun c_66 => ?_)
            · skip
              refine lv_iconst (v := 1) hx hb dX5_bringsOf_79 (by decide) ?_
              refine lv_goto (tgt := 84) hx hb dX5_bringsOf_80 (by decide) ?_
              refine lv_istore (lv' := [(4, .int 1), (3, .int 0), (6, .int 0), (0, .ref (ad 0)), (1, .int (nI p9)), (2, .int x), (5, .int (nI k))]) hx hb dX5_bringsOf_84 hl (by decide) rfl (fun ls hl => ?_)
              refine lv_iinc (v := nI (k + 1)) (lv' := [(5, .int (nI (k + 1))), (4, .int 1), (3, .int 0), (6, .int 0), (0, .ref (ad 0)), (1, .int (nI p9)), (2, .int x)]) hx hb dX5_bringsOf_86 hl (k := 6) rfl (nI_1 k) (by decide) rfl (fun ls hl => ?_)
              refine lv_goto (tgt := 8) hx hb dX5_bringsOf_89 (by decide) ?_
              have e_8_0 : rc_fre (ai 1) x (nI p9) (k + 1) = 0 := by first | rfl | (simp only [rc_fre, rc_who, rc_frs, c_14, c_23, c_45, c_61, if_true, if_false, eq_self, not_true_eq_false, not_false_eq_true, ite_true, ite_false, ↓reduceIte]; done) | (simp [rc_fre, rc_who, rc_frs, c_14, c_23, c_45, c_61]; done)
              have e_8_1 : rc_who (ai 1) (ai 5) x (nI p9) (k + 1) = 1 := by first | rfl | (simp only [rc_fre, rc_who, rc_frs, c_14, c_23, c_45, c_61, if_true, if_false, eq_self, not_true_eq_false, not_false_eq_true, ite_true, ite_false, ↓reduceIte]; done) | (simp [rc_fre, rc_who, rc_frs, c_14, c_23, c_45, c_61]; done)
              refine ih_8 (k + 1) (na - (k + 1)) ls (by omega) ⟨rfl, (by omega), ?_⟩
              try dsimp only
              rw [e_8_0, e_8_1]
              exact lv_sub hl [4, 5, 6, 2, 1, 0] rfl
            · skip
              exact absurd c_66 (by decide)
        · skip
          exact absurd c_50 (by decide)
    · skip
      have c_23 : ¬ ((rc_has x (nI k)) = 0) := c_23
      refine lv_aload_n hx hb dX5_bringsOf_26 rfl (lv_at hl 0 rfl) ?_
      refine va_get (D := D) (ci := 5) (v := .ref (ad 1)) (C := RX5) (T := TX5) (N := 31) hx hb hts hin_X5 hown hK hP 0 rfl rfl 1 (by decide) hf_7 (fun _ h9 => h9) rfl dX5_bringsOf_27 ?_
      refine lv_iload hx hb dX5_bringsOf_30 (lv_at hl 5 rfl) ?_
      refine am_iald hx hb hK hP 1 0 rfl rfl k rfl (by omega) (by decide) dX5_bringsOf_32 ?_
      refine lv_iload_n hx hb dX5_bringsOf_33 rfl (lv_at hl 1 rfl) ?_
      refine lv_icmp_ne (tgt := 41) hx hb dX5_bringsOf_34 (by decide) (fun c_34 => ?_) (fun c_34 => ?_)
      · skip
        have c_34 : ¬ ((ai 1) k) = (nI p9) := c_34
        refine lv_iconst (v := 0) hx hb dX5_bringsOf_41 (by decide) ?_
        refine lv_istore (lv' := [(6, .int 0), (0, .ref (ad 0)), (1, .int (nI p9)), (2, .int x), (3, .int (rc_fre (ai 1) x (nI p9) k)), (4, .int (rc_who (ai 1) (ai 5) x (nI p9) k)), (5, .int (nI k))]) hx hb dX5_bringsOf_42 hl (by decide) rfl (fun ls hl => ?_)
        refine lv_iload_n hx hb dX5_bringsOf_44 rfl (lv_at hl 4 rfl) ?_
        refine lv_if_ne (tgt := 53) hx hb dX5_bringsOf_45 (by decide) (fun c_45 => ?_) (fun c_45 => ?_)
        · skip
          have c_45 : ¬ (rc_fre (ai 1) x (nI p9) k) = 0 := c_45
          refine lv_iconst (v := 1) hx hb dX5_bringsOf_53 (by decide) ?_
          refine lv_goto (tgt := 58) hx hb dX5_bringsOf_54 (by decide) ?_
          refine lv_istore_n (lv' := [(3, .int 1), (6, .int 0), (0, .ref (ad 0)), (1, .int (nI p9)), (2, .int x), (4, .int (rc_who (ai 1) (ai 5) x (nI p9) k)), (5, .int (nI k))]) hx hb dX5_bringsOf_58 rfl hl (by decide) rfl (fun ls hl => ?_)
          refine lv_iload hx hb dX5_bringsOf_59 (lv_at hl 5 rfl) ?_
          refine lv_if_eq (tgt := 83) hx hb dX5_bringsOf_61 (by decide) (fun c_61 => ?_) (fun c_61 => ?_)
          · skip
            have c_61 : (rc_who (ai 1) (ai 5) x (nI p9) k) = 0 := c_61
            refine lv_iconst (v := 0) hx hb dX5_bringsOf_83 (by decide) ?_
            refine lv_istore (lv' := [(4, .int 0), (3, .int 1), (6, .int 0), (0, .ref (ad 0)), (1, .int (nI p9)), (2, .int x), (5, .int (nI k))]) hx hb dX5_bringsOf_84 hl (by decide) rfl (fun ls hl => ?_)
            refine lv_iinc (v := nI (k + 1)) (lv' := [(5, .int (nI (k + 1))), (4, .int 0), (3, .int 1), (6, .int 0), (0, .ref (ad 0)), (1, .int (nI p9)), (2, .int x)]) hx hb dX5_bringsOf_86 hl (k := 6) rfl (nI_1 k) (by decide) rfl (fun ls hl => ?_)
            refine lv_goto (tgt := 8) hx hb dX5_bringsOf_89 (by decide) ?_
            have e_8_0 : rc_fre (ai 1) x (nI p9) (k + 1) = 1 := by first | rfl | (simp only [rc_fre, rc_who, rc_frs, c_14, c_23, c_34, c_45, c_61, if_true, if_false, eq_self, not_true_eq_false, not_false_eq_true, ite_true, ite_false, ↓reduceIte]; done) | (simp [rc_fre, rc_who, rc_frs, c_14, c_23, c_34, c_45, c_61]; done)
            have e_8_1 : rc_who (ai 1) (ai 5) x (nI p9) (k + 1) = 0 := by first | rfl | (simp only [rc_fre, rc_who, rc_frs, c_14, c_23, c_34, c_45, c_61, if_true, if_false, eq_self, not_true_eq_false, not_false_eq_true, ite_true, ite_false, ↓reduceIte]; done) | (simp [rc_fre, rc_who, rc_frs, c_14, c_23, c_34, c_45, c_61]; done)
            refine ih_8 (k + 1) (na - (k + 1)) ls (by omega) ⟨rfl, (by omega), ?_⟩
            try dsimp only
            rw [e_8_0, e_8_1]
            exact lv_sub hl [4, 5, 6, 2, 1, 0] rfl
          · skip
            have c_61 : ¬ ((rc_who (ai 1) (ai 5) x (nI p9) k) = 0) := c_61
            refine lv_iload hx hb dX5_bringsOf_64 (lv_at hl 1 rfl) ?_
            refine lv_if_eq (tgt := 79) hx hb dX5_bringsOf_66 (by decide) (fun c_66 => ?_) (fun c_66 => ?_)
            · skip
              refine lv_iconst (v := 1) hx hb dX5_bringsOf_79 (by decide) ?_
              refine lv_goto (tgt := 84) hx hb dX5_bringsOf_80 (by decide) ?_
              refine lv_istore (lv' := [(4, .int 1), (3, .int 1), (6, .int 0), (0, .ref (ad 0)), (1, .int (nI p9)), (2, .int x), (5, .int (nI k))]) hx hb dX5_bringsOf_84 hl (by decide) rfl (fun ls hl => ?_)
              refine lv_iinc (v := nI (k + 1)) (lv' := [(5, .int (nI (k + 1))), (4, .int 1), (3, .int 1), (6, .int 0), (0, .ref (ad 0)), (1, .int (nI p9)), (2, .int x)]) hx hb dX5_bringsOf_86 hl (k := 6) rfl (nI_1 k) (by decide) rfl (fun ls hl => ?_)
              refine lv_goto (tgt := 8) hx hb dX5_bringsOf_89 (by decide) ?_
              have e_8_0 : rc_fre (ai 1) x (nI p9) (k + 1) = 1 := by first | rfl | (simp only [rc_fre, rc_who, rc_frs, c_14, c_23, c_34, c_45, c_61, if_true, if_false, eq_self, not_true_eq_false, not_false_eq_true, ite_true, ite_false, ↓reduceIte]; done) | (simp [rc_fre, rc_who, rc_frs, c_14, c_23, c_34, c_45, c_61]; done)
              have e_8_1 : rc_who (ai 1) (ai 5) x (nI p9) (k + 1) = 1 := by first | rfl | (simp only [rc_fre, rc_who, rc_frs, c_14, c_23, c_34, c_45, c_61, if_true, if_false, eq_self, not_true_eq_false, not_false_eq_true, ite_true, ite_false, ↓reduceIte]; done) | (simp [rc_fre, rc_who, rc_frs, c_14, c_23, c_34, c_45, c_61]; done)
              refine ih_8 (k + 1) (na - (k + 1)) ls (by omega) ⟨rfl, (by omega), ?_⟩
              try dsimp only
              rw [e_8_0, e_8_1]
              exact lv_sub hl [4, 5, 6, 2, 1, 0] rfl
            · skip
              exact absurd c_66 (by decide)
        · skip
          have c_45 : (rc_fre (ai 1) x (nI p9) k) = 0 := c_45
          refine lv_iload hx hb dX5_bringsOf_48 (lv_at hl 0 rfl) ?_
          refine lv_if_eq (tgt := 57) hx hb dX5_bringsOf_50 (by decide) (fun c_50 => ?_) (fun c_50 => ?_)
          · skip
            refine lv_iconst (v := 0) hx hb dX5_bringsOf_57 (by decide) ?_
            refine lv_istore_n (lv' := [(3, .int 0), (6, .int 0), (0, .ref (ad 0)), (1, .int (nI p9)), (2, .int x), (4, .int (rc_who (ai 1) (ai 5) x (nI p9) k)), (5, .int (nI k))]) hx hb dX5_bringsOf_58 rfl hl (by decide) rfl (fun ls hl => ?_)
            refine lv_iload hx hb dX5_bringsOf_59 (lv_at hl 5 rfl) ?_
            refine lv_if_eq (tgt := 83) hx hb dX5_bringsOf_61 (by decide) (fun c_61 => ?_) (fun c_61 => ?_)
            · skip
              have c_61 : (rc_who (ai 1) (ai 5) x (nI p9) k) = 0 := c_61
              refine lv_iconst (v := 0) hx hb dX5_bringsOf_83 (by decide) ?_
              refine lv_istore (lv' := [(4, .int 0), (3, .int 0), (6, .int 0), (0, .ref (ad 0)), (1, .int (nI p9)), (2, .int x), (5, .int (nI k))]) hx hb dX5_bringsOf_84 hl (by decide) rfl (fun ls hl => ?_)
              refine lv_iinc (v := nI (k + 1)) (lv' := [(5, .int (nI (k + 1))), (4, .int 0), (3, .int 0), (6, .int 0), (0, .ref (ad 0)), (1, .int (nI p9)), (2, .int x)]) hx hb dX5_bringsOf_86 hl (k := 6) rfl (nI_1 k) (by decide) rfl (fun ls hl => ?_)
              refine lv_goto (tgt := 8) hx hb dX5_bringsOf_89 (by decide) ?_
              have e_8_0 : rc_fre (ai 1) x (nI p9) (k + 1) = 0 := by first | rfl | (simp only [rc_fre, rc_who, rc_frs, c_14, c_23, c_34, c_45, c_61, if_true, if_false, eq_self, not_true_eq_false, not_false_eq_true, ite_true, ite_false, ↓reduceIte]; done) | (simp [rc_fre, rc_who, rc_frs, c_14, c_23, c_34, c_45, c_61]; done)
              have e_8_1 : rc_who (ai 1) (ai 5) x (nI p9) (k + 1) = 0 := by first | rfl | (simp only [rc_fre, rc_who, rc_frs, c_14, c_23, c_34, c_45, c_61, if_true, if_false, eq_self, not_true_eq_false, not_false_eq_true, ite_true, ite_false, ↓reduceIte]; done) | (simp [rc_fre, rc_who, rc_frs, c_14, c_23, c_34, c_45, c_61]; done)
              refine ih_8 (k + 1) (na - (k + 1)) ls (by omega) ⟨rfl, (by omega), ?_⟩
              try dsimp only
              rw [e_8_0, e_8_1]
              exact lv_sub hl [4, 5, 6, 2, 1, 0] rfl
            · skip
              have c_61 : ¬ ((rc_who (ai 1) (ai 5) x (nI p9) k) = 0) := c_61
              refine lv_iload hx hb dX5_bringsOf_64 (lv_at hl 1 rfl) ?_
              refine lv_if_eq (tgt := 79) hx hb dX5_bringsOf_66 (by decide) (fun c_66 => ?_) (fun c_66 => ?_)
              · skip
                refine lv_iconst (v := 1) hx hb dX5_bringsOf_79 (by decide) ?_
                refine lv_goto (tgt := 84) hx hb dX5_bringsOf_80 (by decide) ?_
                refine lv_istore (lv' := [(4, .int 1), (3, .int 0), (6, .int 0), (0, .ref (ad 0)), (1, .int (nI p9)), (2, .int x), (5, .int (nI k))]) hx hb dX5_bringsOf_84 hl (by decide) rfl (fun ls hl => ?_)
                refine lv_iinc (v := nI (k + 1)) (lv' := [(5, .int (nI (k + 1))), (4, .int 1), (3, .int 0), (6, .int 0), (0, .ref (ad 0)), (1, .int (nI p9)), (2, .int x)]) hx hb dX5_bringsOf_86 hl (k := 6) rfl (nI_1 k) (by decide) rfl (fun ls hl => ?_)
                refine lv_goto (tgt := 8) hx hb dX5_bringsOf_89 (by decide) ?_
                have e_8_0 : rc_fre (ai 1) x (nI p9) (k + 1) = 0 := by first | rfl | (simp only [rc_fre, rc_who, rc_frs, c_14, c_23, c_34, c_45, c_61, if_true, if_false, eq_self, not_true_eq_false, not_false_eq_true, ite_true, ite_false, ↓reduceIte]; done) | (simp [rc_fre, rc_who, rc_frs, c_14, c_23, c_34, c_45, c_61]; done)
                have e_8_1 : rc_who (ai 1) (ai 5) x (nI p9) (k + 1) = 1 := by first | rfl | (simp only [rc_fre, rc_who, rc_frs, c_14, c_23, c_34, c_45, c_61, if_true, if_false, eq_self, not_true_eq_false, not_false_eq_true, ite_true, ite_false, ↓reduceIte]; done) | (simp [rc_fre, rc_who, rc_frs, c_14, c_23, c_34, c_45, c_61]; done)
                refine ih_8 (k + 1) (na - (k + 1)) ls (by omega) ⟨rfl, (by omega), ?_⟩
                try dsimp only
                rw [e_8_0, e_8_1]
                exact lv_sub hl [4, 5, 6, 2, 1, 0] rfl
              · skip
                exact absurd c_66 (by decide)
          · skip
            exact absurd c_50 (by decide)
      · skip
        have c_34 : ((ai 1) k) = (nI p9) := c_34
        refine lv_iconst (v := 1) hx hb dX5_bringsOf_37 (by decide) ?_
        refine lv_goto (tgt := 42) hx hb dX5_bringsOf_38 (by decide) ?_
        refine lv_istore (lv' := [(6, .int 1), (0, .ref (ad 0)), (1, .int (nI p9)), (2, .int x), (3, .int (rc_fre (ai 1) x (nI p9) k)), (4, .int (rc_who (ai 1) (ai 5) x (nI p9) k)), (5, .int (nI k))]) hx hb dX5_bringsOf_42 hl (by decide) rfl (fun ls hl => ?_)
        refine lv_iload_n hx hb dX5_bringsOf_44 rfl (lv_at hl 4 rfl) ?_
        refine lv_if_ne (tgt := 53) hx hb dX5_bringsOf_45 (by decide) (fun c_45 => ?_) (fun c_45 => ?_)
        · skip
          have c_45 : ¬ (rc_fre (ai 1) x (nI p9) k) = 0 := c_45
          refine lv_iconst (v := 1) hx hb dX5_bringsOf_53 (by decide) ?_
          refine lv_goto (tgt := 58) hx hb dX5_bringsOf_54 (by decide) ?_
          refine lv_istore_n (lv' := [(3, .int 1), (6, .int 1), (0, .ref (ad 0)), (1, .int (nI p9)), (2, .int x), (4, .int (rc_who (ai 1) (ai 5) x (nI p9) k)), (5, .int (nI k))]) hx hb dX5_bringsOf_58 rfl hl (by decide) rfl (fun ls hl => ?_)
          refine lv_iload hx hb dX5_bringsOf_59 (lv_at hl 5 rfl) ?_
          refine lv_if_eq (tgt := 83) hx hb dX5_bringsOf_61 (by decide) (fun c_61 => ?_) (fun c_61 => ?_)
          · skip
            have c_61 : (rc_who (ai 1) (ai 5) x (nI p9) k) = 0 := c_61
            refine lv_iconst (v := 0) hx hb dX5_bringsOf_83 (by decide) ?_
            refine lv_istore (lv' := [(4, .int 0), (3, .int 1), (6, .int 1), (0, .ref (ad 0)), (1, .int (nI p9)), (2, .int x), (5, .int (nI k))]) hx hb dX5_bringsOf_84 hl (by decide) rfl (fun ls hl => ?_)
            refine lv_iinc (v := nI (k + 1)) (lv' := [(5, .int (nI (k + 1))), (4, .int 0), (3, .int 1), (6, .int 1), (0, .ref (ad 0)), (1, .int (nI p9)), (2, .int x)]) hx hb dX5_bringsOf_86 hl (k := 6) rfl (nI_1 k) (by decide) rfl (fun ls hl => ?_)
            refine lv_goto (tgt := 8) hx hb dX5_bringsOf_89 (by decide) ?_
            have e_8_0 : rc_fre (ai 1) x (nI p9) (k + 1) = 1 := by first | rfl | (simp only [rc_fre, rc_who, rc_frs, c_14, c_23, c_34, c_45, c_61, if_true, if_false, eq_self, not_true_eq_false, not_false_eq_true, ite_true, ite_false, ↓reduceIte]; done) | (simp [rc_fre, rc_who, rc_frs, c_14, c_23, c_34, c_45, c_61]; done)
            have e_8_1 : rc_who (ai 1) (ai 5) x (nI p9) (k + 1) = 0 := by first | rfl | (simp only [rc_fre, rc_who, rc_frs, c_14, c_23, c_34, c_45, c_61, if_true, if_false, eq_self, not_true_eq_false, not_false_eq_true, ite_true, ite_false, ↓reduceIte]; done) | (simp [rc_fre, rc_who, rc_frs, c_14, c_23, c_34, c_45, c_61]; done)
            refine ih_8 (k + 1) (na - (k + 1)) ls (by omega) ⟨rfl, (by omega), ?_⟩
            try dsimp only
            rw [e_8_0, e_8_1]
            exact lv_sub hl [4, 5, 6, 2, 1, 0] rfl
          · skip
            have c_61 : ¬ ((rc_who (ai 1) (ai 5) x (nI p9) k) = 0) := c_61
            refine lv_iload hx hb dX5_bringsOf_64 (lv_at hl 1 rfl) ?_
            refine lv_if_eq (tgt := 79) hx hb dX5_bringsOf_66 (by decide) (fun c_66 => ?_) (fun c_66 => ?_)
            · skip
              exact absurd c_66 (by decide)
            · skip
              refine lv_aload_n hx hb dX5_bringsOf_69 rfl (lv_at hl 2 rfl) ?_
              refine va_get (D := D) (ci := 5) (v := .ref (ad 5)) (C := RX5) (T := TX5) (N := 31) hx hb hts hin_X5 hown hK hP 0 rfl rfl 5 (by decide) hf_23 (fun _ h9 => h9) rfl dX5_bringsOf_70 ?_
              refine lv_iload hx hb dX5_bringsOf_73 (lv_at hl 6 rfl) ?_
              refine am_zald hx hb hK hP 5 2 rfl rfl k rfl (by omega) (by decide) dX5_bringsOf_75 ?_
              refine lv_if_ne (tgt := 83) hx hb dX5_bringsOf_76 (by decide) (fun c_76 => ?_) (fun c_76 => ?_)
              · skip
                have c_76 : ¬ ((ai 5) k) = 0 := c_76
                refine lv_iconst (v := 0) hx hb dX5_bringsOf_83 (by decide) ?_
                refine lv_istore (lv' := [(4, .int 0), (3, .int 1), (6, .int 1), (0, .ref (ad 0)), (1, .int (nI p9)), (2, .int x), (5, .int (nI k))]) hx hb dX5_bringsOf_84 hl (by decide) rfl (fun ls hl => ?_)
                refine lv_iinc (v := nI (k + 1)) (lv' := [(5, .int (nI (k + 1))), (4, .int 0), (3, .int 1), (6, .int 1), (0, .ref (ad 0)), (1, .int (nI p9)), (2, .int x)]) hx hb dX5_bringsOf_86 hl (k := 6) rfl (nI_1 k) (by decide) rfl (fun ls hl => ?_)
                refine lv_goto (tgt := 8) hx hb dX5_bringsOf_89 (by decide) ?_
                have e_8_0 : rc_fre (ai 1) x (nI p9) (k + 1) = 1 := by first | rfl | (simp only [rc_fre, rc_who, rc_frs, c_14, c_23, c_34, c_45, c_61, c_76, if_true, if_false, eq_self, not_true_eq_false, not_false_eq_true, ite_true, ite_false, ↓reduceIte]; done) | (simp [rc_fre, rc_who, rc_frs, c_14, c_23, c_34, c_45, c_61, c_76]; done)
                have e_8_1 : rc_who (ai 1) (ai 5) x (nI p9) (k + 1) = 0 := by first | rfl | (simp only [rc_fre, rc_who, rc_frs, c_14, c_23, c_34, c_45, c_61, c_76, if_true, if_false, eq_self, not_true_eq_false, not_false_eq_true, ite_true, ite_false, ↓reduceIte]; done) | (simp [rc_fre, rc_who, rc_frs, c_14, c_23, c_34, c_45, c_61, c_76]; done)
                refine ih_8 (k + 1) (na - (k + 1)) ls (by omega) ⟨rfl, (by omega), ?_⟩
                try dsimp only
                rw [e_8_0, e_8_1]
                exact lv_sub hl [4, 5, 6, 2, 1, 0] rfl
              · skip
                have c_76 : ((ai 5) k) = 0 := c_76
                refine lv_iconst (v := 1) hx hb dX5_bringsOf_79 (by decide) ?_
                refine lv_goto (tgt := 84) hx hb dX5_bringsOf_80 (by decide) ?_
                refine lv_istore (lv' := [(4, .int 1), (3, .int 1), (6, .int 1), (0, .ref (ad 0)), (1, .int (nI p9)), (2, .int x), (5, .int (nI k))]) hx hb dX5_bringsOf_84 hl (by decide) rfl (fun ls hl => ?_)
                refine lv_iinc (v := nI (k + 1)) (lv' := [(5, .int (nI (k + 1))), (4, .int 1), (3, .int 1), (6, .int 1), (0, .ref (ad 0)), (1, .int (nI p9)), (2, .int x)]) hx hb dX5_bringsOf_86 hl (k := 6) rfl (nI_1 k) (by decide) rfl (fun ls hl => ?_)
                refine lv_goto (tgt := 8) hx hb dX5_bringsOf_89 (by decide) ?_
                have e_8_0 : rc_fre (ai 1) x (nI p9) (k + 1) = 1 := by first | rfl | (simp only [rc_fre, rc_who, rc_frs, c_14, c_23, c_34, c_45, c_61, c_76, if_true, if_false, eq_self, not_true_eq_false, not_false_eq_true, ite_true, ite_false, ↓reduceIte]; done) | (simp [rc_fre, rc_who, rc_frs, c_14, c_23, c_34, c_45, c_61, c_76]; done)
                have e_8_1 : rc_who (ai 1) (ai 5) x (nI p9) (k + 1) = 1 := by first | rfl | (simp only [rc_fre, rc_who, rc_frs, c_14, c_23, c_34, c_45, c_61, c_76, if_true, if_false, eq_self, not_true_eq_false, not_false_eq_true, ite_true, ite_false, ↓reduceIte]; done) | (simp [rc_fre, rc_who, rc_frs, c_14, c_23, c_34, c_45, c_61, c_76]; done)
                refine ih_8 (k + 1) (na - (k + 1)) ls (by omega) ⟨rfl, (by omega), ?_⟩
                try dsimp only
                rw [e_8_0, e_8_1]
                exact lv_sub hl [4, 5, 6, 2, 1, 0] rfl
        · skip
          have c_45 : (rc_fre (ai 1) x (nI p9) k) = 0 := c_45
          refine lv_iload hx hb dX5_bringsOf_48 (lv_at hl 0 rfl) ?_
          refine lv_if_eq (tgt := 57) hx hb dX5_bringsOf_50 (by decide) (fun c_50 => ?_) (fun c_50 => ?_)
          · skip
            exact absurd c_50 (by decide)
          · skip
            refine lv_iconst (v := 1) hx hb dX5_bringsOf_53 (by decide) ?_
            refine lv_goto (tgt := 58) hx hb dX5_bringsOf_54 (by decide) ?_
            refine lv_istore_n (lv' := [(3, .int 1), (6, .int 1), (0, .ref (ad 0)), (1, .int (nI p9)), (2, .int x), (4, .int (rc_who (ai 1) (ai 5) x (nI p9) k)), (5, .int (nI k))]) hx hb dX5_bringsOf_58 rfl hl (by decide) rfl (fun ls hl => ?_)
            refine lv_iload hx hb dX5_bringsOf_59 (lv_at hl 5 rfl) ?_
            refine lv_if_eq (tgt := 83) hx hb dX5_bringsOf_61 (by decide) (fun c_61 => ?_) (fun c_61 => ?_)
            · skip
              have c_61 : (rc_who (ai 1) (ai 5) x (nI p9) k) = 0 := c_61
              refine lv_iconst (v := 0) hx hb dX5_bringsOf_83 (by decide) ?_
              refine lv_istore (lv' := [(4, .int 0), (3, .int 1), (6, .int 1), (0, .ref (ad 0)), (1, .int (nI p9)), (2, .int x), (5, .int (nI k))]) hx hb dX5_bringsOf_84 hl (by decide) rfl (fun ls hl => ?_)
              refine lv_iinc (v := nI (k + 1)) (lv' := [(5, .int (nI (k + 1))), (4, .int 0), (3, .int 1), (6, .int 1), (0, .ref (ad 0)), (1, .int (nI p9)), (2, .int x)]) hx hb dX5_bringsOf_86 hl (k := 6) rfl (nI_1 k) (by decide) rfl (fun ls hl => ?_)
              refine lv_goto (tgt := 8) hx hb dX5_bringsOf_89 (by decide) ?_
              have e_8_0 : rc_fre (ai 1) x (nI p9) (k + 1) = 1 := by first | rfl | (simp only [rc_fre, rc_who, rc_frs, c_14, c_23, c_34, c_45, c_61, if_true, if_false, eq_self, not_true_eq_false, not_false_eq_true, ite_true, ite_false, ↓reduceIte]; done) | (simp [rc_fre, rc_who, rc_frs, c_14, c_23, c_34, c_45, c_61]; done)
              have e_8_1 : rc_who (ai 1) (ai 5) x (nI p9) (k + 1) = 0 := by first | rfl | (simp only [rc_fre, rc_who, rc_frs, c_14, c_23, c_34, c_45, c_61, if_true, if_false, eq_self, not_true_eq_false, not_false_eq_true, ite_true, ite_false, ↓reduceIte]; done) | (simp [rc_fre, rc_who, rc_frs, c_14, c_23, c_34, c_45, c_61]; done)
              refine ih_8 (k + 1) (na - (k + 1)) ls (by omega) ⟨rfl, (by omega), ?_⟩
              try dsimp only
              rw [e_8_0, e_8_1]
              exact lv_sub hl [4, 5, 6, 2, 1, 0] rfl
            · skip
              have c_61 : ¬ ((rc_who (ai 1) (ai 5) x (nI p9) k) = 0) := c_61
              refine lv_iload hx hb dX5_bringsOf_64 (lv_at hl 1 rfl) ?_
              refine lv_if_eq (tgt := 79) hx hb dX5_bringsOf_66 (by decide) (fun c_66 => ?_) (fun c_66 => ?_)
              · skip
                exact absurd c_66 (by decide)
              · skip
                refine lv_aload_n hx hb dX5_bringsOf_69 rfl (lv_at hl 2 rfl) ?_
                refine va_get (D := D) (ci := 5) (v := .ref (ad 5)) (C := RX5) (T := TX5) (N := 31) hx hb hts hin_X5 hown hK hP 0 rfl rfl 5 (by decide) hf_23 (fun _ h9 => h9) rfl dX5_bringsOf_70 ?_
                refine lv_iload hx hb dX5_bringsOf_73 (lv_at hl 6 rfl) ?_
                refine am_zald hx hb hK hP 5 2 rfl rfl k rfl (by omega) (by decide) dX5_bringsOf_75 ?_
                refine lv_if_ne (tgt := 83) hx hb dX5_bringsOf_76 (by decide) (fun c_76 => ?_) (fun c_76 => ?_)
                · skip
                  have c_76 : ¬ ((ai 5) k) = 0 := c_76
                  refine lv_iconst (v := 0) hx hb dX5_bringsOf_83 (by decide) ?_
                  refine lv_istore (lv' := [(4, .int 0), (3, .int 1), (6, .int 1), (0, .ref (ad 0)), (1, .int (nI p9)), (2, .int x), (5, .int (nI k))]) hx hb dX5_bringsOf_84 hl (by decide) rfl (fun ls hl => ?_)
                  refine lv_iinc (v := nI (k + 1)) (lv' := [(5, .int (nI (k + 1))), (4, .int 0), (3, .int 1), (6, .int 1), (0, .ref (ad 0)), (1, .int (nI p9)), (2, .int x)]) hx hb dX5_bringsOf_86 hl (k := 6) rfl (nI_1 k) (by decide) rfl (fun ls hl => ?_)
                  refine lv_goto (tgt := 8) hx hb dX5_bringsOf_89 (by decide) ?_
                  have e_8_0 : rc_fre (ai 1) x (nI p9) (k + 1) = 1 := by first | rfl | (simp only [rc_fre, rc_who, rc_frs, c_14, c_23, c_34, c_45, c_61, c_76, if_true, if_false, eq_self, not_true_eq_false, not_false_eq_true, ite_true, ite_false, ↓reduceIte]; done) | (simp [rc_fre, rc_who, rc_frs, c_14, c_23, c_34, c_45, c_61, c_76]; done)
                  have e_8_1 : rc_who (ai 1) (ai 5) x (nI p9) (k + 1) = 0 := by first | rfl | (simp only [rc_fre, rc_who, rc_frs, c_14, c_23, c_34, c_45, c_61, c_76, if_true, if_false, eq_self, not_true_eq_false, not_false_eq_true, ite_true, ite_false, ↓reduceIte]; done) | (simp [rc_fre, rc_who, rc_frs, c_14, c_23, c_34, c_45, c_61, c_76]; done)
                  refine ih_8 (k + 1) (na - (k + 1)) ls (by omega) ⟨rfl, (by omega), ?_⟩
                  try dsimp only
                  rw [e_8_0, e_8_1]
                  exact lv_sub hl [4, 5, 6, 2, 1, 0] rfl
                · skip
                  have c_76 : ((ai 5) k) = 0 := c_76
                  refine lv_iconst (v := 1) hx hb dX5_bringsOf_79 (by decide) ?_
                  refine lv_goto (tgt := 84) hx hb dX5_bringsOf_80 (by decide) ?_
                  refine lv_istore (lv' := [(4, .int 1), (3, .int 1), (6, .int 1), (0, .ref (ad 0)), (1, .int (nI p9)), (2, .int x), (5, .int (nI k))]) hx hb dX5_bringsOf_84 hl (by decide) rfl (fun ls hl => ?_)
                  refine lv_iinc (v := nI (k + 1)) (lv' := [(5, .int (nI (k + 1))), (4, .int 1), (3, .int 1), (6, .int 1), (0, .ref (ad 0)), (1, .int (nI p9)), (2, .int x)]) hx hb dX5_bringsOf_86 hl (k := 6) rfl (nI_1 k) (by decide) rfl (fun ls hl => ?_)
                  refine lv_goto (tgt := 8) hx hb dX5_bringsOf_89 (by decide) ?_
                  have e_8_0 : rc_fre (ai 1) x (nI p9) (k + 1) = 1 := by first | rfl | (simp only [rc_fre, rc_who, rc_frs, c_14, c_23, c_34, c_45, c_61, c_76, if_true, if_false, eq_self, not_true_eq_false, not_false_eq_true, ite_true, ite_false, ↓reduceIte]; done) | (simp [rc_fre, rc_who, rc_frs, c_14, c_23, c_34, c_45, c_61, c_76]; done)
                  have e_8_1 : rc_who (ai 1) (ai 5) x (nI p9) (k + 1) = 1 := by first | rfl | (simp only [rc_fre, rc_who, rc_frs, c_14, c_23, c_34, c_45, c_61, c_76, if_true, if_false, eq_self, not_true_eq_false, not_false_eq_true, ite_true, ite_false, ↓reduceIte]; done) | (simp [rc_fre, rc_who, rc_frs, c_14, c_23, c_34, c_45, c_61, c_76]; done)
                  refine ih_8 (k + 1) (na - (k + 1)) ls (by omega) ⟨rfl, (by omega), ?_⟩
                  try dsimp only
                  rw [e_8_0, e_8_1]
                  exact lv_sub hl [4, 5, 6, 2, 1, 0] rfl

set_option maxHeartbeats 4000000 in
set_option maxRecDepth 100000 in
theorem c_X5_restOf (l : Launch) (D : va_G) (ad : Nat → Nat) (cI cL cZ : ClassId) (fi : Nat → Int32) (fl : Nat → Int64) (ai : Nat → Nat → Int32) (al : Nat → Nat → Int64) (x : Int32) (na : Nat) (hna : fi 0 = nI na) (hnl : na ≤ 10) : Met l yX5_restOf wsX5_restOf (am_rm 1 21) (va_Pc [.ref (ad 0), .int x] (am_R nwL vwCl D (rm_w ad cI cL cZ fi fl ai al) [(cI, .int), (cL, .long), (cZ, .boolean)])) (vp_Si (fun r => r = rc_rest (ai 1) x na)) 0 0 am_No := by
  refine am_startR (cc := cX5_restOf) (maxL := 4) (ret := (some .int)) (by decide) rfl (Nat.le_of_ble_eq_true rfl) [(0, .ref (ad 0)), (1, .int x)] rfl ?_
  intro p e s m below meth c ls hx hb hr hml hown hts hlocks hP hK hN hl
  have hown : s.vm.findClass RX5 = some m.cls := hown
  have ht := am_ht hts
  have hin_X5 : ∀ w ∈ u_ws RX5 TX5 31, w ∈ wsX5_restOf := fun w h => List.mem_cons_of_mem _ (am_inX5 w h)
  have hf_7 := ht 431 (.fieldLink RX5 7 "ApartCostModel" "freed" "[I") rfl
  have hf_86 := ht 430 (.fieldLink RX5 86 "ApartCostModel" "count" "I") rfl
  refine lv_sipush (v := 4095) hx hb dX5_restOf_0 (by decide) ?_
  refine lv_istore_n (lv' := [(2, .int 4095), (0, .ref (ad 0)), (1, .int x)]) hx hb dX5_restOf_3 rfl hl (by decide) rfl (fun ls hl => ?_)
  refine lv_iconst (v := 0) hx hb dX5_restOf_4 (by decide) ?_
  refine lv_istore_n (lv' := [(3, .int 0), (2, .int 4095), (0, .ref (ad 0)), (1, .int x)]) hx hb dX5_restOf_5 rfl hl (by decide) rfl (fun ls hl => ?_)
  refine am_loopR (σ := Nat) (fun q n9 ls => n9 = na - q ∧ q ≤ na ∧ lv_has ls 4 [(0, .ref (ad 0)), (1, .int x), (2, .int (rc_rest (ai 1) x q)), (3, .int (nI q))]) ?_ 0 (na - 0) ls ⟨rfl, (by omega), lv_sub hl [2, 3, 1, 0] rfl⟩
  rintro k n9 ls ⟨hn_6, hk, hl⟩ ih_6
  refine lv_iload_n hx hb dX5_restOf_6 rfl (lv_at hl 3 rfl) ?_
  refine lv_aload_n hx hb dX5_restOf_7 rfl (lv_at hl 0 rfl) ?_
  refine va_get (D := D) (ci := 5) (v := .int (fi 0)) (C := RX5) (T := TX5) (N := 31) hx hb hts hin_X5 hown hK hP 0 rfl rfl 0 (by decide) hf_86 (fun _ h9 => h9) rfl dX5_restOf_8 ?_
  refine lv_icmp_ge (tgt := 65) hx hb dX5_restOf_11 (by decide) (fun c_11 => ?_) (fun c_11 => ?_)
  · skip
    have c_11 : (fi 0) ≤ (nI k) := c_11
    have hke_11 : na ≤ k := (am_ge hna (by omega) (by omega)).mp c_11
    have hkq_11 : na = k := by omega
    subst hkq_11
    refine lv_iload_n hx hb dX5_restOf_65 rfl (lv_at hl 2 rfl) ?_
    exact am_iretR hx hb hr hlocks (by first | rfl | (simp only [c_11, if_true, if_false, eq_self, not_true_eq_false, not_false_eq_true, ite_true, ite_false, ↓reduceIte]; done) | (simp [c_11]; done)) dX5_restOf_66
  · skip
    have c_11 : ¬ ((fi 0) ≤ (nI k)) := c_11
    have hkl_11 : k < na := Nat.lt_of_not_le (fun z => c_11 ((am_ge hna (by omega) (by omega)).mpr z))
    refine lv_iload_n hx hb dX5_restOf_14 rfl (lv_at hl 1 rfl) ?_
    refine lv_iload_n hx hb dX5_restOf_15 rfl (lv_at hl 3 rfl) ?_
    refine am_callRi (W.runS (As := [.int x, .int (nI k)]) (rest := []) ⟨hx, hb, hml, hown, hts⟩ (c_X5_has l D _ _ x (nI k)) (va_cwS 2 hts (am_gS (am_in 554 rfl) (am_in 555 rfl) (am_in 35 rfl) (am_in 556 rfl)) rfl rfl rfl (by decide +kernel) ⟨Nat.le_of_ble_eq_true rfl, Nat.le_of_ble_eq_true rfl⟩) (am_preSR hP hK hN) rfl rfl hl.1 rfl (lv_room (Nat.le_of_ble_eq_true rfl)) dX5_restOf_16 ⟨Nat.zero_le _, Nat.zero_le _⟩) ?_
    refine lv_if_eq (tgt := 57) hx hb dX5_restOf_19 (by decide) (fun c_19 => ?_) (fun c_19 => ?_)
    · skip
      have c_19 : (rc_has x (nI k)) = 0 := c_19
      refine lv_iload_n hx hb dX5_restOf_57 rfl (lv_at hl 2 rfl) ?_
      refine lv_istore_n (lv' := [(2, .int (rc_rest (ai 1) x k)), (0, .ref (ad 0)), (1, .int x), (3, .int (nI k))]) hx hb dX5_restOf_58 rfl hl (by decide) rfl (fun ls hl => ?_)
      refine lv_iinc (v := nI (k + 1)) (lv' := [(3, .int (nI (k + 1))), (2, .int (rc_rest (ai 1) x k)), (0, .ref (ad 0)), (1, .int x)]) hx hb dX5_restOf_59 hl (k := 3) rfl (nI_1 k) (by decide) rfl (fun ls hl => ?_)
      refine lv_goto (tgt := 6) hx hb dX5_restOf_62 (by decide) ?_
      have e_6_0 : rc_rest (ai 1) x (k + 1) = rc_rest (ai 1) x k := by first | rfl | (simp only [rc_rest, c_11, c_19, if_true, if_false, eq_self, not_true_eq_false, not_false_eq_true, ite_true, ite_false, ↓reduceIte]; done) | (simp [rc_rest, c_11, c_19]; done)
      refine ih_6 (k + 1) (na - (k + 1)) ls (by omega) ⟨rfl, (by omega), ?_⟩
      try dsimp only
      rw [e_6_0]
      exact lv_sub hl [2, 3, 1, 0] rfl
    · skip
      have c_19 : ¬ ((rc_has x (nI k)) = 0) := c_19
      refine lv_aload_n hx hb dX5_restOf_22 rfl (lv_at hl 0 rfl) ?_
      refine va_get (D := D) (ci := 5) (v := .ref (ad 1)) (C := RX5) (T := TX5) (N := 31) hx hb hts hin_X5 hown hK hP 0 rfl rfl 1 (by decide) hf_7 (fun _ h9 => h9) rfl dX5_restOf_23 ?_
      refine lv_iload_n hx hb dX5_restOf_26 rfl (lv_at hl 3 rfl) ?_
      refine am_iald hx hb hK hP 1 0 rfl rfl k rfl (by omega) (by decide) dX5_restOf_27 ?_
      refine lv_if_lt (tgt := 57) hx hb dX5_restOf_28 (by decide) (fun c_28 => ?_) (fun c_28 => ?_)
      · skip
        have c_28 : ((ai 1) k) < 0 := c_28
        refine lv_iload_n hx hb dX5_restOf_57 rfl (lv_at hl 2 rfl) ?_
        refine lv_istore_n (lv' := [(2, .int (rc_rest (ai 1) x k)), (0, .ref (ad 0)), (1, .int x), (3, .int (nI k))]) hx hb dX5_restOf_58 rfl hl (by decide) rfl (fun ls hl => ?_)
        refine lv_iinc (v := nI (k + 1)) (lv' := [(3, .int (nI (k + 1))), (2, .int (rc_rest (ai 1) x k)), (0, .ref (ad 0)), (1, .int x)]) hx hb dX5_restOf_59 hl (k := 3) rfl (nI_1 k) (by decide) rfl (fun ls hl => ?_)
        refine lv_goto (tgt := 6) hx hb dX5_restOf_62 (by decide) ?_
        have e_6_0 : rc_rest (ai 1) x (k + 1) = rc_rest (ai 1) x k := by first | rfl | (simp only [rc_rest, c_11, c_19, c_28, if_true, if_false, eq_self, not_true_eq_false, not_false_eq_true, ite_true, ite_false, ↓reduceIte]; done) | (simp [rc_rest, c_11, c_19, c_28]; done)
        refine ih_6 (k + 1) (na - (k + 1)) ls (by omega) ⟨rfl, (by omega), ?_⟩
        try dsimp only
        rw [e_6_0]
        exact lv_sub hl [2, 3, 1, 0] rfl
      · skip
        have c_28 : ¬ (((ai 1) k) < 0) := c_28
        refine lv_iload_n hx hb dX5_restOf_31 rfl (lv_at hl 2 rfl) ?_
        refine lv_aload_n hx hb dX5_restOf_32 rfl (lv_at hl 0 rfl) ?_
        refine va_get (D := D) (ci := 5) (v := .ref (ad 1)) (C := RX5) (T := TX5) (N := 31) hx hb hts hin_X5 hown hK hP 0 rfl rfl 1 (by decide) hf_7 (fun _ h9 => h9) rfl dX5_restOf_33 ?_
        refine lv_iload_n hx hb dX5_restOf_36 rfl (lv_at hl 3 rfl) ?_
        refine am_iald hx hb hK hP 1 0 rfl rfl k rfl (by omega) (by decide) dX5_restOf_37 ?_
        refine am_callRi (W.runS (As := [.int (rc_rest (ai 1) x k), .int ((ai 1) k)]) (rest := []) ⟨hx, hb, hml, hown, hts⟩ (c_X5_has l D _ _ (rc_rest (ai 1) x k) ((ai 1) k)) (va_cwS 2 hts (am_gS (am_in 554 rfl) (am_in 555 rfl) (am_in 35 rfl) (am_in 556 rfl)) rfl rfl rfl (by decide +kernel) ⟨Nat.le_of_ble_eq_true rfl, Nat.le_of_ble_eq_true rfl⟩) (am_preSR hP hK hN) rfl rfl hl.1 rfl (lv_room (Nat.le_of_ble_eq_true rfl)) dX5_restOf_38 ⟨Nat.zero_le _, Nat.zero_le _⟩) ?_
        refine lv_if_eq (tgt := 57) hx hb dX5_restOf_41 (by decide) (fun c_41 => ?_) (fun c_41 => ?_)
        · skip
          have c_41 : (rc_has (rc_rest (ai 1) x k) ((ai 1) k)) = 0 := c_41
          refine lv_iload_n hx hb dX5_restOf_57 rfl (lv_at hl 2 rfl) ?_
          refine lv_istore_n (lv' := [(2, .int (rc_rest (ai 1) x k)), (0, .ref (ad 0)), (1, .int x), (3, .int (nI k))]) hx hb dX5_restOf_58 rfl hl (by decide) rfl (fun ls hl => ?_)
          refine lv_iinc (v := nI (k + 1)) (lv' := [(3, .int (nI (k + 1))), (2, .int (rc_rest (ai 1) x k)), (0, .ref (ad 0)), (1, .int x)]) hx hb dX5_restOf_59 hl (k := 3) rfl (nI_1 k) (by decide) rfl (fun ls hl => ?_)
          refine lv_goto (tgt := 6) hx hb dX5_restOf_62 (by decide) ?_
          have e_6_0 : rc_rest (ai 1) x (k + 1) = rc_rest (ai 1) x k := by first | rfl | (simp only [rc_rest, c_11, c_19, c_28, c_41, if_true, if_false, eq_self, not_true_eq_false, not_false_eq_true, ite_true, ite_false, ↓reduceIte]; done) | (simp [rc_rest, c_11, c_19, c_28, c_41]; done)
          refine ih_6 (k + 1) (na - (k + 1)) ls (by omega) ⟨rfl, (by omega), ?_⟩
          try dsimp only
          rw [e_6_0]
          exact lv_sub hl [2, 3, 1, 0] rfl
        · skip
          have c_41 : ¬ ((rc_has (rc_rest (ai 1) x k) ((ai 1) k)) = 0) := c_41
          refine lv_iload_n hx hb dX5_restOf_44 rfl (lv_at hl 2 rfl) ?_
          refine lv_iconst (v := 1) hx hb dX5_restOf_45 (by decide) ?_
          refine lv_aload_n hx hb dX5_restOf_46 rfl (lv_at hl 0 rfl) ?_
          refine va_get (D := D) (ci := 5) (v := .ref (ad 1)) (C := RX5) (T := TX5) (N := 31) hx hb hts hin_X5 hown hK hP 0 rfl rfl 1 (by decide) hf_7 (fun _ h9 => h9) rfl dX5_restOf_47 ?_
          refine lv_iload_n hx hb dX5_restOf_50 rfl (lv_at hl 3 rfl) ?_
          refine am_iald hx hb hK hP 1 0 rfl rfl k rfl (by omega) (by decide) dX5_restOf_51 ?_
          refine lv_ishl hx hb dX5_restOf_52 ?_
          refine lv_isub hx hb dX5_restOf_53 ?_
          refine lv_goto (tgt := 58) hx hb dX5_restOf_54 (by decide) ?_
          refine lv_istore_n (lv' := [(2, .int ((rc_rest (ai 1) x k) - ((1 : Int32) <<< (((ai 1) k) &&& 31)))), (0, .ref (ad 0)), (1, .int x), (3, .int (nI k))]) hx hb dX5_restOf_58 rfl hl (by decide) rfl (fun ls hl => ?_)
          refine lv_iinc (v := nI (k + 1)) (lv' := [(3, .int (nI (k + 1))), (2, .int ((rc_rest (ai 1) x k) - ((1 : Int32) <<< (((ai 1) k) &&& 31)))), (0, .ref (ad 0)), (1, .int x)]) hx hb dX5_restOf_59 hl (k := 3) rfl (nI_1 k) (by decide) rfl (fun ls hl => ?_)
          refine lv_goto (tgt := 6) hx hb dX5_restOf_62 (by decide) ?_
          have e_6_0 : rc_rest (ai 1) x (k + 1) = (rc_rest (ai 1) x k) - ((1 : Int32) <<< (((ai 1) k) &&& 31)) := by first | rfl | (simp only [rc_rest, c_11, c_19, c_28, c_41, if_true, if_false, eq_self, not_true_eq_false, not_false_eq_true, ite_true, ite_false, ↓reduceIte]; done) | (simp [rc_rest, c_11, c_19, c_28, c_41]; done)
          refine ih_6 (k + 1) (na - (k + 1)) ls (by omega) ⟨rfl, (by omega), ?_⟩
          try dsimp only
          rw [e_6_0]
          exact lv_sub hl [2, 3, 1, 0] rfl

set_option maxHeartbeats 4000000 in
set_option maxRecDepth 100000 in
theorem c_X5_valueOf (l : Launch) (D : va_G) (ad : Nat → Nat) (cI cL cZ : ClassId) (fi : Nat → Int32) (fl : Nat → Int64) (ai : Nat → Nat → Int32) (al : Nat → Nat → Int64) (x : Int32) (na : Nat) (nr : Nat) (hna : fi 0 = nI na) (hnl : na ≤ 10) (hnr : fi 1 = nI nr) (hnrl : nr ≤ 16) (hbe : ∀ p, p < 12 → ¬ ((ai 11) p).toInt64 = 0) : Met l yX5_valueOf wsX5_valueOf (am_rm 2 47) (va_Pc [.ref (ad 0), .int x] (am_R nwL vwCl D (rm_w ad cI cL cZ fi fl ai al) [(cI, .int), (cL, .long), (cZ, .boolean)])) (vp_Sl (fun r => r = rc_val (ai 1) (ai 5) (ai 10) (ai 11) (ai 12) (al 9) (al 13) (fi 7) (fi 8) na nr x)) 0 0 am_No := by
  refine am_startR (cc := cX5_valueOf) (maxL := 6) (ret := (some .long)) (by decide) rfl (Nat.le_of_ble_eq_true rfl) [(0, .ref (ad 0)), (1, .int x)] rfl ?_
  intro p e s m below meth c ls hx hb hr hml hown hts hlocks hP hK hN hl
  have hown : s.vm.findClass RX5 = some m.cls := hown
  have ht := am_ht hts
  have hin_X5 : ∀ w ∈ u_ws RX5 TX5 31, w ∈ wsX5_valueOf := fun w h => List.mem_cons_of_mem _ (am_inX5 w h)
  have hf_116 := ht 444 (.fieldLink RX5 116 "ApartCostModel" "restCount" "I") rfl
  have hf_45 := ht 442 (.fieldLink RX5 45 "ApartCostModel" "rests" "[I") rfl
  have hf_48 := ht 443 (.fieldLink RX5 48 "ApartCostModel" "restWorths" "[J") rfl
  refine lv_lconst (v := 0) hx hb dX5_valueOf_0 (by decide) ?_
  refine lv_lstore_n (lv' := [(2, .long 0), (0, .ref (ad 0)), (1, .int x)]) hx hb dX5_valueOf_1 rfl hl (by decide) rfl (fun ls hl => ?_)
  refine lv_iconst (v := 0) hx hb dX5_valueOf_2 (by decide) ?_
  refine lv_istore (lv' := [(4, .int 0), (2, .long 0), (0, .ref (ad 0)), (1, .int x)]) hx hb dX5_valueOf_3 hl (by decide) rfl (fun ls hl => ?_)
  refine am_loopR (σ := Nat) (fun q n9 ls => n9 = 12 - q ∧ q ≤ 12 ∧ lv_has ls 6 [(0, .ref (ad 0)), (1, .int x), (2, .long (rc_vs (rc_brings (ai 1) (ai 5) (ai 10) (ai 11) (al 9) (fi 7) (fi 8) na x) q)), (4, .int (nI q))]) ?_ 0 (12 - 0) ls ⟨rfl, (by omega), lv_sub hl [2, 3, 1, 0] rfl⟩
  rintro k n9 ls ⟨hn_5, hk, hl⟩ ih_5
  refine lv_iload hx hb dX5_valueOf_5 (lv_at hl 3 rfl) ?_
  refine lv_bipush (v := 12) hx hb dX5_valueOf_7 (by decide) ?_
  refine lv_icmp_ge (tgt := 28) hx hb dX5_valueOf_9 (by decide) (fun c_9 => ?_) (fun c_9 => ?_)
  · skip
    have c_9 : 12 ≤ (nI k) := c_9
    have hke_9 : 12 ≤ k := (am_ge (rfl : (12 : Int32) = nI 12) (by decide) (by omega)).mp c_9
    have hkq_9 : k = 12 := by omega
    subst hkq_9
    refine lv_aload_n hx hb dX5_valueOf_28 rfl (lv_at hl 0 rfl) ?_
    refine lv_iload_n hx hb dX5_valueOf_29 rfl (lv_at hl 1 rfl) ?_
    refine am_callRi (W.runV (As := [.int x]) (rest := []) ⟨hx, hb, hml, hown, hts⟩ (c_X5_restOf l D ad cI cL cZ fi fl ai al x na hna hnl) (cwV 1 hts (am_gV (am_in 572 rfl) (am_in 573 rfl) (am_in 18 rfl) (am_in 35 rfl) (am_in 574 rfl)) rfl rfl rfl (by decide +kernel) ⟨Nat.le_of_ble_eq_true rfl, Nat.le_of_ble_eq_true rfl⟩) (am_preVR 5 0 rfl rfl rfl hP hK hN) rfl rfl hl.1 rfl (lv_room (Nat.le_of_ble_eq_true rfl)) dX5_valueOf_30 ⟨Nat.zero_le _, Nat.zero_le _⟩) ?_
    refine lv_istore (lv' := [(4, .int (rc_rest (ai 1) x na)), (0, .ref (ad 0)), (1, .int x), (2, .long (rc_vs (rc_brings (ai 1) (ai 5) (ai 10) (ai 11) (al 9) (fi 7) (fi 8) na x) 12))]) hx hb dX5_valueOf_33 hl (by decide) rfl (fun ls hl => ?_)
    refine lv_iconst (v := 0) hx hb dX5_valueOf_35 (by decide) ?_
    refine lv_istore (lv' := [(5, .int 0), (4, .int (rc_rest (ai 1) x na)), (0, .ref (ad 0)), (1, .int x), (2, .long (rc_vs (rc_brings (ai 1) (ai 5) (ai 10) (ai 11) (al 9) (fi 7) (fi 8) na x) 12))]) hx hb dX5_valueOf_36 hl (by decide) rfl (fun ls hl => ?_)
    refine am_loopR (σ := Nat) (fun q n9 ls => n9 = nr - q ∧ q ≤ nr ∧ lv_has ls 6 [(0, .ref (ad 0)), (1, .int x), (2, .long (rc_vr (ai 12) (al 13) (rc_rest (ai 1) x na) (rc_vs (rc_brings (ai 1) (ai 5) (ai 10) (ai 11) (al 9) (fi 7) (fi 8) na x) 12) q)), (4, .int (rc_rest (ai 1) x na)), (5, .int (nI q))]) ?_ 0 (nr - 0) ls ⟨rfl, (by omega), lv_sub hl [2, 3, 4, 1, 0] rfl⟩
    rintro h n9 ls ⟨hn_38, hh, hl⟩ ih_38
    refine lv_iload hx hb dX5_valueOf_38 (lv_at hl 4 rfl) ?_
    refine lv_aload_n hx hb dX5_valueOf_40 rfl (lv_at hl 0 rfl) ?_
    refine va_get (D := D) (ci := 5) (v := .int (fi 1)) (C := RX5) (T := TX5) (N := 31) hx hb hts hin_X5 hown hK hP 0 rfl rfl 14 (by decide) hf_116 (fun _ h9 => h9) rfl dX5_valueOf_41 ?_
    refine lv_icmp_ge (tgt := 83) hx hb dX5_valueOf_44 (by decide) (fun c_44 => ?_) (fun c_44 => ?_)
    · skip
      have c_44 : (fi 1) ≤ (nI h) := c_44
      have hke_44 : nr ≤ h := (am_ge hnr (by omega) (by omega)).mp c_44
      have hkq_44 : nr = h := by omega
      subst hkq_44
      refine lv_lload_n hx hb dX5_valueOf_83 rfl (lv_at hl 2 rfl) ?_
      exact am_lretR hx hb hr hlocks (by first | rfl | (simp only [c_44, if_true, if_false, eq_self, not_true_eq_false, not_false_eq_true, ite_true, ite_false, ↓reduceIte]; done) | (simp [c_44]; done)) dX5_valueOf_84
    · skip
      have c_44 : ¬ ((fi 1) ≤ (nI h)) := c_44
      have hkl_44 : h < nr := Nat.lt_of_not_le (fun z => c_44 ((am_ge hnr (by omega) (by omega)).mpr z))
      refine lv_lload_n hx hb dX5_valueOf_47 rfl (lv_at hl 2 rfl) ?_
      refine lv_aload_n hx hb dX5_valueOf_48 rfl (lv_at hl 0 rfl) ?_
      refine va_get (D := D) (ci := 5) (v := .ref (ad 12)) (C := RX5) (T := TX5) (N := 31) hx hb hts hin_X5 hown hK hP 0 rfl rfl 12 (by decide) hf_45 (fun _ h9 => h9) rfl dX5_valueOf_49 ?_
      refine lv_iload hx hb dX5_valueOf_52 (lv_at hl 4 rfl) ?_
      refine am_iald hx hb hK hP 12 0 rfl rfl h rfl (by omega) (by decide) dX5_valueOf_54 ?_
      refine lv_iload hx hb dX5_valueOf_55 (lv_at hl 3 rfl) ?_
      refine lv_icmp_ne (tgt := 74) hx hb dX5_valueOf_57 (by decide) (fun c_57 => ?_) (fun c_57 => ?_)
      · skip
        have c_57 : ¬ ((ai 12) h) = (rc_rest (ai 1) x na) := c_57
        refine lv_lconst (v := 0) hx hb dX5_valueOf_74 (by decide) ?_
        refine lv_ladd hx hb dX5_valueOf_75 ?_
        refine lv_lstore_n (lv' := [(2, .long ((rc_vr (ai 12) (al 13) (rc_rest (ai 1) x na) (rc_vs (rc_brings (ai 1) (ai 5) (ai 10) (ai 11) (al 9) (fi 7) (fi 8) na x) 12) h) + 0)), (0, .ref (ad 0)), (1, .int x), (4, .int (rc_rest (ai 1) x na)), (5, .int (nI h))]) hx hb dX5_valueOf_76 rfl hl (by decide) rfl (fun ls hl => ?_)
        refine lv_iinc (v := nI (h + 1)) (lv' := [(5, .int (nI (h + 1))), (2, .long ((rc_vr (ai 12) (al 13) (rc_rest (ai 1) x na) (rc_vs (rc_brings (ai 1) (ai 5) (ai 10) (ai 11) (al 9) (fi 7) (fi 8) na x) 12) h) + 0)), (0, .ref (ad 0)), (1, .int x), (4, .int (rc_rest (ai 1) x na))]) hx hb dX5_valueOf_77 hl (k := 4) rfl (nI_1 h) (by decide) rfl (fun ls hl => ?_)
        refine lv_goto (tgt := 38) hx hb dX5_valueOf_80 (by decide) ?_
        have e_38_0 : rc_vr (ai 12) (al 13) (rc_rest (ai 1) x na) (rc_vs (rc_brings (ai 1) (ai 5) (ai 10) (ai 11) (al 9) (fi 7) (fi 8) na x) 12) (h + 1) = (rc_vr (ai 12) (al 13) (rc_rest (ai 1) x na) (rc_vs (rc_brings (ai 1) (ai 5) (ai 10) (ai 11) (al 9) (fi 7) (fi 8) na x) 12) h) + 0 := by first | rfl | (simp only [rc_vr, c_44, c_57, if_true, if_false, eq_self, not_true_eq_false, not_false_eq_true, ite_true, ite_false, ↓reduceIte]; done) | (simp [rc_vr, c_44, c_57]; done)
        refine ih_38 (h + 1) (nr - (h + 1)) ls (by omega) ⟨rfl, (by omega), ?_⟩
        try dsimp only
        rw [e_38_0]
        exact lv_sub hl [2, 3, 1, 4, 0] rfl
      · skip
        have c_57 : ((ai 12) h) = (rc_rest (ai 1) x na) := c_57
        refine lv_ldc2 (v := 27720) hx hb hown (ht 571 _ rfl) dX5_valueOf_60 ?_
        refine lv_aload_n hx hb dX5_valueOf_63 rfl (lv_at hl 0 rfl) ?_
        refine va_get (D := D) (ci := 5) (v := .ref (ad 13)) (C := RX5) (T := TX5) (N := 31) hx hb hts hin_X5 hown hK hP 0 rfl rfl 13 (by decide) hf_48 (fun _ h9 => h9) rfl dX5_valueOf_64 ?_
        refine lv_iload hx hb dX5_valueOf_67 (lv_at hl 4 rfl) ?_
        refine am_lald hx hb hK hP 13 1 rfl rfl h rfl (by omega) (by decide) dX5_valueOf_69 ?_
        refine lv_lmul hx hb dX5_valueOf_70 ?_
        refine lv_goto (tgt := 75) hx hb dX5_valueOf_71 (by decide) ?_
        refine lv_ladd hx hb dX5_valueOf_75 ?_
        refine lv_lstore_n (lv' := [(2, .long ((rc_vr (ai 12) (al 13) (rc_rest (ai 1) x na) (rc_vs (rc_brings (ai 1) (ai 5) (ai 10) (ai 11) (al 9) (fi 7) (fi 8) na x) 12) h) + (27720 * ((al 13) h)))), (0, .ref (ad 0)), (1, .int x), (4, .int (rc_rest (ai 1) x na)), (5, .int (nI h))]) hx hb dX5_valueOf_76 rfl hl (by decide) rfl (fun ls hl => ?_)
        refine lv_iinc (v := nI (h + 1)) (lv' := [(5, .int (nI (h + 1))), (2, .long ((rc_vr (ai 12) (al 13) (rc_rest (ai 1) x na) (rc_vs (rc_brings (ai 1) (ai 5) (ai 10) (ai 11) (al 9) (fi 7) (fi 8) na x) 12) h) + (27720 * ((al 13) h)))), (0, .ref (ad 0)), (1, .int x), (4, .int (rc_rest (ai 1) x na))]) hx hb dX5_valueOf_77 hl (k := 4) rfl (nI_1 h) (by decide) rfl (fun ls hl => ?_)
        refine lv_goto (tgt := 38) hx hb dX5_valueOf_80 (by decide) ?_
        have e_38_0 : rc_vr (ai 12) (al 13) (rc_rest (ai 1) x na) (rc_vs (rc_brings (ai 1) (ai 5) (ai 10) (ai 11) (al 9) (fi 7) (fi 8) na x) 12) (h + 1) = (rc_vr (ai 12) (al 13) (rc_rest (ai 1) x na) (rc_vs (rc_brings (ai 1) (ai 5) (ai 10) (ai 11) (al 9) (fi 7) (fi 8) na x) 12) h) + (27720 * ((al 13) h)) := by first | rfl | (simp only [rc_vr, c_44, c_57, if_true, if_false, eq_self, not_true_eq_false, not_false_eq_true, ite_true, ite_false, ↓reduceIte]; done) | (simp [rc_vr, c_44, c_57]; done)
        refine ih_38 (h + 1) (nr - (h + 1)) ls (by omega) ⟨rfl, (by omega), ?_⟩
        try dsimp only
        rw [e_38_0]
        exact lv_sub hl [2, 3, 1, 4, 0] rfl
  · skip
    have c_9 : ¬ (12 ≤ (nI k)) := c_9
    have hkl_9 : k < 12 := Nat.lt_of_not_le (fun z => c_9 ((am_ge (rfl : (12 : Int32) = nI 12) (by decide) (by omega)).mpr z))
    refine lv_lload_n hx hb dX5_valueOf_12 rfl (lv_at hl 2 rfl) ?_
    refine lv_aload_n hx hb dX5_valueOf_13 rfl (lv_at hl 0 rfl) ?_
    refine lv_iload hx hb dX5_valueOf_14 (lv_at hl 3 rfl) ?_
    refine lv_iload_n hx hb dX5_valueOf_16 rfl (lv_at hl 1 rfl) ?_
    refine am_callRl (W.runV (As := [.int (nI k), .int x]) (rest := [.long (rc_vs (rc_brings (ai 1) (ai 5) (ai 10) (ai 11) (al 9) (fi 7) (fi 8) na x) k)]) ⟨hx, hb, hml, hown, hts⟩ (c_X5_bringsOf l D ad cI cL cZ fi fl ai al k x na hna hnl hbe (by omega)) (cwV 2 hts (am_gV (am_in 568 rfl) (am_in 569 rfl) (am_in 17 rfl) (am_in 35 rfl) (am_in 570 rfl)) rfl rfl rfl (by decide +kernel) ⟨Nat.le_of_ble_eq_true rfl, Nat.le_of_ble_eq_true rfl⟩) (am_preVR 5 0 rfl rfl rfl hP hK hN) rfl rfl hl.1 rfl (lv_room (Nat.le_of_ble_eq_true rfl)) dX5_valueOf_17 ⟨Nat.zero_le _, Nat.zero_le _⟩) ?_
    refine lv_ladd hx hb dX5_valueOf_20 ?_
    refine lv_lstore_n (lv' := [(2, .long ((rc_vs (rc_brings (ai 1) (ai 5) (ai 10) (ai 11) (al 9) (fi 7) (fi 8) na x) k) + (rc_brings (ai 1) (ai 5) (ai 10) (ai 11) (al 9) (fi 7) (fi 8) na x k))), (0, .ref (ad 0)), (1, .int x), (4, .int (nI k))]) hx hb dX5_valueOf_21 rfl hl (by decide) rfl (fun ls hl => ?_)
    refine lv_iinc (v := nI (k + 1)) (lv' := [(4, .int (nI (k + 1))), (2, .long ((rc_vs (rc_brings (ai 1) (ai 5) (ai 10) (ai 11) (al 9) (fi 7) (fi 8) na x) k) + (rc_brings (ai 1) (ai 5) (ai 10) (ai 11) (al 9) (fi 7) (fi 8) na x k))), (0, .ref (ad 0)), (1, .int x)]) hx hb dX5_valueOf_22 hl (k := 3) rfl (nI_1 k) (by decide) rfl (fun ls hl => ?_)
    refine lv_goto (tgt := 5) hx hb dX5_valueOf_25 (by decide) ?_
    have e_5_0 : rc_vs (rc_brings (ai 1) (ai 5) (ai 10) (ai 11) (al 9) (fi 7) (fi 8) na x) (k + 1) = (rc_vs (rc_brings (ai 1) (ai 5) (ai 10) (ai 11) (al 9) (fi 7) (fi 8) na x) k) + (rc_brings (ai 1) (ai 5) (ai 10) (ai 11) (al 9) (fi 7) (fi 8) na x k) := by first | rfl | (simp only [rc_vs, c_9, if_true, if_false, eq_self, not_true_eq_false, not_false_eq_true, ite_true, ite_false, ↓reduceIte]; done) | (simp [rc_vs, c_9]; done)
    refine ih_5 (k + 1) (12 - (k + 1)) ls (by omega) ⟨rfl, (by omega), ?_⟩
    try dsimp only
    rw [e_5_0]
    exact lv_sub hl [2, 3, 1, 0] rfl

set_option maxHeartbeats 4000000 in
set_option maxRecDepth 100000 in
theorem c_X5_reckonValues (l : Launch) (D : va_G) (ad : Nat → Nat) (cI cL cZ : ClassId) (fi : Nat → Int32) (fl : Nat → Int64) (ai : Nat → Nat → Int32) (al : Nat → Nat → Int64) (A : Nat → Prop) (na : Nat) (nr : Nat) (hna : fi 0 = nI na) (hnl : na ≤ 10) (hnr : fi 1 = nI nr) (hnrl : nr ≤ 16) (hbe : ∀ p, p < 12 → ¬ ((ai 11) p).toInt64 = 0) : Met l yX5_reckonValues wsX5_reckonValues (am_rm 3 72) (va_Pc [.ref (ad 0)] (am_M nwL vwCl D A (rm_w ad cI cL cZ fi fl ai al) [(cI, .int), (cL, .long), (cZ, .boolean)])) (am_Mv vwCl D (rm_w ad cI cL cZ fi fl (va_up ai 17 (rc_no (ai 6) na (ai 17) na)) (va_up al 19 (rc_vals (rc_val (ai 1) (ai 5) (ai 10) (ai 11) (ai 12) (al 9) (al 13) (fi 7) (fi 8) na nr) (al 19) (2 ^ na)))) A) 0 0 A := by
  refine am_startM (cc := cX5_reckonValues) (maxL := 3) (ret := none) (by decide) rfl (Nat.le_of_ble_eq_true rfl) [(0, .ref (ad 0))] rfl ?_
  intro p e s m below meth c ls hx hb hr hml hown hts hlocks hK hN hD H locs hP hS hl
  have hown : s.vm.findClass RX5 = some m.cls := hown
  have ht := am_ht hts
  have hin_X5 : ∀ w ∈ u_ws RX5 TX5 31, w ∈ wsX5_reckonValues := fun w h => List.mem_cons_of_mem _ (am_inX5 w h)
  have hf_27 := ht 436 (.fieldLink RX5 27 "ApartCostModel" "needs" "[Z") rfl
  have hf_67 := ht 456 (.fieldLink RX5 67 "ApartCostModel" "needed" "[I") rfl
  have hf_73 := ht 458 (.fieldLink RX5 73 "ApartCostModel" "values" "[J") rfl
  have hf_86 := ht 430 (.fieldLink RX5 86 "ApartCostModel" "count" "I") rfl
  have hp2 := am_p2 hnl
  refine lv_iconst (v := 0) hx hb dX5_reckonValues_0 (by decide) ?_
  refine lv_istore_n (lv' := [(1, .int 0), (0, .ref (ad 0))]) hx hb dX5_reckonValues_1 rfl hl (by decide) rfl (fun ls hl => ?_)
  refine am_loop (σ := Nat) (fun q n9 H locs ls => n9 = na - q ∧ q ≤ na ∧ va_P D vwCl (rm_w ad cI cL cZ fi fl (va_up ai 17 (rc_no (ai 6) na (ai 17) q)) al) H ∧ va_S A s.heap H locs ∧ lv_has ls 3 [(0, .ref (ad 0)), (1, .int (nI q))]) ?_ 0 (na - 0) H locs ls ⟨rfl, (by omega), hP, hS, lv_sub hl [1, 0] rfl⟩
  rintro a n9 H locs ls ⟨hn_2, hka, hP, hS, hl⟩ ih_2
  have hD : va_D A (rm_w ad cI cL cZ fi fl (va_up ai 17 (rc_no (ai 6) na (ai 17) a)) al) := am_D hD rfl
  refine lv_iload_n hx hb dX5_reckonValues_2 rfl (lv_at hl 1 rfl) ?_
  refine lv_aload_n hx hb dX5_reckonValues_3 rfl (lv_at hl 0 rfl) ?_
  refine va_get (D := D) (ci := 5) (v := .int (fi 0)) (C := RX5) (T := TX5) (N := 31) hx hb hts hin_X5 hown hK hP 0 rfl rfl 0 (by decide) hf_86 (fun _ h9 => h9) rfl dX5_reckonValues_4 ?_
  refine lv_icmp_ge (tgt := 78) hx hb dX5_reckonValues_7 (by decide) (fun c_7 => ?_) (fun c_7 => ?_)
  · skip
    have c_7 : (fi 0) ≤ (nI a) := c_7
    have hke_7 : na ≤ a := (am_ge hna (by omega) (by omega)).mp c_7
    have hkq_7 : na = a := by omega
    subst hkq_7
    refine lv_iconst (v := 0) hx hb dX5_reckonValues_78 (by decide) ?_
    refine lv_istore_n (lv' := [(1, .int 0), (0, .ref (ad 0))]) hx hb dX5_reckonValues_79 rfl hl (by decide) rfl (fun ls hl => ?_)
    refine am_loop (σ := Nat) (fun q n9 H locs ls => n9 = 2 ^ na - q ∧ q ≤ 2 ^ na ∧ va_P D vwCl (rm_w ad cI cL cZ fi fl (va_up ai 17 (rc_no (ai 6) na (ai 17) na)) (va_up al 19 (rc_vals (rc_val (ai 1) (ai 5) (ai 10) (ai 11) (ai 12) (al 9) (al 13) (fi 7) (fi 8) na nr) (al 19) q))) H ∧ va_S A s.heap H locs ∧ lv_has ls 3 [(0, .ref (ad 0)), (1, .int (nI q))]) ?_ 0 (2 ^ na - 0) H locs ls ⟨rfl, (by omega), hP, hS, lv_sub hl [1, 0] rfl⟩
    rintro k n9 H locs ls ⟨hn_80, hk, hP, hS, hl⟩ ih_80
    have hD : va_D A (rm_w ad cI cL cZ fi fl (va_up ai 17 (rc_no (ai 6) na (ai 17) na)) (va_up al 19 (rc_vals (rc_val (ai 1) (ai 5) (ai 10) (ai 11) (ai 12) (al 9) (al 13) (fi 7) (fi 8) na nr) (al 19) k))) := am_D hD rfl
    refine lv_iload_n hx hb dX5_reckonValues_80 rfl (lv_at hl 1 rfl) ?_
    refine lv_iconst (v := 1) hx hb dX5_reckonValues_81 (by decide) ?_
    refine lv_aload_n hx hb dX5_reckonValues_82 rfl (lv_at hl 0 rfl) ?_
    refine va_get (D := D) (ci := 5) (v := .int (fi 0)) (C := RX5) (T := TX5) (N := 31) hx hb hts hin_X5 hown hK hP 0 rfl rfl 0 (by decide) hf_86 (fun _ h9 => h9) rfl dX5_reckonValues_83 ?_
    refine lv_ishl hx hb dX5_reckonValues_86 ?_
    refine am_topi (am_shlc hna hnl) ?_
    refine lv_icmp_ge (tgt := 107) hx hb dX5_reckonValues_87 (by decide) (fun c_87 => ?_) (fun c_87 => ?_)
    · skip
      have c_87 : (nI (2 ^ na)) ≤ (nI k) := c_87
      have hkq : k = 2 ^ na := by have := (am_ge (rfl : nI (2 ^ na) = nI (2 ^ na)) (by omega) (by omega)).mp c_87; omega
      subst hkq
      exact am_vretM hx hb hr hlocks hP hS dX5_reckonValues_107
    · skip
      have c_87 : ¬ ((nI (2 ^ na)) ≤ (nI k)) := c_87
      have hkl : k < 2 ^ na := Nat.lt_of_not_le (fun z => c_87 ((am_ge (rfl : nI (2 ^ na) = nI (2 ^ na)) (by omega) (by omega)).mpr z))
      refine lv_aload_n hx hb dX5_reckonValues_90 rfl (lv_at hl 0 rfl) ?_
      refine va_get (D := D) (ci := 5) (v := .ref (ad 19)) (C := RX5) (T := TX5) (N := 31) hx hb hts hin_X5 hown hK hP 0 rfl rfl 28 (by decide) hf_73 (fun _ h9 => h9) rfl dX5_reckonValues_91 ?_
      refine lv_iload_n hx hb dX5_reckonValues_94 rfl (lv_at hl 1 rfl) ?_
      refine lv_aload_n hx hb dX5_reckonValues_95 rfl (lv_at hl 0 rfl) ?_
      refine lv_iload_n hx hb dX5_reckonValues_96 rfl (lv_at hl 1 rfl) ?_
      refine am_callRl (W.runV (As := [.int (nI k)]) (rest := [.int (nI k), .ref (ad 19)]) ⟨hx, hb, hml, hown, hts⟩ (c_X5_valueOf l D ad cI cL cZ fi fl (va_up ai 17 (rc_no (ai 6) na (ai 17) na)) (va_up al 19 (rc_vals (rc_val (ai 1) (ai 5) (ai 10) (ai 11) (ai 12) (al 9) (al 13) (fi 7) (fi 8) na nr) (al 19) k)) (nI k) na nr hna hnl hnr hnrl hbe) (cwV 1 hts (am_gV (am_in 565 rfl) (am_in 566 rfl) (am_in 16 rfl) (am_in 35 rfl) (am_in 567 rfl)) rfl rfl rfl (by decide +kernel) ⟨Nat.le_of_ble_eq_true rfl, Nat.le_of_ble_eq_true rfl⟩) (am_preVR 5 0 rfl rfl rfl hP hK hN) rfl rfl hl.1 rfl (lv_room (Nat.le_of_ble_eq_true rfl)) dX5_reckonValues_97 ⟨Nat.zero_le _, Nat.zero_le _⟩) ?_
      refine am_last hx hb hK hP hD hS 19 1 rfl rfl k rfl (by omega) (by decide) (rm_w ad cI cL cZ fi fl (va_up ai 17 (rc_no (ai 6) na (ai 17) na)) (va_up al 19 (vp_updL (rc_vals (rc_val (ai 1) (ai 5) (ai 10) (ai 11) (ai 12) (al 9) (al 13) (fi 7) (fi 8) na nr) (al 19) k) k (rc_val (ai 1) (ai 5) (ai 10) (ai 11) (ai 12) (al 9) (al 13) (fi 7) (fi 8) na nr (nI k))))) rfl dX5_reckonValues_100 (fun H locs hP hD hS => ?_)
      refine lv_iinc (v := nI (k + 1)) (lv' := [(1, .int (nI (k + 1))), (0, .ref (ad 0))]) hx hb dX5_reckonValues_101 hl (k := 1) rfl (nI_1 k) (by decide) rfl (fun ls hl => ?_)
      refine lv_goto (tgt := 80) hx hb dX5_reckonValues_104 (by decide) ?_
      have e_80_0 : (rc_vals (rc_val (ai 1) (ai 5) (ai 10) (ai 11) (ai 12) (al 9) (al 13) (fi 7) (fi 8) na nr) (al 19) (k + 1)) = (vp_updL (rc_vals (rc_val (ai 1) (ai 5) (ai 10) (ai 11) (ai 12) (al 9) (al 13) (fi 7) (fi 8) na nr) (al 19) k) k (rc_val (ai 1) (ai 5) (ai 10) (ai 11) (ai 12) (al 9) (al 13) (fi 7) (fi 8) na nr (nI k))) := by first | rfl | (simp only [rc_vals, c_87, if_true, if_false, eq_self, not_true_eq_false, not_false_eq_true, ite_true, ite_false, ↓reduceIte]; done) | (simp [rc_vals, c_87]; done)
      refine ih_80 (k + 1) (2 ^ na - (k + 1)) H locs ls (by omega) ⟨rfl, (by omega), ?_, hS, ?_⟩
      · (try dsimp only); (try rw [e_80_0]); exact hP
      · (try dsimp only); (try rw [e_80_0]); exact lv_sub hl [1, 0] rfl
  · skip
    have c_7 : ¬ ((fi 0) ≤ (nI a)) := c_7
    have hkl_7 : a < na := Nat.lt_of_not_le (fun z => c_7 ((am_ge hna (by omega) (by omega)).mpr z))
    refine lv_aload_n hx hb dX5_reckonValues_10 rfl (lv_at hl 0 rfl) ?_
    refine va_get (D := D) (ci := 5) (v := .ref (ad 17)) (C := RX5) (T := TX5) (N := 31) hx hb hts hin_X5 hown hK hP 0 rfl rfl 26 (by decide) hf_67 (fun _ h9 => h9) rfl dX5_reckonValues_11 ?_
    refine lv_iload_n hx hb dX5_reckonValues_14 rfl (lv_at hl 1 rfl) ?_
    refine lv_iconst (v := 0) hx hb dX5_reckonValues_15 (by decide) ?_
    refine am_iast hx hb hK hP hD hS 17 0 rfl rfl a rfl (by omega) (by decide) (rm_w ad cI cL cZ fi fl (va_up ai 17 (upd (rc_no (ai 6) na (ai 17) a) a 0)) al) rfl dX5_reckonValues_16 (fun H locs hP hD hS => ?_)
    refine lv_iconst (v := 0) hx hb dX5_reckonValues_17 (by decide) ?_
    refine lv_istore_n (lv' := [(2, .int 0), (0, .ref (ad 0)), (1, .int (nI a))]) hx hb dX5_reckonValues_18 rfl hl (by decide) rfl (fun ls hl => ?_)
    refine am_loop (σ := Nat) (fun q n9 H locs ls => n9 = na - q ∧ q ≤ na ∧ va_P D vwCl (rm_w ad cI cL cZ fi fl (va_up ai 17 (rc_ni (ai 6) a (rc_no (ai 6) na (ai 17) a) q)) al) H ∧ va_S A s.heap H locs ∧ lv_has ls 3 [(0, .ref (ad 0)), (1, .int (nI a)), (2, .int (nI q))]) ?_ 0 (na - 0) H locs ls ⟨rfl, (by omega), hP, hS, lv_sub hl [1, 2, 0] rfl⟩
    rintro b n9 H locs ls ⟨hn_19, hkb, hP, hS, hl⟩ ih_19
    have hD : va_D A (rm_w ad cI cL cZ fi fl (va_up ai 17 (rc_ni (ai 6) a (rc_no (ai 6) na (ai 17) a) b)) al) := am_D hD rfl
    refine lv_iload_n hx hb dX5_reckonValues_19 rfl (lv_at hl 2 rfl) ?_
    refine lv_aload_n hx hb dX5_reckonValues_20 rfl (lv_at hl 0 rfl) ?_
    refine va_get (D := D) (ci := 5) (v := .int (fi 0)) (C := RX5) (T := TX5) (N := 31) hx hb hts hin_X5 hown hK hP 0 rfl rfl 0 (by decide) hf_86 (fun _ h9 => h9) rfl dX5_reckonValues_21 ?_
    refine lv_icmp_ge (tgt := 72) hx hb dX5_reckonValues_24 (by decide) (fun c_24 => ?_) (fun c_24 => ?_)
    · skip
      have c_24 : (fi 0) ≤ (nI b) := c_24
      have hke_24 : na ≤ b := (am_ge hna (by omega) (by omega)).mp c_24
      have hkq_24 : na = b := by omega
      subst hkq_24
      refine lv_iinc (v := nI (a + 1)) (lv' := [(1, .int (nI (a + 1))), (0, .ref (ad 0)), (2, .int (nI na))]) hx hb dX5_reckonValues_72 hl (k := 1) rfl (nI_1 a) (by decide) rfl (fun ls hl => ?_)
      refine lv_goto (tgt := 2) hx hb dX5_reckonValues_75 (by decide) ?_
      have e_2_0 : (rc_no (ai 6) na (ai 17) (a + 1)) = (rc_ni (ai 6) a (rc_no (ai 6) na (ai 17) a) na) := by first | rfl | (simp only [rc_no, c_24, if_true, if_false, eq_self, not_true_eq_false, not_false_eq_true, ite_true, ite_false, ↓reduceIte]; done) | (simp [rc_no, c_24]; done)
      refine ih_2 (a + 1) (na - (a + 1)) H locs ls (by omega) ⟨rfl, (by omega), ?_, hS, ?_⟩
      · (try dsimp only); (try rw [e_2_0]); exact hP
      · (try dsimp only); (try rw [e_2_0]); exact lv_sub hl [1, 0] rfl
    · skip
      have c_24 : ¬ ((fi 0) ≤ (nI b)) := c_24
      have hkl_24 : b < na := Nat.lt_of_not_le (fun z => c_24 ((am_ge hna (by omega) (by omega)).mpr z))
      refine lv_aload_n hx hb dX5_reckonValues_27 rfl (lv_at hl 0 rfl) ?_
      refine va_get (D := D) (ci := 5) (v := .ref (ad 17)) (C := RX5) (T := TX5) (N := 31) hx hb hts hin_X5 hown hK hP 0 rfl rfl 26 (by decide) hf_67 (fun _ h9 => h9) rfl dX5_reckonValues_28 ?_
      refine lv_iload_n hx hb dX5_reckonValues_31 rfl (lv_at hl 1 rfl) ?_
      refine lv_aload_n hx hb dX5_reckonValues_32 rfl (lv_at hl 0 rfl) ?_
      refine va_get (D := D) (ci := 5) (v := .ref (ad 6)) (C := RX5) (T := TX5) (N := 31) hx hb hts hin_X5 hown hK hP 0 rfl rfl 6 (by decide) hf_27 (fun _ h9 => h9) rfl dX5_reckonValues_33 ?_
      refine lv_bipush (v := 10) hx hb dX5_reckonValues_36 (by decide) ?_
      refine lv_iload_n hx hb dX5_reckonValues_38 rfl (lv_at hl 1 rfl) ?_
      refine lv_imul hx hb dX5_reckonValues_39 ?_
      refine lv_iload_n hx hb dX5_reckonValues_40 rfl (lv_at hl 2 rfl) ?_
      refine lv_iadd hx hb dX5_reckonValues_41 ?_
      refine am_zald hx hb hK hP 6 2 rfl rfl (10 * a + b) (am_x10 a b) (by omega) (by decide) dX5_reckonValues_42 ?_
      refine lv_if_eq (tgt := 59) hx hb dX5_reckonValues_43 (by decide) (fun c_43 => ?_) (fun c_43 => ?_)
      · skip
        have c_43 : ((ai 6) (10 * a + b)) = 0 := c_43
        refine lv_aload_n hx hb dX5_reckonValues_59 rfl (lv_at hl 0 rfl) ?_
        refine va_get (D := D) (ci := 5) (v := .ref (ad 17)) (C := RX5) (T := TX5) (N := 31) hx hb hts hin_X5 hown hK hP 0 rfl rfl 26 (by decide) hf_67 (fun _ h9 => h9) rfl dX5_reckonValues_60 ?_
        refine lv_iload_n hx hb dX5_reckonValues_63 rfl (lv_at hl 1 rfl) ?_
        refine am_iald hx hb hK hP 17 0 rfl rfl a rfl (by omega) (by decide) dX5_reckonValues_64 ?_
        refine am_iast hx hb hK hP hD hS 17 0 rfl rfl a rfl (by omega) (by decide) (rm_w ad cI cL cZ fi fl (va_up ai 17 (upd (rc_ni (ai 6) a (rc_no (ai 6) na (ai 17) a) b) a ((rc_ni (ai 6) a (rc_no (ai 6) na (ai 17) a) b) a))) al) rfl dX5_reckonValues_65 (fun H locs hP hD hS => ?_)
        refine lv_iinc (v := nI (b + 1)) (lv' := [(2, .int (nI (b + 1))), (0, .ref (ad 0)), (1, .int (nI a))]) hx hb dX5_reckonValues_66 hl (k := 2) rfl (nI_1 b) (by decide) rfl (fun ls hl => ?_)
        refine lv_goto (tgt := 19) hx hb dX5_reckonValues_69 (by decide) ?_
        have e_19_0 : (rc_ni (ai 6) a (rc_no (ai 6) na (ai 17) a) (b + 1)) = (upd (rc_ni (ai 6) a (rc_no (ai 6) na (ai 17) a) b) a ((rc_ni (ai 6) a (rc_no (ai 6) na (ai 17) a) b) a)) := by first | rfl | (simp only [rc_ni, c_24, c_43, if_true, if_false, eq_self, not_true_eq_false, not_false_eq_true, ite_true, ite_false, ↓reduceIte]; done) | (simp [rc_ni, c_24, c_43]; done)
        refine ih_19 (b + 1) (na - (b + 1)) H locs ls (by omega) ⟨rfl, (by omega), ?_, hS, ?_⟩
        · (try dsimp only); (try rw [e_19_0]); exact hP
        · (try dsimp only); (try rw [e_19_0]); exact lv_sub hl [1, 2, 0] rfl
      · skip
        have c_43 : ¬ (((ai 6) (10 * a + b)) = 0) := c_43
        refine lv_aload_n hx hb dX5_reckonValues_46 rfl (lv_at hl 0 rfl) ?_
        refine va_get (D := D) (ci := 5) (v := .ref (ad 17)) (C := RX5) (T := TX5) (N := 31) hx hb hts hin_X5 hown hK hP 0 rfl rfl 26 (by decide) hf_67 (fun _ h9 => h9) rfl dX5_reckonValues_47 ?_
        refine lv_iload_n hx hb dX5_reckonValues_50 rfl (lv_at hl 1 rfl) ?_
        refine am_iald hx hb hK hP 17 0 rfl rfl a rfl (by omega) (by decide) dX5_reckonValues_51 ?_
        refine lv_iconst (v := 1) hx hb dX5_reckonValues_52 (by decide) ?_
        refine lv_iload_n hx hb dX5_reckonValues_53 rfl (lv_at hl 2 rfl) ?_
        refine lv_ishl hx hb dX5_reckonValues_54 ?_
        refine lv_ior hx hb dX5_reckonValues_55 ?_
        refine lv_goto (tgt := 65) hx hb dX5_reckonValues_56 (by decide) ?_
        refine am_iast hx hb hK hP hD hS 17 0 rfl rfl a rfl (by omega) (by decide) (rm_w ad cI cL cZ fi fl (va_up ai 17 (upd (rc_ni (ai 6) a (rc_no (ai 6) na (ai 17) a) b) a (((rc_ni (ai 6) a (rc_no (ai 6) na (ai 17) a) b) a) ||| ((1 : Int32) <<< ((nI b) &&& 31))))) al) rfl dX5_reckonValues_65 (fun H locs hP hD hS => ?_)
        refine lv_iinc (v := nI (b + 1)) (lv' := [(2, .int (nI (b + 1))), (0, .ref (ad 0)), (1, .int (nI a))]) hx hb dX5_reckonValues_66 hl (k := 2) rfl (nI_1 b) (by decide) rfl (fun ls hl => ?_)
        refine lv_goto (tgt := 19) hx hb dX5_reckonValues_69 (by decide) ?_
        have e_19_0 : (rc_ni (ai 6) a (rc_no (ai 6) na (ai 17) a) (b + 1)) = (upd (rc_ni (ai 6) a (rc_no (ai 6) na (ai 17) a) b) a (((rc_ni (ai 6) a (rc_no (ai 6) na (ai 17) a) b) a) ||| ((1 : Int32) <<< ((nI b) &&& 31)))) := by first | rfl | (simp only [rc_ni, c_24, c_43, if_true, if_false, eq_self, not_true_eq_false, not_false_eq_true, ite_true, ite_false, ↓reduceIte]; done) | (simp [rc_ni, c_24, c_43]; done)
        refine ih_19 (b + 1) (na - (b + 1)) H locs ls (by omega) ⟨rfl, (by omega), ?_, hS, ?_⟩
        · (try dsimp only); (try rw [e_19_0]); exact hP
        · (try dsimp only); (try rw [e_19_0]); exact lv_sub hl [1, 2, 0] rfl
set_option maxHeartbeats 4000000 in
set_option maxRecDepth 100000 in
theorem c_X5_spread (l : Launch) (D : va_G) (ad : Nat → Nat) (cI cL cZ : ClassId) (fi : Nat → Int32) (fl : Nat → Int64) (ai : Nat → Nat → Int32) (al : Nat → Nat → Int64) (A : Nat → Prop) (sn : Nat) (en : Nat) (z : Int64) (na : Nat) (hna : fi 0 = nI na) (hnl : na ≤ 10) (hto : ∀ a, a < na → ∃ t, t < 6 ∧ (ai 2) a = nI t) (hsi : ∀ a, a < na → ∃ t, t < 6 ∧ (ai 3) a = nI t) (hsn : sn < 1024) (hen : en < na) : Met l yX5_spread wsX5_spread (am_rm 2 43) (va_Pc [.ref (ad 0), .int (nI sn), .int (nI en), .long z] (am_M nwL vwCl D A (rm_w ad cI cL cZ fi fl ai al) [(cI, .int), (cL, .long), (cZ, .boolean)])) (am_Mv vwCl D (rm_w ad cI cL cZ fi fl ai (va_up al 18 (rc_spr (ai 17) (rc_step (ai 2) (ai 3) (al 4) (al 7) (al 8)) sn en z (al 18) na))) A) 0 0 A := by
  refine am_startM (cc := cX5_spread) (maxL := 9) (ret := none) (by decide) rfl (Nat.le_of_ble_eq_true rfl) [(0, .ref (ad 0)), (1, .int (nI sn)), (2, .int (nI en)), (3, .long z)] rfl ?_
  intro p e s m below meth c ls hx hb hr hml hown hts hlocks hK hN hD H locs hP hS hl
  have hown : s.vm.findClass RX5 = some m.cls := hown
  have ht := am_ht hts
  have hin_X5 : ∀ w ∈ u_ws RX5 TX5 31, w ∈ wsX5_spread := fun w h => List.mem_cons_of_mem _ (am_inX5 w h)
  have hf_70 := ht 457 (.fieldLink RX5 70 "ApartCostModel" "least" "[J") rfl
  have hf_86 := ht 430 (.fieldLink RX5 86 "ApartCostModel" "count" "I") rfl
  refine lv_iconst (v := 0) hx hb dX5_spread_0 (by decide) ?_
  refine lv_istore (lv' := [(5, .int 0), (0, .ref (ad 0)), (1, .int (nI sn)), (2, .int (nI en)), (3, .long z)]) hx hb dX5_spread_1 hl (by decide) rfl (fun ls hl => ?_)
  refine am_loop (σ := Nat) (fun q n9 H locs ls => n9 = na - q ∧ q ≤ na ∧ va_P D vwCl (rm_w ad cI cL cZ fi fl ai (va_up al 18 (rc_spr (ai 17) (rc_step (ai 2) (ai 3) (al 4) (al 7) (al 8)) sn en z (al 18) q))) H ∧ va_S A s.heap H locs ∧ lv_has ls 9 [(0, .ref (ad 0)), (1, .int (nI sn)), (2, .int (nI en)), (3, .long z), (5, .int (nI q))]) ?_ 0 (na - 0) H locs ls ⟨rfl, (by omega), hP, hS, lv_sub hl [1, 2, 3, 4, 0] rfl⟩
  rintro k n9 H locs ls ⟨hn_3, hk, hP, hS, hl⟩ ih_3
  have hD : va_D A (rm_w ad cI cL cZ fi fl ai (va_up al 18 (rc_spr (ai 17) (rc_step (ai 2) (ai 3) (al 4) (al 7) (al 8)) sn en z (al 18) k))) := am_D hD rfl
  refine lv_iload hx hb dX5_spread_3 (lv_at hl 4 rfl) ?_
  refine lv_aload_n hx hb dX5_spread_5 rfl (lv_at hl 0 rfl) ?_
  refine va_get (D := D) (ci := 5) (v := .int (fi 0)) (C := RX5) (T := TX5) (N := 31) hx hb hts hin_X5 hown hK hP 0 rfl rfl 0 (by decide) hf_86 (fun _ h9 => h9) rfl dX5_spread_6 ?_
  refine lv_icmp_ge (tgt := 85) hx hb dX5_spread_9 (by decide) (fun c_9 => ?_) (fun c_9 => ?_)
  · skip
    have c_9 : (fi 0) ≤ (nI k) := c_9
    have hke_9 : na ≤ k := (am_ge hna (by omega) (by omega)).mp c_9
    have hkq_9 : na = k := by omega
    subst hkq_9
    exact am_vretM hx hb hr hlocks hP hS dX5_spread_85
  · skip
    have c_9 : ¬ ((fi 0) ≤ (nI k)) := c_9
    have hkl_9 : k < na := Nat.lt_of_not_le (fun z => c_9 ((am_ge hna (by omega) (by omega)).mpr z))
    refine lv_aload_n hx hb dX5_spread_12 rfl (lv_at hl 0 rfl) ?_
    refine lv_iload_n hx hb dX5_spread_13 rfl (lv_at hl 1 rfl) ?_
    refine lv_iload hx hb dX5_spread_14 (lv_at hl 4 rfl) ?_
    refine am_callRi (W.runV (As := [.int (nI sn), .int (nI k)]) (rest := []) ⟨hx, hb, hml, hown, hts⟩ (c_X5_canDo l D ad cI cL cZ fi fl ai (va_up al 18 (rc_spr (ai 17) (rc_step (ai 2) (ai 3) (al 4) (al 7) (al 8)) sn en z (al 18) k)) (nI sn) k (by omega)) (cwV 2 hts (am_gV (am_in 579 rfl) (am_in 580 rfl) (am_in 20 rfl) (am_in 35 rfl) (am_in 581 rfl)) rfl rfl rfl (by decide +kernel) ⟨Nat.le_of_ble_eq_true rfl, Nat.le_of_ble_eq_true rfl⟩) (am_preVR 5 0 rfl rfl rfl hP hK hN) rfl rfl hl.1 rfl (lv_room (Nat.le_of_ble_eq_true rfl)) dX5_spread_16 ⟨Nat.zero_le _, Nat.zero_le _⟩) ?_
    refine lv_if_eq (tgt := 79) hx hb dX5_spread_19 (by decide) (fun c_19 => ?_) (fun c_19 => ?_)
    · skip
      have c_19 : (rc_can (ai 17) (nI sn) k) = 0 := c_19
      refine lv_iinc (v := nI (k + 1)) (lv' := [(5, .int (nI (k + 1))), (0, .ref (ad 0)), (1, .int (nI sn)), (2, .int (nI en)), (3, .long z)]) hx hb dX5_spread_79 hl (k := 4) rfl (nI_1 k) (by decide) rfl (fun ls hl => ?_)
      refine lv_goto (tgt := 3) hx hb dX5_spread_82 (by decide) ?_
      have e_3_0 : (rc_spr (ai 17) (rc_step (ai 2) (ai 3) (al 4) (al 7) (al 8)) sn en z (al 18) (k + 1)) = (rc_spr (ai 17) (rc_step (ai 2) (ai 3) (al 4) (al 7) (al 8)) sn en z (al 18) k) := by first | rfl | (simp only [rc_spr, c_9, c_19, if_true, if_false, eq_self, not_true_eq_false, not_false_eq_true, ite_true, ite_false, ↓reduceIte]; done) | (simp [rc_spr, c_9, c_19]; done)
      refine ih_3 (k + 1) (na - (k + 1)) H locs ls (by omega) ⟨rfl, (by omega), ?_, hS, ?_⟩
      · (try dsimp only); (try rw [e_3_0]); exact hP
      · (try dsimp only); (try rw [e_3_0]); exact lv_sub hl [1, 2, 3, 4, 0] rfl
    · skip
      have c_19 : ¬ ((rc_can (ai 17) (nI sn) k) = 0) := c_19
      refine lv_bipush (v := 10) hx hb dX5_spread_22 (by decide) ?_
      refine lv_iload_n hx hb dX5_spread_24 rfl (lv_at hl 1 rfl) ?_
      refine lv_iconst (v := 1) hx hb dX5_spread_25 (by decide) ?_
      refine lv_iload hx hb dX5_spread_26 (lv_at hl 4 rfl) ?_
      refine lv_ishl hx hb dX5_spread_28 ?_
      refine lv_ior hx hb dX5_spread_29 ?_
      refine lv_imul hx hb dX5_spread_30 ?_
      refine lv_iload hx hb dX5_spread_31 (lv_at hl 4 rfl) ?_
      refine lv_iadd hx hb dX5_spread_33 ?_
      refine am_topi (am_six2 (by omega)) ?_
      refine lv_istore (lv' := [(6, .int (nI (10 * (sn ||| 2 ^ k) + k))), (0, .ref (ad 0)), (1, .int (nI sn)), (2, .int (nI en)), (3, .long z), (5, .int (nI k))]) hx hb dX5_spread_34 hl (by decide) rfl (fun ls hl => ?_)
      refine lv_lload_n hx hb dX5_spread_36 rfl (lv_at hl 4 rfl) ?_
      refine lv_aload_n hx hb dX5_spread_37 rfl (lv_at hl 1 rfl) ?_
      refine lv_iload_n hx hb dX5_spread_38 rfl (lv_at hl 3 rfl) ?_
      refine lv_iload hx hb dX5_spread_39 (lv_at hl 5 rfl) ?_
      refine am_callRl (W.runV (As := [.int (nI en), .int (nI k)]) (rest := [.long z]) ⟨hx, hb, hml, hown, hts⟩ (c_X5_stepCost l D ad cI cL cZ fi fl ai (va_up al 18 (rc_spr (ai 17) (rc_step (ai 2) (ai 3) (al 4) (al 7) (al 8)) sn en z (al 18) k)) (en + 1) k na hna hnl hto hsi (by omega) (by omega)) (cwV 2 hts (am_gV (am_in 582 rfl) (am_in 583 rfl) (am_in 21 rfl) (am_in 35 rfl) (am_in 584 rfl)) rfl rfl rfl (by decide +kernel) ⟨Nat.le_of_ble_eq_true rfl, Nat.le_of_ble_eq_true rfl⟩) (am_preVR 5 0 rfl rfl rfl hP hK hN) rfl rfl hl.1 rfl (lv_room (Nat.le_of_ble_eq_true rfl)) dX5_spread_41 ⟨Nat.zero_le _, Nat.zero_le _⟩) ?_
      refine lv_ladd hx hb dX5_spread_44 ?_
      refine lv_lstore (lv' := [(7, .long (z + ((rc_step (ai 2) (ai 3) (al 4) (al 7) (al 8)) (en + 1) k))), (6, .int (nI (10 * (sn ||| 2 ^ k) + k))), (0, .ref (ad 0)), (1, .int (nI sn)), (2, .int (nI en)), (3, .long z), (5, .int (nI k))]) hx hb dX5_spread_45 hl (by decide) rfl (fun ls hl => ?_)
      refine lv_aload_n hx hb dX5_spread_47 rfl (lv_at hl 2 rfl) ?_
      refine va_get (D := D) (ci := 5) (v := .ref (ad 18)) (C := RX5) (T := TX5) (N := 31) hx hb hts hin_X5 hown hK hP 0 rfl rfl 27 (by decide) hf_70 (fun _ h9 => h9) rfl dX5_spread_48 ?_
      refine lv_iload hx hb dX5_spread_51 (lv_at hl 1 rfl) ?_
      refine lv_lload hx hb dX5_spread_53 (lv_at hl 0 rfl) ?_
      refine lv_aload_n hx hb dX5_spread_55 rfl (lv_at hl 2 rfl) ?_
      refine va_get (D := D) (ci := 5) (v := .ref (ad 18)) (C := RX5) (T := TX5) (N := 31) hx hb hts hin_X5 hown hK hP 0 rfl rfl 27 (by decide) hf_70 (fun _ h9 => h9) rfl dX5_spread_56 ?_
      refine lv_iload hx hb dX5_spread_59 (lv_at hl 1 rfl) ?_
      refine am_lald hx hb hK hP 18 1 rfl rfl (10 * (sn ||| 2 ^ k) + k) rfl (by have := am_or_lt hsn (show k < 10 by omega); omega) (by decide) dX5_spread_61 ?_
      refine W.lcmp hx hb dX5_spread_62 ?_
      refine lv_if_ge (tgt := 71) hx hb dX5_spread_63 (by decide) (fun c_63 => ?_) (fun c_63 => ?_)
      · skip
        have c_63 : ((rc_spr (ai 17) (rc_step (ai 2) (ai 3) (al 4) (al 7) (al 8)) sn en z (al 18) k) (10 * (sn ||| 2 ^ k) + k)) ≤ (z + ((rc_step (ai 2) (ai 3) (al 4) (al 7) (al 8)) (en + 1) k)) := (lg_cmp_ge _ _).mp c_63
        refine lv_aload_n hx hb dX5_spread_71 rfl (lv_at hl 2 rfl) ?_
        refine va_get (D := D) (ci := 5) (v := .ref (ad 18)) (C := RX5) (T := TX5) (N := 31) hx hb hts hin_X5 hown hK hP 0 rfl rfl 27 (by decide) hf_70 (fun _ h9 => h9) rfl dX5_spread_72 ?_
        refine lv_iload hx hb dX5_spread_75 (lv_at hl 1 rfl) ?_
        refine am_lald hx hb hK hP 18 1 rfl rfl (10 * (sn ||| 2 ^ k) + k) rfl (by have := am_or_lt hsn (show k < 10 by omega); omega) (by decide) dX5_spread_77 ?_
        refine am_last hx hb hK hP hD hS 18 1 rfl rfl (10 * (sn ||| 2 ^ k) + k) rfl (by have := am_or_lt hsn (show k < 10 by omega); omega) (by decide) (rm_w ad cI cL cZ fi fl ai (va_up al 18 (vp_updL (rc_spr (ai 17) (rc_step (ai 2) (ai 3) (al 4) (al 7) (al 8)) sn en z (al 18) k) (10 * (sn ||| 2 ^ k) + k) ((rc_spr (ai 17) (rc_step (ai 2) (ai 3) (al 4) (al 7) (al 8)) sn en z (al 18) k) (10 * (sn ||| 2 ^ k) + k))))) rfl dX5_spread_78 (fun H locs hP hD hS => ?_)
        refine lv_iinc (v := nI (k + 1)) (lv' := [(5, .int (nI (k + 1))), (7, .long (z + ((rc_step (ai 2) (ai 3) (al 4) (al 7) (al 8)) (en + 1) k))), (6, .int (nI (10 * (sn ||| 2 ^ k) + k))), (0, .ref (ad 0)), (1, .int (nI sn)), (2, .int (nI en)), (3, .long z)]) hx hb dX5_spread_79 hl (k := 6) rfl (nI_1 k) (by decide) rfl (fun ls hl => ?_)
        refine lv_goto (tgt := 3) hx hb dX5_spread_82 (by decide) ?_
        have e_3_0 : (rc_spr (ai 17) (rc_step (ai 2) (ai 3) (al 4) (al 7) (al 8)) sn en z (al 18) (k + 1)) = (vp_updL (rc_spr (ai 17) (rc_step (ai 2) (ai 3) (al 4) (al 7) (al 8)) sn en z (al 18) k) (10 * (sn ||| 2 ^ k) + k) ((rc_spr (ai 17) (rc_step (ai 2) (ai 3) (al 4) (al 7) (al 8)) sn en z (al 18) k) (10 * (sn ||| 2 ^ k) + k))) := by first | rfl | (simp only [rc_spr, c_9, c_19, c_63, if_true, if_false, eq_self, not_true_eq_false, not_false_eq_true, ite_true, ite_false, ↓reduceIte]; done) | (simp [rc_spr, c_9, c_19, c_63]; done)
        refine ih_3 (k + 1) (na - (k + 1)) H locs ls (by omega) ⟨rfl, (by omega), ?_, hS, ?_⟩
        · (try dsimp only); (try rw [e_3_0]); exact hP
        · (try dsimp only); (try rw [e_3_0]); exact lv_sub hl [3, 4, 5, 6, 0] rfl
      · skip
        have c_63 : ¬ (((rc_spr (ai 17) (rc_step (ai 2) (ai 3) (al 4) (al 7) (al 8)) sn en z (al 18) k) (10 * (sn ||| 2 ^ k) + k)) ≤ (z + ((rc_step (ai 2) (ai 3) (al 4) (al 7) (al 8)) (en + 1) k))) := (fun z => c_63 ((lg_cmp_ge _ _).mpr z))
        refine lv_lload hx hb dX5_spread_66 (lv_at hl 0 rfl) ?_
        refine lv_goto (tgt := 78) hx hb dX5_spread_68 (by decide) ?_
        refine am_last hx hb hK hP hD hS 18 1 rfl rfl (10 * (sn ||| 2 ^ k) + k) rfl (by have := am_or_lt hsn (show k < 10 by omega); omega) (by decide) (rm_w ad cI cL cZ fi fl ai (va_up al 18 (vp_updL (rc_spr (ai 17) (rc_step (ai 2) (ai 3) (al 4) (al 7) (al 8)) sn en z (al 18) k) (10 * (sn ||| 2 ^ k) + k) (z + ((rc_step (ai 2) (ai 3) (al 4) (al 7) (al 8)) (en + 1) k))))) rfl dX5_spread_78 (fun H locs hP hD hS => ?_)
        refine lv_iinc (v := nI (k + 1)) (lv' := [(5, .int (nI (k + 1))), (7, .long (z + ((rc_step (ai 2) (ai 3) (al 4) (al 7) (al 8)) (en + 1) k))), (6, .int (nI (10 * (sn ||| 2 ^ k) + k))), (0, .ref (ad 0)), (1, .int (nI sn)), (2, .int (nI en)), (3, .long z)]) hx hb dX5_spread_79 hl (k := 6) rfl (nI_1 k) (by decide) rfl (fun ls hl => ?_)
        refine lv_goto (tgt := 3) hx hb dX5_spread_82 (by decide) ?_
        have e_3_0 : (rc_spr (ai 17) (rc_step (ai 2) (ai 3) (al 4) (al 7) (al 8)) sn en z (al 18) (k + 1)) = (vp_updL (rc_spr (ai 17) (rc_step (ai 2) (ai 3) (al 4) (al 7) (al 8)) sn en z (al 18) k) (10 * (sn ||| 2 ^ k) + k) (z + ((rc_step (ai 2) (ai 3) (al 4) (al 7) (al 8)) (en + 1) k))) := by first | rfl | (simp only [rc_spr, c_9, c_19, c_63, if_true, if_false, eq_self, not_true_eq_false, not_false_eq_true, ite_true, ite_false, ↓reduceIte]; done) | (simp [rc_spr, c_9, c_19, c_63]; done)
        refine ih_3 (k + 1) (na - (k + 1)) H locs ls (by omega) ⟨rfl, (by omega), ?_, hS, ?_⟩
        · (try dsimp only); (try rw [e_3_0]); exact hP
        · (try dsimp only); (try rw [e_3_0]); exact lv_sub hl [3, 4, 5, 6, 0] rfl

set_option maxHeartbeats 4000000 in
set_option maxRecDepth 100000 in
theorem c_X5_bestFrom (l : Launch) (D : va_G) (ad : Nat → Nat) (cI cL cZ : ClassId) (fi : Nat → Int32) (fl : Nat → Int64) (ai : Nat → Nat → Int32) (al : Nat → Nat → Int64) (A : Nat → Prop) (sn : Nat) (j : Nat) (z : Int64) (na : Nat) (hna : fi 0 = nI na) (hnl : na ≤ 10) (hto : ∀ a, a < na → ∃ t, t < 6 ∧ (ai 2) a = nI t) (hsi : ∀ a, a < na → ∃ t, t < 6 ∧ (ai 3) a = nI t) (hs2 : sn < 2 ^ na) (hj : j ≤ na) : Met l yX5_bestFrom wsX5_bestFrom (am_rm 3 71) (va_Pc [.ref (ad 0), .int (nI sn), .int (ac_la j), .long z] (am_M nwL vwCl D A (rm_w ad cI cL cZ fi fl ai al) [(cI, .int), (cL, .long), (cZ, .boolean)])) (am_Ml vwCl D ((rc_best (ai 17) (rc_step (ai 2) (ai 3) (al 4) (al 7) (al 8)) (al 19) na sn j z (al 18)).1) (rm_w ad cI cL cZ fi fl ai (va_up al 18 ((rc_best (ai 17) (rc_step (ai 2) (ai 3) (al 4) (al 7) (al 8)) (al 19) na sn j z (al 18)).2))) A) 0 0 A := by
  refine am_startM (cc := cX5_bestFrom) (maxL := 11) (ret := (some .long)) (by decide) rfl (Nat.le_of_ble_eq_true rfl) [(0, .ref (ad 0)), (1, .int (nI sn)), (2, .int (ac_la j)), (3, .long z)] rfl ?_
  intro p e s m below meth c ls hx hb hr hml hown hts hlocks hK hN hD H locs hP hS hl
  have hown : s.vm.findClass RX5 = some m.cls := hown
  have ht := am_ht hts
  have hin_X5 : ∀ w ∈ u_ws RX5 TX5 31, w ∈ wsX5_bestFrom := fun w h => List.mem_cons_of_mem _ (am_inX5 w h)
  have hf_70 := ht 457 (.fieldLink RX5 70 "ApartCostModel" "least" "[J") rfl
  have hf_73 := ht 458 (.fieldLink RX5 73 "ApartCostModel" "values" "[J") rfl
  have hf_86 := ht 430 (.fieldLink RX5 86 "ApartCostModel" "count" "I") rfl
  have hp2 := am_p2 hnl
  have hsn : sn < 1024 := by omega
  refine lv_aload_n hx hb dX5_bestFrom_0 rfl (lv_at hl 0 rfl) ?_
  refine va_get (D := D) (ci := 5) (v := .ref (ad 19)) (C := RX5) (T := TX5) (N := 31) hx hb hts hin_X5 hown hK hP 0 rfl rfl 28 (by decide) hf_73 (fun _ h9 => h9) rfl dX5_bestFrom_1 ?_
  refine lv_iload_n hx hb dX5_bestFrom_4 rfl (lv_at hl 1 rfl) ?_
  refine am_lald hx hb hK hP 19 1 rfl rfl sn rfl (by omega) (by decide) dX5_bestFrom_5 ?_
  refine lv_lload_n hx hb dX5_bestFrom_6 rfl (lv_at hl 3 rfl) ?_
  refine lv_lsub hx hb dX5_bestFrom_7 ?_
  refine lv_lstore (lv' := [(5, .long (((al 19) sn) - z)), (0, .ref (ad 0)), (1, .int (nI sn)), (2, .int (ac_la j)), (3, .long z)]) hx hb dX5_bestFrom_8 hl (by decide) rfl (fun ls hl => ?_)
  refine lv_iconst (v := 0) hx hb dX5_bestFrom_10 (by decide) ?_
  refine lv_istore (lv' := [(7, .int 0), (5, .long (((al 19) sn) - z)), (0, .ref (ad 0)), (1, .int (nI sn)), (2, .int (ac_la j)), (3, .long z)]) hx hb dX5_bestFrom_11 hl (by decide) rfl (fun ls hl => ?_)
  refine am_loop (σ := Nat) (fun q n9 H locs ls => n9 = 10 * 2 ^ na - q ∧ q ≤ 10 * 2 ^ na ∧ va_P D vwCl (rm_w ad cI cL cZ fi fl ai (va_up al 18 (rc_far (al 18) q))) H ∧ va_S A s.heap H locs ∧ lv_has ls 11 [(0, .ref (ad 0)), (1, .int (nI sn)), (2, .int (ac_la j)), (3, .long z), (5, .long (((al 19) sn) - z)), (7, .int (nI q))]) ?_ 0 (10 * 2 ^ na - 0) H locs ls ⟨rfl, (by omega), hP, hS, lv_sub hl [2, 3, 4, 5, 1, 0] rfl⟩
  rintro k n9 H locs ls ⟨hn_13, hk, hP, hS, hl⟩ ih_13
  have hD : va_D A (rm_w ad cI cL cZ fi fl ai (va_up al 18 (rc_far (al 18) k))) := am_D hD rfl
  refine lv_iload hx hb dX5_bestFrom_13 (lv_at hl 5 rfl) ?_
  refine lv_bipush (v := 10) hx hb dX5_bestFrom_15 (by decide) ?_
  refine lv_aload_n hx hb dX5_bestFrom_17 rfl (lv_at hl 0 rfl) ?_
  refine va_get (D := D) (ci := 5) (v := .int (fi 0)) (C := RX5) (T := TX5) (N := 31) hx hb hts hin_X5 hown hK hP 0 rfl rfl 0 (by decide) hf_86 (fun _ h9 => h9) rfl dX5_bestFrom_18 ?_
  refine lv_ishl hx hb dX5_bestFrom_21 ?_
  refine am_topi (am_shlt' hna hnl) ?_
  refine lv_icmp_ge (tgt := 41) hx hb dX5_bestFrom_22 (by decide) (fun c_22 => ?_) (fun c_22 => ?_)
  · skip
    have c_22 : (nI (10 * 2 ^ na)) ≤ (nI k) := c_22
    have hkq : k = 10 * 2 ^ na := by have := (am_ge (rfl : nI (10 * 2 ^ na) = nI (10 * 2 ^ na)) (by omega) (by omega)).mp c_22; omega
    subst hkq
    refine lv_iconst (v := 0) hx hb dX5_bestFrom_41 (by decide) ?_
    refine lv_istore (lv' := [(7, .int 0), (0, .ref (ad 0)), (1, .int (nI sn)), (2, .int (ac_la j)), (3, .long z), (5, .long (((al 19) sn) - z))]) hx hb dX5_bestFrom_42 hl (by decide) rfl (fun ls hl => ?_)
    refine am_loop (σ := Nat) (fun q n9 H locs ls => n9 = na - q ∧ q ≤ na ∧ va_P D vwCl (rm_w ad cI cL cZ fi fl ai (va_up al 18 (rc_b2 (ai 17) (rc_step (ai 2) (ai 3) (al 4) (al 7) (al 8)) j sn z (rc_far (al 18) (10 * 2 ^ na)) q))) H ∧ va_S A s.heap H locs ∧ lv_has ls 11 [(0, .ref (ad 0)), (1, .int (nI sn)), (2, .int (ac_la j)), (3, .long z), (5, .long (((al 19) sn) - z)), (7, .int (nI q))]) ?_ 0 (na - 0) H locs ls ⟨rfl, (by omega), hP, hS, lv_sub hl [1, 2, 3, 4, 5, 0] rfl⟩
    rintro a n9 H locs ls ⟨hn_44, hka, hP, hS, hl⟩ ih_44
    have hD : va_D A (rm_w ad cI cL cZ fi fl ai (va_up al 18 (rc_b2 (ai 17) (rc_step (ai 2) (ai 3) (al 4) (al 7) (al 8)) j sn z (rc_far (al 18) (10 * 2 ^ na)) a))) := am_D hD rfl
    refine lv_iload hx hb dX5_bestFrom_44 (lv_at hl 5 rfl) ?_
    refine lv_aload_n hx hb dX5_bestFrom_46 rfl (lv_at hl 0 rfl) ?_
    refine va_get (D := D) (ci := 5) (v := .int (fi 0)) (C := RX5) (T := TX5) (N := 31) hx hb hts hin_X5 hown hK hP 0 rfl rfl 0 (by decide) hf_86 (fun _ h9 => h9) rfl dX5_bestFrom_47 ?_
    refine lv_icmp_ge (tgt := 95) hx hb dX5_bestFrom_50 (by decide) (fun c_50 => ?_) (fun c_50 => ?_)
    · skip
      have c_50 : (fi 0) ≤ (nI a) := c_50
      have hke_50 : na ≤ a := (am_ge hna (by omega) (by omega)).mp c_50
      have hkq_50 : na = a := by omega
      subst hkq_50
      refine lv_iload_n hx hb dX5_bestFrom_95 rfl (lv_at hl 1 rfl) ?_
      refine lv_iconst (v := 1) hx hb dX5_bestFrom_96 (by decide) ?_
      refine lv_iadd hx hb dX5_bestFrom_97 ?_
      refine am_topi (nI_1 sn) ?_
      refine lv_istore (lv' := [(7, .int (nI (sn + 1))), (0, .ref (ad 0)), (1, .int (nI sn)), (2, .int (ac_la j)), (3, .long z), (5, .long (((al 19) sn) - z))]) hx hb dX5_bestFrom_98 hl (by decide) rfl (fun ls hl => ?_)
      refine am_loop (σ := Nat) (fun q n9 H locs ls => n9 = 2 ^ na - (sn + 1) - q ∧ q ≤ 2 ^ na - (sn + 1) ∧ va_P D vwCl (rm_w ad cI cL cZ fi fl ai (va_up al 18 ((rc_b3 (ai 17) (rc_step (ai 2) (ai 3) (al 4) (al 7) (al 8)) (al 19) na sn ((al 19) sn - z, rc_b2 (ai 17) (rc_step (ai 2) (ai 3) (al 4) (al 7) (al 8)) j sn z (rc_far (al 18) (10 * 2 ^ na)) na) q).2))) H ∧ va_S A s.heap H locs ∧ lv_has ls 11 [(0, .ref (ad 0)), (1, .int (nI sn)), (2, .int (ac_la j)), (3, .long z), (5, .long ((rc_b3 (ai 17) (rc_step (ai 2) (ai 3) (al 4) (al 7) (al 8)) (al 19) na sn ((al 19) sn - z, rc_b2 (ai 17) (rc_step (ai 2) (ai 3) (al 4) (al 7) (al 8)) j sn z (rc_far (al 18) (10 * 2 ^ na)) na) q).1)), (7, .int (nI (sn + 1 + q)))]) ?_ 0 (2 ^ na - (sn + 1) - 0) H locs ls ⟨rfl, (by omega), hP, hS, lv_sub hl [1, 2, 3, 4, 5, 0] rfl⟩
      rintro t n9 H locs ls ⟨hn_100, ht9, hP, hS, hl⟩ ih_100
      have hD : va_D A (rm_w ad cI cL cZ fi fl ai (va_up al 18 ((rc_b3 (ai 17) (rc_step (ai 2) (ai 3) (al 4) (al 7) (al 8)) (al 19) na sn ((al 19) sn - z, rc_b2 (ai 17) (rc_step (ai 2) (ai 3) (al 4) (al 7) (al 8)) j sn z (rc_far (al 18) (10 * 2 ^ na)) na) t).2))) := am_D hD rfl
      refine lv_iload hx hb dX5_bestFrom_100 (lv_at hl 5 rfl) ?_
      refine lv_iconst (v := 1) hx hb dX5_bestFrom_102 (by decide) ?_
      refine lv_aload_n hx hb dX5_bestFrom_103 rfl (lv_at hl 0 rfl) ?_
      refine va_get (D := D) (ci := 5) (v := .int (fi 0)) (C := RX5) (T := TX5) (N := 31) hx hb hts hin_X5 hown hK hP 0 rfl rfl 0 (by decide) hf_86 (fun _ h9 => h9) rfl dX5_bestFrom_104 ?_
      refine lv_ishl hx hb dX5_bestFrom_107 ?_
      refine am_topi (am_shlc hna hnl) ?_
      refine lv_icmp_ge (tgt := 202) hx hb dX5_bestFrom_108 (by decide) (fun c_108 => ?_) (fun c_108 => ?_)
      · skip
        have c_108 : (nI (2 ^ na)) ≤ (nI (sn + 1 + t)) := c_108
        have hkq : t = 2 ^ na - (sn + 1) := by have := (am_ge (rfl : nI (2 ^ na) = nI (2 ^ na)) (by omega) (by omega)).mp c_108; omega
        subst hkq
        refine lv_lload hx hb dX5_bestFrom_202 (lv_at hl 4 rfl) ?_
        exact am_lretM hx hb hr hlocks hP hS rfl dX5_bestFrom_204
      · skip
        have c_108 : ¬ ((nI (2 ^ na)) ≤ (nI (sn + 1 + t))) := c_108
        have htl : sn + 1 + t < 2 ^ na := Nat.lt_of_not_le (fun z => c_108 ((am_ge (rfl : nI (2 ^ na) = nI (2 ^ na)) (by omega) (by omega)).mpr z))
        refine lv_iconst (v := 0) hx hb dX5_bestFrom_111 (by decide) ?_
        refine lv_istore (lv' := [(8, .int 0), (0, .ref (ad 0)), (1, .int (nI sn)), (2, .int (ac_la j)), (3, .long z), (5, .long ((rc_b3 (ai 17) (rc_step (ai 2) (ai 3) (al 4) (al 7) (al 8)) (al 19) na sn ((al 19) sn - z, rc_b2 (ai 17) (rc_step (ai 2) (ai 3) (al 4) (al 7) (al 8)) j sn z (rc_far (al 18) (10 * 2 ^ na)) na) t).1)), (7, .int (nI (sn + 1 + t)))]) hx hb dX5_bestFrom_112 hl (by decide) rfl (fun ls hl => ?_)
        refine am_loop (σ := Nat) (fun q n9 H locs ls => n9 = na - q ∧ q ≤ na ∧ va_P D vwCl (rm_w ad cI cL cZ fi fl ai (va_up al 18 ((rc_b3i (ai 17) (rc_step (ai 2) (ai 3) (al 4) (al 7) (al 8)) (al 19) na (sn + 1 + t) (rc_b3 (ai 17) (rc_step (ai 2) (ai 3) (al 4) (al 7) (al 8)) (al 19) na sn ((al 19) sn - z, rc_b2 (ai 17) (rc_step (ai 2) (ai 3) (al 4) (al 7) (al 8)) j sn z (rc_far (al 18) (10 * 2 ^ na)) na) t) q).2))) H ∧ va_S A s.heap H locs ∧ lv_has ls 11 [(0, .ref (ad 0)), (1, .int (nI sn)), (2, .int (ac_la j)), (3, .long z), (5, .long ((rc_b3i (ai 17) (rc_step (ai 2) (ai 3) (al 4) (al 7) (al 8)) (al 19) na (sn + 1 + t) (rc_b3 (ai 17) (rc_step (ai 2) (ai 3) (al 4) (al 7) (al 8)) (al 19) na sn ((al 19) sn - z, rc_b2 (ai 17) (rc_step (ai 2) (ai 3) (al 4) (al 7) (al 8)) j sn z (rc_far (al 18) (10 * 2 ^ na)) na) t) q).1)), (7, .int (nI (sn + 1 + t))), (8, .int (nI q))]) ?_ 0 (na - 0) H locs ls ⟨rfl, (by omega), hP, hS, lv_sub hl [1, 2, 3, 4, 5, 6, 0] rfl⟩
        rintro e9 n9 H locs ls ⟨hn_114, hke, hP, hS, hl⟩ ih_114
        have hD : va_D A (rm_w ad cI cL cZ fi fl ai (va_up al 18 ((rc_b3i (ai 17) (rc_step (ai 2) (ai 3) (al 4) (al 7) (al 8)) (al 19) na (sn + 1 + t) (rc_b3 (ai 17) (rc_step (ai 2) (ai 3) (al 4) (al 7) (al 8)) (al 19) na sn ((al 19) sn - z, rc_b2 (ai 17) (rc_step (ai 2) (ai 3) (al 4) (al 7) (al 8)) j sn z (rc_far (al 18) (10 * 2 ^ na)) na) t) e9).2))) := am_D hD rfl
        refine lv_iload hx hb dX5_bestFrom_114 (lv_at hl 6 rfl) ?_
        refine lv_aload_n hx hb dX5_bestFrom_116 rfl (lv_at hl 0 rfl) ?_
        refine va_get (D := D) (ci := 5) (v := .int (fi 0)) (C := RX5) (T := TX5) (N := 31) hx hb hts hin_X5 hown hK hP 0 rfl rfl 0 (by decide) hf_86 (fun _ h9 => h9) rfl dX5_bestFrom_117 ?_
        refine lv_icmp_ge (tgt := 196) hx hb dX5_bestFrom_120 (by decide) (fun c_120 => ?_) (fun c_120 => ?_)
        · skip
          have c_120 : (fi 0) ≤ (nI e9) := c_120
          have hke_120 : na ≤ e9 := (am_ge hna (by omega) (by omega)).mp c_120
          have hkq_120 : na = e9 := by omega
          subst hkq_120
          refine lv_iinc (v := nI ((sn + 1 + t) + 1)) (lv' := [(7, .int (nI ((sn + 1 + t) + 1))), (0, .ref (ad 0)), (1, .int (nI sn)), (2, .int (ac_la j)), (3, .long z), (5, .long ((rc_b3i (ai 17) (rc_step (ai 2) (ai 3) (al 4) (al 7) (al 8)) (al 19) na (sn + 1 + t) (rc_b3 (ai 17) (rc_step (ai 2) (ai 3) (al 4) (al 7) (al 8)) (al 19) na sn ((al 19) sn - z, rc_b2 (ai 17) (rc_step (ai 2) (ai 3) (al 4) (al 7) (al 8)) j sn z (rc_far (al 18) (10 * 2 ^ na)) na) t) na).1)), (8, .int (nI na))]) hx hb dX5_bestFrom_196 hl (k := 5) rfl (nI_1 (sn + 1 + t)) (by decide) rfl (fun ls hl => ?_)
          refine lv_goto (tgt := 100) hx hb dX5_bestFrom_199 (by decide) ?_
          have e_100_0 : (rc_b3 (ai 17) (rc_step (ai 2) (ai 3) (al 4) (al 7) (al 8)) (al 19) na sn ((al 19) sn - z, rc_b2 (ai 17) (rc_step (ai 2) (ai 3) (al 4) (al 7) (al 8)) j sn z (rc_far (al 18) (10 * 2 ^ na)) na) (t + 1)).1 = (rc_b3i (ai 17) (rc_step (ai 2) (ai 3) (al 4) (al 7) (al 8)) (al 19) na (sn + 1 + t) (rc_b3 (ai 17) (rc_step (ai 2) (ai 3) (al 4) (al 7) (al 8)) (al 19) na sn ((al 19) sn - z, rc_b2 (ai 17) (rc_step (ai 2) (ai 3) (al 4) (al 7) (al 8)) j sn z (rc_far (al 18) (10 * 2 ^ na)) na) t) na).1 := by first | rfl | (simp only [rc_b3, c_120, if_true, if_false, eq_self, not_true_eq_false, not_false_eq_true, ite_true, ite_false, ↓reduceIte]; done) | (simp [rc_b3, c_120]; done)
          have e_100_1 : nI (sn + 1 + (t + 1)) = nI ((sn + 1 + t) + 1) := by first | rfl | (simp only [rc_b3, c_120, if_true, if_false, eq_self, not_true_eq_false, not_false_eq_true, ite_true, ite_false, ↓reduceIte]; done) | (simp [rc_b3, c_120]; done)
          have e_100_2 : ((rc_b3 (ai 17) (rc_step (ai 2) (ai 3) (al 4) (al 7) (al 8)) (al 19) na sn ((al 19) sn - z, rc_b2 (ai 17) (rc_step (ai 2) (ai 3) (al 4) (al 7) (al 8)) j sn z (rc_far (al 18) (10 * 2 ^ na)) na) (t + 1)).2) = ((rc_b3i (ai 17) (rc_step (ai 2) (ai 3) (al 4) (al 7) (al 8)) (al 19) na (sn + 1 + t) (rc_b3 (ai 17) (rc_step (ai 2) (ai 3) (al 4) (al 7) (al 8)) (al 19) na sn ((al 19) sn - z, rc_b2 (ai 17) (rc_step (ai 2) (ai 3) (al 4) (al 7) (al 8)) j sn z (rc_far (al 18) (10 * 2 ^ na)) na) t) na).2) := by first | rfl | (simp only [rc_b3, c_120, if_true, if_false, eq_self, not_true_eq_false, not_false_eq_true, ite_true, ite_false, ↓reduceIte]; done) | (simp [rc_b3, c_120]; done)
          refine ih_100 (t + 1) (2 ^ na - (sn + 1) - (t + 1)) H locs ls (by omega) ⟨rfl, (by omega), ?_, hS, ?_⟩
          · (try dsimp only); (try rw [e_100_0]); (try rw [e_100_1]); (try rw [e_100_2]); exact hP
          · (try dsimp only); (try rw [e_100_0]); (try rw [e_100_1]); (try rw [e_100_2]); exact lv_sub hl [1, 2, 3, 4, 5, 0] rfl
        · skip
          have c_120 : ¬ ((fi 0) ≤ (nI e9)) := c_120
          have hkl_120 : e9 < na := Nat.lt_of_not_le (fun z => c_120 ((am_ge hna (by omega) (by omega)).mpr z))
          refine lv_aload_n hx hb dX5_bestFrom_123 rfl (lv_at hl 0 rfl) ?_
          refine va_get (D := D) (ci := 5) (v := .ref (ad 18)) (C := RX5) (T := TX5) (N := 31) hx hb hts hin_X5 hown hK hP 0 rfl rfl 27 (by decide) hf_70 (fun _ h9 => h9) rfl dX5_bestFrom_124 ?_
          refine lv_bipush (v := 10) hx hb dX5_bestFrom_127 (by decide) ?_
          refine lv_iload hx hb dX5_bestFrom_129 (lv_at hl 5 rfl) ?_
          refine lv_imul hx hb dX5_bestFrom_131 ?_
          refine lv_iload hx hb dX5_bestFrom_132 (lv_at hl 6 rfl) ?_
          refine lv_iadd hx hb dX5_bestFrom_134 ?_
          refine am_lald hx hb hK hP 18 1 rfl rfl (10 * (sn + 1 + t) + e9) (am_x10 (sn + 1 + t) e9) (by omega) (by decide) dX5_bestFrom_135 ?_
          refine lv_lstore (lv' := [(9, .long (((rc_b3i (ai 17) (rc_step (ai 2) (ai 3) (al 4) (al 7) (al 8)) (al 19) na (sn + 1 + t) (rc_b3 (ai 17) (rc_step (ai 2) (ai 3) (al 4) (al 7) (al 8)) (al 19) na sn ((al 19) sn - z, rc_b2 (ai 17) (rc_step (ai 2) (ai 3) (al 4) (al 7) (al 8)) j sn z (rc_far (al 18) (10 * 2 ^ na)) na) t) e9).2) (10 * (sn + 1 + t) + e9))), (0, .ref (ad 0)), (1, .int (nI sn)), (2, .int (ac_la j)), (3, .long z), (5, .long ((rc_b3i (ai 17) (rc_step (ai 2) (ai 3) (al 4) (al 7) (al 8)) (al 19) na (sn + 1 + t) (rc_b3 (ai 17) (rc_step (ai 2) (ai 3) (al 4) (al 7) (al 8)) (al 19) na sn ((al 19) sn - z, rc_b2 (ai 17) (rc_step (ai 2) (ai 3) (al 4) (al 7) (al 8)) j sn z (rc_far (al 18) (10 * 2 ^ na)) na) t) e9).1)), (7, .int (nI (sn + 1 + t))), (8, .int (nI e9))]) hx hb dX5_bestFrom_136 hl (by decide) rfl (fun ls hl => ?_)
          refine lv_lload hx hb dX5_bestFrom_138 (lv_at hl 0 rfl) ?_
          refine lv_ldc2 (v := 1000000000000000) hx hb hown (ht 578 _ rfl) dX5_bestFrom_140 ?_
          refine W.lcmp hx hb dX5_bestFrom_143 ?_
          refine lv_if_ge (tgt := 190) hx hb dX5_bestFrom_144 (by decide) (fun c_144 => ?_) (fun c_144 => ?_)
          · skip
            have c_144 : 1000000000000000 ≤ (((rc_b3i (ai 17) (rc_step (ai 2) (ai 3) (al 4) (al 7) (al 8)) (al 19) na (sn + 1 + t) (rc_b3 (ai 17) (rc_step (ai 2) (ai 3) (al 4) (al 7) (al 8)) (al 19) na sn ((al 19) sn - z, rc_b2 (ai 17) (rc_step (ai 2) (ai 3) (al 4) (al 7) (al 8)) j sn z (rc_far (al 18) (10 * 2 ^ na)) na) t) e9).2) (10 * (sn + 1 + t) + e9)) := (lg_cmp_ge _ _).mp c_144
            refine lv_iinc (v := nI (e9 + 1)) (lv' := [(8, .int (nI (e9 + 1))), (9, .long (((rc_b3i (ai 17) (rc_step (ai 2) (ai 3) (al 4) (al 7) (al 8)) (al 19) na (sn + 1 + t) (rc_b3 (ai 17) (rc_step (ai 2) (ai 3) (al 4) (al 7) (al 8)) (al 19) na sn ((al 19) sn - z, rc_b2 (ai 17) (rc_step (ai 2) (ai 3) (al 4) (al 7) (al 8)) j sn z (rc_far (al 18) (10 * 2 ^ na)) na) t) e9).2) (10 * (sn + 1 + t) + e9))), (0, .ref (ad 0)), (1, .int (nI sn)), (2, .int (ac_la j)), (3, .long z), (5, .long ((rc_b3i (ai 17) (rc_step (ai 2) (ai 3) (al 4) (al 7) (al 8)) (al 19) na (sn + 1 + t) (rc_b3 (ai 17) (rc_step (ai 2) (ai 3) (al 4) (al 7) (al 8)) (al 19) na sn ((al 19) sn - z, rc_b2 (ai 17) (rc_step (ai 2) (ai 3) (al 4) (al 7) (al 8)) j sn z (rc_far (al 18) (10 * 2 ^ na)) na) t) e9).1)), (7, .int (nI (sn + 1 + t)))]) hx hb dX5_bestFrom_190 hl (k := 7) rfl (nI_1 e9) (by decide) rfl (fun ls hl => ?_)
            refine lv_goto (tgt := 114) hx hb dX5_bestFrom_193 (by decide) ?_
            have e_114_0 : (rc_b3i (ai 17) (rc_step (ai 2) (ai 3) (al 4) (al 7) (al 8)) (al 19) na (sn + 1 + t) (rc_b3 (ai 17) (rc_step (ai 2) (ai 3) (al 4) (al 7) (al 8)) (al 19) na sn ((al 19) sn - z, rc_b2 (ai 17) (rc_step (ai 2) (ai 3) (al 4) (al 7) (al 8)) j sn z (rc_far (al 18) (10 * 2 ^ na)) na) t) (e9 + 1)).1 = (rc_b3i (ai 17) (rc_step (ai 2) (ai 3) (al 4) (al 7) (al 8)) (al 19) na (sn + 1 + t) (rc_b3 (ai 17) (rc_step (ai 2) (ai 3) (al 4) (al 7) (al 8)) (al 19) na sn ((al 19) sn - z, rc_b2 (ai 17) (rc_step (ai 2) (ai 3) (al 4) (al 7) (al 8)) j sn z (rc_far (al 18) (10 * 2 ^ na)) na) t) e9).1 := by first | rfl | (simp only [rc_b3i, rc_b3e, c_120, c_144, if_true, if_false, eq_self, not_true_eq_false, not_false_eq_true, ite_true, ite_false, ↓reduceIte]; done) | (simp [rc_b3i, rc_b3e, c_120, c_144]; done)
            have e_114_1 : ((rc_b3i (ai 17) (rc_step (ai 2) (ai 3) (al 4) (al 7) (al 8)) (al 19) na (sn + 1 + t) (rc_b3 (ai 17) (rc_step (ai 2) (ai 3) (al 4) (al 7) (al 8)) (al 19) na sn ((al 19) sn - z, rc_b2 (ai 17) (rc_step (ai 2) (ai 3) (al 4) (al 7) (al 8)) j sn z (rc_far (al 18) (10 * 2 ^ na)) na) t) (e9 + 1)).2) = ((rc_b3i (ai 17) (rc_step (ai 2) (ai 3) (al 4) (al 7) (al 8)) (al 19) na (sn + 1 + t) (rc_b3 (ai 17) (rc_step (ai 2) (ai 3) (al 4) (al 7) (al 8)) (al 19) na sn ((al 19) sn - z, rc_b2 (ai 17) (rc_step (ai 2) (ai 3) (al 4) (al 7) (al 8)) j sn z (rc_far (al 18) (10 * 2 ^ na)) na) t) e9).2) := by first | rfl | (simp only [rc_b3i, rc_b3e, c_120, c_144, if_true, if_false, eq_self, not_true_eq_false, not_false_eq_true, ite_true, ite_false, ↓reduceIte]; done) | (simp [rc_b3i, rc_b3e, c_120, c_144]; done)
            refine ih_114 (e9 + 1) (na - (e9 + 1)) H locs ls (by omega) ⟨rfl, (by omega), ?_, hS, ?_⟩
            · (try dsimp only); (try rw [e_114_0]); (try rw [e_114_1]); exact hP
            · (try dsimp only); (try rw [e_114_0]); (try rw [e_114_1]); exact lv_sub hl [2, 3, 4, 5, 6, 7, 0] rfl
          · skip
            have c_144 : ¬ (1000000000000000 ≤ (((rc_b3i (ai 17) (rc_step (ai 2) (ai 3) (al 4) (al 7) (al 8)) (al 19) na (sn + 1 + t) (rc_b3 (ai 17) (rc_step (ai 2) (ai 3) (al 4) (al 7) (al 8)) (al 19) na sn ((al 19) sn - z, rc_b2 (ai 17) (rc_step (ai 2) (ai 3) (al 4) (al 7) (al 8)) j sn z (rc_far (al 18) (10 * 2 ^ na)) na) t) e9).2) (10 * (sn + 1 + t) + e9))) := (fun z => c_144 ((lg_cmp_ge _ _).mpr z))
            refine lv_aload_n hx hb dX5_bestFrom_147 rfl (lv_at hl 1 rfl) ?_
            refine va_get (D := D) (ci := 5) (v := .ref (ad 19)) (C := RX5) (T := TX5) (N := 31) hx hb hts hin_X5 hown hK hP 0 rfl rfl 28 (by decide) hf_73 (fun _ h9 => h9) rfl dX5_bestFrom_148 ?_
            refine lv_iload hx hb dX5_bestFrom_151 (lv_at hl 6 rfl) ?_
            refine am_lald hx hb hK hP 19 1 rfl rfl (sn + 1 + t) rfl (by omega) (by decide) dX5_bestFrom_153 ?_
            refine lv_lload hx hb dX5_bestFrom_154 (lv_at hl 0 rfl) ?_
            refine lv_lsub hx hb dX5_bestFrom_156 ?_
            refine lv_lload hx hb dX5_bestFrom_157 (lv_at hl 5 rfl) ?_
            refine W.lcmp hx hb dX5_bestFrom_159 ?_
            refine lv_if_le (tgt := 176) hx hb dX5_bestFrom_160 (by decide) (fun c_160 => ?_) (fun c_160 => ?_)
            · skip
              have c_160 : (((al 19) (sn + 1 + t)) - (((rc_b3i (ai 17) (rc_step (ai 2) (ai 3) (al 4) (al 7) (al 8)) (al 19) na (sn + 1 + t) (rc_b3 (ai 17) (rc_step (ai 2) (ai 3) (al 4) (al 7) (al 8)) (al 19) na sn ((al 19) sn - z, rc_b2 (ai 17) (rc_step (ai 2) (ai 3) (al 4) (al 7) (al 8)) j sn z (rc_far (al 18) (10 * 2 ^ na)) na) t) e9).2) (10 * (sn + 1 + t) + e9))) ≤ ((rc_b3i (ai 17) (rc_step (ai 2) (ai 3) (al 4) (al 7) (al 8)) (al 19) na (sn + 1 + t) (rc_b3 (ai 17) (rc_step (ai 2) (ai 3) (al 4) (al 7) (al 8)) (al 19) na sn ((al 19) sn - z, rc_b2 (ai 17) (rc_step (ai 2) (ai 3) (al 4) (al 7) (al 8)) j sn z (rc_far (al 18) (10 * 2 ^ na)) na) t) e9).1) := (lg_cmp_le _ _).mp c_160
              refine lv_lload hx hb dX5_bestFrom_176 (lv_at hl 5 rfl) ?_
              refine lv_lstore (lv' := [(5, .long ((rc_b3i (ai 17) (rc_step (ai 2) (ai 3) (al 4) (al 7) (al 8)) (al 19) na (sn + 1 + t) (rc_b3 (ai 17) (rc_step (ai 2) (ai 3) (al 4) (al 7) (al 8)) (al 19) na sn ((al 19) sn - z, rc_b2 (ai 17) (rc_step (ai 2) (ai 3) (al 4) (al 7) (al 8)) j sn z (rc_far (al 18) (10 * 2 ^ na)) na) t) e9).1)), (9, .long (((rc_b3i (ai 17) (rc_step (ai 2) (ai 3) (al 4) (al 7) (al 8)) (al 19) na (sn + 1 + t) (rc_b3 (ai 17) (rc_step (ai 2) (ai 3) (al 4) (al 7) (al 8)) (al 19) na sn ((al 19) sn - z, rc_b2 (ai 17) (rc_step (ai 2) (ai 3) (al 4) (al 7) (al 8)) j sn z (rc_far (al 18) (10 * 2 ^ na)) na) t) e9).2) (10 * (sn + 1 + t) + e9))), (0, .ref (ad 0)), (1, .int (nI sn)), (2, .int (ac_la j)), (3, .long z), (7, .int (nI (sn + 1 + t))), (8, .int (nI e9))]) hx hb dX5_bestFrom_178 hl (by decide) rfl (fun ls hl => ?_)
              refine lv_aload_n hx hb dX5_bestFrom_180 rfl (lv_at hl 2 rfl) ?_
              refine lv_iload hx hb dX5_bestFrom_181 (lv_at hl 6 rfl) ?_
              refine lv_iload hx hb dX5_bestFrom_183 (lv_at hl 7 rfl) ?_
              refine lv_lload hx hb dX5_bestFrom_185 (lv_at hl 1 rfl) ?_
              refine am_callMv (va_runV (As := [.int (nI (sn + 1 + t)), .int (nI e9), .long (((rc_b3i (ai 17) (rc_step (ai 2) (ai 3) (al 4) (al 7) (al 8)) (al 19) na (sn + 1 + t) (rc_b3 (ai 17) (rc_step (ai 2) (ai 3) (al 4) (al 7) (al 8)) (al 19) na sn ((al 19) sn - z, rc_b2 (ai 17) (rc_step (ai 2) (ai 3) (al 4) (al 7) (al 8)) j sn z (rc_far (al 18) (10 * 2 ^ na)) na) t) e9).2) (10 * (sn + 1 + t) + e9))]) (rest := []) ⟨hx, hb, hml, hown, hts⟩ (c_X5_spread l D ad cI cL cZ fi fl ai (va_up al 18 ((rc_b3i (ai 17) (rc_step (ai 2) (ai 3) (al 4) (al 7) (al 8)) (al 19) na (sn + 1 + t) (rc_b3 (ai 17) (rc_step (ai 2) (ai 3) (al 4) (al 7) (al 8)) (al 19) na sn ((al 19) sn - z, rc_b2 (ai 17) (rc_step (ai 2) (ai 3) (al 4) (al 7) (al 8)) j sn z (rc_far (al 18) (10 * 2 ^ na)) na) t) e9).2)) A (sn + 1 + t) e9 (((rc_b3i (ai 17) (rc_step (ai 2) (ai 3) (al 4) (al 7) (al 8)) (al 19) na (sn + 1 + t) (rc_b3 (ai 17) (rc_step (ai 2) (ai 3) (al 4) (al 7) (al 8)) (al 19) na sn ((al 19) sn - z, rc_b2 (ai 17) (rc_step (ai 2) (ai 3) (al 4) (al 7) (al 8)) j sn z (rc_far (al 18) (10 * 2 ^ na)) na) t) e9).2) (10 * (sn + 1 + t) + e9)) na hna hnl hto hsi (by omega) (by omega)) (cwV 3 hts (am_gV (am_in 585 rfl) (am_in 586 rfl) (am_in 22 rfl) (am_in 35 rfl) (am_in 587 rfl)) rfl rfl rfl (by decide +kernel) ⟨Nat.le_of_ble_eq_true rfl, Nat.le_of_ble_eq_true rfl⟩) (am_preVM 5 0 rfl rfl rfl hP hK hN hD) rfl rfl hl.1 rfl (lv_room (Nat.le_of_ble_eq_true rfl)) dX5_bestFrom_187 ⟨Nat.zero_le _, Nat.zero_le _⟩) hS (fun H locs hP hS => ?_)
              have hP : va_P D vwCl (rm_w ad cI cL cZ fi fl ai (va_up al 18 (rc_spr (ai 17) (rc_step (ai 2) (ai 3) (al 4) (al 7) (al 8)) (sn + 1 + t) e9 (((rc_b3i (ai 17) (rc_step (ai 2) (ai 3) (al 4) (al 7) (al 8)) (al 19) na (sn + 1 + t) (rc_b3 (ai 17) (rc_step (ai 2) (ai 3) (al 4) (al 7) (al 8)) (al 19) na sn ((al 19) sn - z, rc_b2 (ai 17) (rc_step (ai 2) (ai 3) (al 4) (al 7) (al 8)) j sn z (rc_far (al 18) (10 * 2 ^ na)) na) t) e9).2) (10 * (sn + 1 + t) + e9)) ((rc_b3i (ai 17) (rc_step (ai 2) (ai 3) (al 4) (al 7) (al 8)) (al 19) na (sn + 1 + t) (rc_b3 (ai 17) (rc_step (ai 2) (ai 3) (al 4) (al 7) (al 8)) (al 19) na sn ((al 19) sn - z, rc_b2 (ai 17) (rc_step (ai 2) (ai 3) (al 4) (al 7) (al 8)) j sn z (rc_far (al 18) (10 * 2 ^ na)) na) t) e9).2) na))) H := hP
              have hD : va_D A (rm_w ad cI cL cZ fi fl ai (va_up al 18 (rc_spr (ai 17) (rc_step (ai 2) (ai 3) (al 4) (al 7) (al 8)) (sn + 1 + t) e9 (((rc_b3i (ai 17) (rc_step (ai 2) (ai 3) (al 4) (al 7) (al 8)) (al 19) na (sn + 1 + t) (rc_b3 (ai 17) (rc_step (ai 2) (ai 3) (al 4) (al 7) (al 8)) (al 19) na sn ((al 19) sn - z, rc_b2 (ai 17) (rc_step (ai 2) (ai 3) (al 4) (al 7) (al 8)) j sn z (rc_far (al 18) (10 * 2 ^ na)) na) t) e9).2) (10 * (sn + 1 + t) + e9)) ((rc_b3i (ai 17) (rc_step (ai 2) (ai 3) (al 4) (al 7) (al 8)) (al 19) na (sn + 1 + t) (rc_b3 (ai 17) (rc_step (ai 2) (ai 3) (al 4) (al 7) (al 8)) (al 19) na sn ((al 19) sn - z, rc_b2 (ai 17) (rc_step (ai 2) (ai 3) (al 4) (al 7) (al 8)) j sn z (rc_far (al 18) (10 * 2 ^ na)) na) t) e9).2) na))) := am_D hD rfl
              refine lv_iinc (v := nI (e9 + 1)) (lv' := [(8, .int (nI (e9 + 1))), (5, .long ((rc_b3i (ai 17) (rc_step (ai 2) (ai 3) (al 4) (al 7) (al 8)) (al 19) na (sn + 1 + t) (rc_b3 (ai 17) (rc_step (ai 2) (ai 3) (al 4) (al 7) (al 8)) (al 19) na sn ((al 19) sn - z, rc_b2 (ai 17) (rc_step (ai 2) (ai 3) (al 4) (al 7) (al 8)) j sn z (rc_far (al 18) (10 * 2 ^ na)) na) t) e9).1)), (9, .long (((rc_b3i (ai 17) (rc_step (ai 2) (ai 3) (al 4) (al 7) (al 8)) (al 19) na (sn + 1 + t) (rc_b3 (ai 17) (rc_step (ai 2) (ai 3) (al 4) (al 7) (al 8)) (al 19) na sn ((al 19) sn - z, rc_b2 (ai 17) (rc_step (ai 2) (ai 3) (al 4) (al 7) (al 8)) j sn z (rc_far (al 18) (10 * 2 ^ na)) na) t) e9).2) (10 * (sn + 1 + t) + e9))), (0, .ref (ad 0)), (1, .int (nI sn)), (2, .int (ac_la j)), (3, .long z), (7, .int (nI (sn + 1 + t)))]) hx hb dX5_bestFrom_190 hl (k := 7) rfl (nI_1 e9) (by decide) rfl (fun ls hl => ?_)
              refine lv_goto (tgt := 114) hx hb dX5_bestFrom_193 (by decide) ?_
              have e_114_0 : (rc_b3i (ai 17) (rc_step (ai 2) (ai 3) (al 4) (al 7) (al 8)) (al 19) na (sn + 1 + t) (rc_b3 (ai 17) (rc_step (ai 2) (ai 3) (al 4) (al 7) (al 8)) (al 19) na sn ((al 19) sn - z, rc_b2 (ai 17) (rc_step (ai 2) (ai 3) (al 4) (al 7) (al 8)) j sn z (rc_far (al 18) (10 * 2 ^ na)) na) t) (e9 + 1)).1 = (rc_b3i (ai 17) (rc_step (ai 2) (ai 3) (al 4) (al 7) (al 8)) (al 19) na (sn + 1 + t) (rc_b3 (ai 17) (rc_step (ai 2) (ai 3) (al 4) (al 7) (al 8)) (al 19) na sn ((al 19) sn - z, rc_b2 (ai 17) (rc_step (ai 2) (ai 3) (al 4) (al 7) (al 8)) j sn z (rc_far (al 18) (10 * 2 ^ na)) na) t) e9).1 := by first | rfl | (simp only [rc_b3i, rc_b3e, c_120, c_144, c_160, if_true, if_false, eq_self, not_true_eq_false, not_false_eq_true, ite_true, ite_false, ↓reduceIte]; done) | (simp [rc_b3i, rc_b3e, c_120, c_144, c_160]; done)
              have e_114_1 : ((rc_b3i (ai 17) (rc_step (ai 2) (ai 3) (al 4) (al 7) (al 8)) (al 19) na (sn + 1 + t) (rc_b3 (ai 17) (rc_step (ai 2) (ai 3) (al 4) (al 7) (al 8)) (al 19) na sn ((al 19) sn - z, rc_b2 (ai 17) (rc_step (ai 2) (ai 3) (al 4) (al 7) (al 8)) j sn z (rc_far (al 18) (10 * 2 ^ na)) na) t) (e9 + 1)).2) = (rc_spr (ai 17) (rc_step (ai 2) (ai 3) (al 4) (al 7) (al 8)) (sn + 1 + t) e9 (((rc_b3i (ai 17) (rc_step (ai 2) (ai 3) (al 4) (al 7) (al 8)) (al 19) na (sn + 1 + t) (rc_b3 (ai 17) (rc_step (ai 2) (ai 3) (al 4) (al 7) (al 8)) (al 19) na sn ((al 19) sn - z, rc_b2 (ai 17) (rc_step (ai 2) (ai 3) (al 4) (al 7) (al 8)) j sn z (rc_far (al 18) (10 * 2 ^ na)) na) t) e9).2) (10 * (sn + 1 + t) + e9)) ((rc_b3i (ai 17) (rc_step (ai 2) (ai 3) (al 4) (al 7) (al 8)) (al 19) na (sn + 1 + t) (rc_b3 (ai 17) (rc_step (ai 2) (ai 3) (al 4) (al 7) (al 8)) (al 19) na sn ((al 19) sn - z, rc_b2 (ai 17) (rc_step (ai 2) (ai 3) (al 4) (al 7) (al 8)) j sn z (rc_far (al 18) (10 * 2 ^ na)) na) t) e9).2) na) := by first | rfl | (simp only [rc_b3i, rc_b3e, c_120, c_144, c_160, if_true, if_false, eq_self, not_true_eq_false, not_false_eq_true, ite_true, ite_false, ↓reduceIte]; done) | (simp [rc_b3i, rc_b3e, c_120, c_144, c_160]; done)
              refine ih_114 (e9 + 1) (na - (e9 + 1)) H locs ls (by omega) ⟨rfl, (by omega), ?_, hS, ?_⟩
              · (try dsimp only); (try rw [e_114_0]); (try rw [e_114_1]); exact hP
              · (try dsimp only); (try rw [e_114_0]); (try rw [e_114_1]); exact lv_sub hl [3, 4, 5, 6, 1, 7, 0] rfl
            · skip
              have c_160 : ¬ ((((al 19) (sn + 1 + t)) - (((rc_b3i (ai 17) (rc_step (ai 2) (ai 3) (al 4) (al 7) (al 8)) (al 19) na (sn + 1 + t) (rc_b3 (ai 17) (rc_step (ai 2) (ai 3) (al 4) (al 7) (al 8)) (al 19) na sn ((al 19) sn - z, rc_b2 (ai 17) (rc_step (ai 2) (ai 3) (al 4) (al 7) (al 8)) j sn z (rc_far (al 18) (10 * 2 ^ na)) na) t) e9).2) (10 * (sn + 1 + t) + e9))) ≤ ((rc_b3i (ai 17) (rc_step (ai 2) (ai 3) (al 4) (al 7) (al 8)) (al 19) na (sn + 1 + t) (rc_b3 (ai 17) (rc_step (ai 2) (ai 3) (al 4) (al 7) (al 8)) (al 19) na sn ((al 19) sn - z, rc_b2 (ai 17) (rc_step (ai 2) (ai 3) (al 4) (al 7) (al 8)) j sn z (rc_far (al 18) (10 * 2 ^ na)) na) t) e9).1)) := (fun z => c_160 ((lg_cmp_le _ _).mpr z))
              refine lv_aload_n hx hb dX5_bestFrom_163 rfl (lv_at hl 1 rfl) ?_
              refine va_get (D := D) (ci := 5) (v := .ref (ad 19)) (C := RX5) (T := TX5) (N := 31) hx hb hts hin_X5 hown hK hP 0 rfl rfl 28 (by decide) hf_73 (fun _ h9 => h9) rfl dX5_bestFrom_164 ?_
              refine lv_iload hx hb dX5_bestFrom_167 (lv_at hl 6 rfl) ?_
              refine am_lald hx hb hK hP 19 1 rfl rfl (sn + 1 + t) rfl (by omega) (by decide) dX5_bestFrom_169 ?_
              refine lv_lload hx hb dX5_bestFrom_170 (lv_at hl 0 rfl) ?_
              refine lv_lsub hx hb dX5_bestFrom_172 ?_
              refine lv_goto (tgt := 178) hx hb dX5_bestFrom_173 (by decide) ?_
              refine lv_lstore (lv' := [(5, .long (((al 19) (sn + 1 + t)) - (((rc_b3i (ai 17) (rc_step (ai 2) (ai 3) (al 4) (al 7) (al 8)) (al 19) na (sn + 1 + t) (rc_b3 (ai 17) (rc_step (ai 2) (ai 3) (al 4) (al 7) (al 8)) (al 19) na sn ((al 19) sn - z, rc_b2 (ai 17) (rc_step (ai 2) (ai 3) (al 4) (al 7) (al 8)) j sn z (rc_far (al 18) (10 * 2 ^ na)) na) t) e9).2) (10 * (sn + 1 + t) + e9)))), (9, .long (((rc_b3i (ai 17) (rc_step (ai 2) (ai 3) (al 4) (al 7) (al 8)) (al 19) na (sn + 1 + t) (rc_b3 (ai 17) (rc_step (ai 2) (ai 3) (al 4) (al 7) (al 8)) (al 19) na sn ((al 19) sn - z, rc_b2 (ai 17) (rc_step (ai 2) (ai 3) (al 4) (al 7) (al 8)) j sn z (rc_far (al 18) (10 * 2 ^ na)) na) t) e9).2) (10 * (sn + 1 + t) + e9))), (0, .ref (ad 0)), (1, .int (nI sn)), (2, .int (ac_la j)), (3, .long z), (7, .int (nI (sn + 1 + t))), (8, .int (nI e9))]) hx hb dX5_bestFrom_178 hl (by decide) rfl (fun ls hl => ?_)
              refine lv_aload_n hx hb dX5_bestFrom_180 rfl (lv_at hl 2 rfl) ?_
              refine lv_iload hx hb dX5_bestFrom_181 (lv_at hl 6 rfl) ?_
              refine lv_iload hx hb dX5_bestFrom_183 (lv_at hl 7 rfl) ?_
              refine lv_lload hx hb dX5_bestFrom_185 (lv_at hl 1 rfl) ?_
              refine am_callMv (va_runV (As := [.int (nI (sn + 1 + t)), .int (nI e9), .long (((rc_b3i (ai 17) (rc_step (ai 2) (ai 3) (al 4) (al 7) (al 8)) (al 19) na (sn + 1 + t) (rc_b3 (ai 17) (rc_step (ai 2) (ai 3) (al 4) (al 7) (al 8)) (al 19) na sn ((al 19) sn - z, rc_b2 (ai 17) (rc_step (ai 2) (ai 3) (al 4) (al 7) (al 8)) j sn z (rc_far (al 18) (10 * 2 ^ na)) na) t) e9).2) (10 * (sn + 1 + t) + e9))]) (rest := []) ⟨hx, hb, hml, hown, hts⟩ (c_X5_spread l D ad cI cL cZ fi fl ai (va_up al 18 ((rc_b3i (ai 17) (rc_step (ai 2) (ai 3) (al 4) (al 7) (al 8)) (al 19) na (sn + 1 + t) (rc_b3 (ai 17) (rc_step (ai 2) (ai 3) (al 4) (al 7) (al 8)) (al 19) na sn ((al 19) sn - z, rc_b2 (ai 17) (rc_step (ai 2) (ai 3) (al 4) (al 7) (al 8)) j sn z (rc_far (al 18) (10 * 2 ^ na)) na) t) e9).2)) A (sn + 1 + t) e9 (((rc_b3i (ai 17) (rc_step (ai 2) (ai 3) (al 4) (al 7) (al 8)) (al 19) na (sn + 1 + t) (rc_b3 (ai 17) (rc_step (ai 2) (ai 3) (al 4) (al 7) (al 8)) (al 19) na sn ((al 19) sn - z, rc_b2 (ai 17) (rc_step (ai 2) (ai 3) (al 4) (al 7) (al 8)) j sn z (rc_far (al 18) (10 * 2 ^ na)) na) t) e9).2) (10 * (sn + 1 + t) + e9)) na hna hnl hto hsi (by omega) (by omega)) (cwV 3 hts (am_gV (am_in 585 rfl) (am_in 586 rfl) (am_in 22 rfl) (am_in 35 rfl) (am_in 587 rfl)) rfl rfl rfl (by decide +kernel) ⟨Nat.le_of_ble_eq_true rfl, Nat.le_of_ble_eq_true rfl⟩) (am_preVM 5 0 rfl rfl rfl hP hK hN hD) rfl rfl hl.1 rfl (lv_room (Nat.le_of_ble_eq_true rfl)) dX5_bestFrom_187 ⟨Nat.zero_le _, Nat.zero_le _⟩) hS (fun H locs hP hS => ?_)
              have hP : va_P D vwCl (rm_w ad cI cL cZ fi fl ai (va_up al 18 (rc_spr (ai 17) (rc_step (ai 2) (ai 3) (al 4) (al 7) (al 8)) (sn + 1 + t) e9 (((rc_b3i (ai 17) (rc_step (ai 2) (ai 3) (al 4) (al 7) (al 8)) (al 19) na (sn + 1 + t) (rc_b3 (ai 17) (rc_step (ai 2) (ai 3) (al 4) (al 7) (al 8)) (al 19) na sn ((al 19) sn - z, rc_b2 (ai 17) (rc_step (ai 2) (ai 3) (al 4) (al 7) (al 8)) j sn z (rc_far (al 18) (10 * 2 ^ na)) na) t) e9).2) (10 * (sn + 1 + t) + e9)) ((rc_b3i (ai 17) (rc_step (ai 2) (ai 3) (al 4) (al 7) (al 8)) (al 19) na (sn + 1 + t) (rc_b3 (ai 17) (rc_step (ai 2) (ai 3) (al 4) (al 7) (al 8)) (al 19) na sn ((al 19) sn - z, rc_b2 (ai 17) (rc_step (ai 2) (ai 3) (al 4) (al 7) (al 8)) j sn z (rc_far (al 18) (10 * 2 ^ na)) na) t) e9).2) na))) H := hP
              have hD : va_D A (rm_w ad cI cL cZ fi fl ai (va_up al 18 (rc_spr (ai 17) (rc_step (ai 2) (ai 3) (al 4) (al 7) (al 8)) (sn + 1 + t) e9 (((rc_b3i (ai 17) (rc_step (ai 2) (ai 3) (al 4) (al 7) (al 8)) (al 19) na (sn + 1 + t) (rc_b3 (ai 17) (rc_step (ai 2) (ai 3) (al 4) (al 7) (al 8)) (al 19) na sn ((al 19) sn - z, rc_b2 (ai 17) (rc_step (ai 2) (ai 3) (al 4) (al 7) (al 8)) j sn z (rc_far (al 18) (10 * 2 ^ na)) na) t) e9).2) (10 * (sn + 1 + t) + e9)) ((rc_b3i (ai 17) (rc_step (ai 2) (ai 3) (al 4) (al 7) (al 8)) (al 19) na (sn + 1 + t) (rc_b3 (ai 17) (rc_step (ai 2) (ai 3) (al 4) (al 7) (al 8)) (al 19) na sn ((al 19) sn - z, rc_b2 (ai 17) (rc_step (ai 2) (ai 3) (al 4) (al 7) (al 8)) j sn z (rc_far (al 18) (10 * 2 ^ na)) na) t) e9).2) na))) := am_D hD rfl
              refine lv_iinc (v := nI (e9 + 1)) (lv' := [(8, .int (nI (e9 + 1))), (5, .long (((al 19) (sn + 1 + t)) - (((rc_b3i (ai 17) (rc_step (ai 2) (ai 3) (al 4) (al 7) (al 8)) (al 19) na (sn + 1 + t) (rc_b3 (ai 17) (rc_step (ai 2) (ai 3) (al 4) (al 7) (al 8)) (al 19) na sn ((al 19) sn - z, rc_b2 (ai 17) (rc_step (ai 2) (ai 3) (al 4) (al 7) (al 8)) j sn z (rc_far (al 18) (10 * 2 ^ na)) na) t) e9).2) (10 * (sn + 1 + t) + e9)))), (9, .long (((rc_b3i (ai 17) (rc_step (ai 2) (ai 3) (al 4) (al 7) (al 8)) (al 19) na (sn + 1 + t) (rc_b3 (ai 17) (rc_step (ai 2) (ai 3) (al 4) (al 7) (al 8)) (al 19) na sn ((al 19) sn - z, rc_b2 (ai 17) (rc_step (ai 2) (ai 3) (al 4) (al 7) (al 8)) j sn z (rc_far (al 18) (10 * 2 ^ na)) na) t) e9).2) (10 * (sn + 1 + t) + e9))), (0, .ref (ad 0)), (1, .int (nI sn)), (2, .int (ac_la j)), (3, .long z), (7, .int (nI (sn + 1 + t)))]) hx hb dX5_bestFrom_190 hl (k := 7) rfl (nI_1 e9) (by decide) rfl (fun ls hl => ?_)
              refine lv_goto (tgt := 114) hx hb dX5_bestFrom_193 (by decide) ?_
              have e_114_0 : (rc_b3i (ai 17) (rc_step (ai 2) (ai 3) (al 4) (al 7) (al 8)) (al 19) na (sn + 1 + t) (rc_b3 (ai 17) (rc_step (ai 2) (ai 3) (al 4) (al 7) (al 8)) (al 19) na sn ((al 19) sn - z, rc_b2 (ai 17) (rc_step (ai 2) (ai 3) (al 4) (al 7) (al 8)) j sn z (rc_far (al 18) (10 * 2 ^ na)) na) t) (e9 + 1)).1 = ((al 19) (sn + 1 + t)) - (((rc_b3i (ai 17) (rc_step (ai 2) (ai 3) (al 4) (al 7) (al 8)) (al 19) na (sn + 1 + t) (rc_b3 (ai 17) (rc_step (ai 2) (ai 3) (al 4) (al 7) (al 8)) (al 19) na sn ((al 19) sn - z, rc_b2 (ai 17) (rc_step (ai 2) (ai 3) (al 4) (al 7) (al 8)) j sn z (rc_far (al 18) (10 * 2 ^ na)) na) t) e9).2) (10 * (sn + 1 + t) + e9)) := by first | rfl | (simp only [rc_b3i, rc_b3e, c_120, c_144, c_160, if_true, if_false, eq_self, not_true_eq_false, not_false_eq_true, ite_true, ite_false, ↓reduceIte]; done) | (simp [rc_b3i, rc_b3e, c_120, c_144, c_160]; done)
              have e_114_1 : ((rc_b3i (ai 17) (rc_step (ai 2) (ai 3) (al 4) (al 7) (al 8)) (al 19) na (sn + 1 + t) (rc_b3 (ai 17) (rc_step (ai 2) (ai 3) (al 4) (al 7) (al 8)) (al 19) na sn ((al 19) sn - z, rc_b2 (ai 17) (rc_step (ai 2) (ai 3) (al 4) (al 7) (al 8)) j sn z (rc_far (al 18) (10 * 2 ^ na)) na) t) (e9 + 1)).2) = (rc_spr (ai 17) (rc_step (ai 2) (ai 3) (al 4) (al 7) (al 8)) (sn + 1 + t) e9 (((rc_b3i (ai 17) (rc_step (ai 2) (ai 3) (al 4) (al 7) (al 8)) (al 19) na (sn + 1 + t) (rc_b3 (ai 17) (rc_step (ai 2) (ai 3) (al 4) (al 7) (al 8)) (al 19) na sn ((al 19) sn - z, rc_b2 (ai 17) (rc_step (ai 2) (ai 3) (al 4) (al 7) (al 8)) j sn z (rc_far (al 18) (10 * 2 ^ na)) na) t) e9).2) (10 * (sn + 1 + t) + e9)) ((rc_b3i (ai 17) (rc_step (ai 2) (ai 3) (al 4) (al 7) (al 8)) (al 19) na (sn + 1 + t) (rc_b3 (ai 17) (rc_step (ai 2) (ai 3) (al 4) (al 7) (al 8)) (al 19) na sn ((al 19) sn - z, rc_b2 (ai 17) (rc_step (ai 2) (ai 3) (al 4) (al 7) (al 8)) j sn z (rc_far (al 18) (10 * 2 ^ na)) na) t) e9).2) na) := by first | rfl | (simp only [rc_b3i, rc_b3e, c_120, c_144, c_160, if_true, if_false, eq_self, not_true_eq_false, not_false_eq_true, ite_true, ite_false, ↓reduceIte]; done) | (simp [rc_b3i, rc_b3e, c_120, c_144, c_160]; done)
              refine ih_114 (e9 + 1) (na - (e9 + 1)) H locs ls (by omega) ⟨rfl, (by omega), ?_, hS, ?_⟩
              · (try dsimp only); (try rw [e_114_0]); (try rw [e_114_1]); exact hP
              · (try dsimp only); (try rw [e_114_0]); (try rw [e_114_1]); exact lv_sub hl [3, 4, 5, 6, 1, 7, 0] rfl
    · skip
      have c_50 : ¬ ((fi 0) ≤ (nI a)) := c_50
      have hkl_50 : a < na := Nat.lt_of_not_le (fun z => c_50 ((am_ge hna (by omega) (by omega)).mpr z))
      refine lv_aload_n hx hb dX5_bestFrom_53 rfl (lv_at hl 0 rfl) ?_
      refine lv_iload_n hx hb dX5_bestFrom_54 rfl (lv_at hl 1 rfl) ?_
      refine lv_iload hx hb dX5_bestFrom_55 (lv_at hl 5 rfl) ?_
      refine am_callRi (W.runV (As := [.int (nI sn), .int (nI a)]) (rest := []) ⟨hx, hb, hml, hown, hts⟩ (c_X5_canDo l D ad cI cL cZ fi fl ai (va_up al 18 (rc_b2 (ai 17) (rc_step (ai 2) (ai 3) (al 4) (al 7) (al 8)) j sn z (rc_far (al 18) (10 * 2 ^ na)) a)) (nI sn) a (by omega)) (cwV 2 hts (am_gV (am_in 579 rfl) (am_in 580 rfl) (am_in 20 rfl) (am_in 35 rfl) (am_in 581 rfl)) rfl rfl rfl (by decide +kernel) ⟨Nat.le_of_ble_eq_true rfl, Nat.le_of_ble_eq_true rfl⟩) (am_preVR 5 0 rfl rfl rfl hP hK hN) rfl rfl hl.1 rfl (lv_room (Nat.le_of_ble_eq_true rfl)) dX5_bestFrom_57 ⟨Nat.zero_le _, Nat.zero_le _⟩) ?_
      refine lv_if_eq (tgt := 89) hx hb dX5_bestFrom_60 (by decide) (fun c_60 => ?_) (fun c_60 => ?_)
      · skip
        have c_60 : (rc_can (ai 17) (nI sn) a) = 0 := c_60
        refine lv_iinc (v := nI (a + 1)) (lv' := [(7, .int (nI (a + 1))), (0, .ref (ad 0)), (1, .int (nI sn)), (2, .int (ac_la j)), (3, .long z), (5, .long (((al 19) sn) - z))]) hx hb dX5_bestFrom_89 hl (k := 5) rfl (nI_1 a) (by decide) rfl (fun ls hl => ?_)
        refine lv_goto (tgt := 44) hx hb dX5_bestFrom_92 (by decide) ?_
        have e_44_0 : (rc_b2 (ai 17) (rc_step (ai 2) (ai 3) (al 4) (al 7) (al 8)) j sn z (rc_far (al 18) (10 * 2 ^ na)) (a + 1)) = (rc_b2 (ai 17) (rc_step (ai 2) (ai 3) (al 4) (al 7) (al 8)) j sn z (rc_far (al 18) (10 * 2 ^ na)) a) := by first | rfl | (simp only [rc_b2, c_50, c_60, if_true, if_false, eq_self, not_true_eq_false, not_false_eq_true, ite_true, ite_false, ↓reduceIte]; done) | (simp [rc_b2, c_50, c_60]; done)
        refine ih_44 (a + 1) (na - (a + 1)) H locs ls (by omega) ⟨rfl, (by omega), ?_, hS, ?_⟩
        · (try dsimp only); (try rw [e_44_0]); exact hP
        · (try dsimp only); (try rw [e_44_0]); exact lv_sub hl [1, 2, 3, 4, 5, 0] rfl
      · skip
        have c_60 : ¬ ((rc_can (ai 17) (nI sn) a) = 0) := c_60
        refine lv_aload_n hx hb dX5_bestFrom_63 rfl (lv_at hl 0 rfl) ?_
        refine va_get (D := D) (ci := 5) (v := .ref (ad 18)) (C := RX5) (T := TX5) (N := 31) hx hb hts hin_X5 hown hK hP 0 rfl rfl 27 (by decide) hf_70 (fun _ h9 => h9) rfl dX5_bestFrom_64 ?_
        refine lv_bipush (v := 10) hx hb dX5_bestFrom_67 (by decide) ?_
        refine lv_iload_n hx hb dX5_bestFrom_69 rfl (lv_at hl 1 rfl) ?_
        refine lv_iconst (v := 1) hx hb dX5_bestFrom_70 (by decide) ?_
        refine lv_iload hx hb dX5_bestFrom_71 (lv_at hl 5 rfl) ?_
        refine lv_ishl hx hb dX5_bestFrom_73 ?_
        refine lv_ior hx hb dX5_bestFrom_74 ?_
        refine lv_imul hx hb dX5_bestFrom_75 ?_
        refine lv_iload hx hb dX5_bestFrom_76 (lv_at hl 5 rfl) ?_
        refine lv_iadd hx hb dX5_bestFrom_78 ?_
        refine lv_lload_n hx hb dX5_bestFrom_79 rfl (lv_at hl 3 rfl) ?_
        refine lv_aload_n hx hb dX5_bestFrom_80 rfl (lv_at hl 0 rfl) ?_
        refine lv_iload_n hx hb dX5_bestFrom_81 rfl (lv_at hl 2 rfl) ?_
        refine lv_iload hx hb dX5_bestFrom_82 (lv_at hl 5 rfl) ?_
        refine am_callRl (W.runV (As := [.int (ac_la j), .int (nI a)]) (rest := [.long z, .int ((10 * ((nI sn) ||| ((1 : Int32) <<< ((nI a) &&& 31)))) + (nI a)), .ref (ad 18)]) ⟨hx, hb, hml, hown, hts⟩ (c_X5_stepCost l D ad cI cL cZ fi fl ai (va_up al 18 (rc_b2 (ai 17) (rc_step (ai 2) (ai 3) (al 4) (al 7) (al 8)) j sn z (rc_far (al 18) (10 * 2 ^ na)) a)) j a na hna hnl hto hsi hj (by omega)) (cwV 2 hts (am_gV (am_in 582 rfl) (am_in 583 rfl) (am_in 21 rfl) (am_in 35 rfl) (am_in 584 rfl)) rfl rfl rfl (by decide +kernel) ⟨Nat.le_of_ble_eq_true rfl, Nat.le_of_ble_eq_true rfl⟩) (am_preVR 5 0 rfl rfl rfl hP hK hN) rfl rfl hl.1 rfl (lv_room (Nat.le_of_ble_eq_true rfl)) dX5_bestFrom_84 ⟨Nat.zero_le _, Nat.zero_le _⟩) ?_
        refine lv_ladd hx hb dX5_bestFrom_87 ?_
        refine am_last hx hb hK hP hD hS 18 1 rfl rfl (10 * (sn ||| 2 ^ a) + a) (am_six2 (by omega)) (by have := am_or_lt hsn (show a < 10 by omega); omega) (by decide) (rm_w ad cI cL cZ fi fl ai (va_up al 18 (vp_updL (rc_b2 (ai 17) (rc_step (ai 2) (ai 3) (al 4) (al 7) (al 8)) j sn z (rc_far (al 18) (10 * 2 ^ na)) a) (10 * (sn ||| 2 ^ a) + a) (z + ((rc_step (ai 2) (ai 3) (al 4) (al 7) (al 8)) j a))))) rfl dX5_bestFrom_88 (fun H locs hP hD hS => ?_)
        refine lv_iinc (v := nI (a + 1)) (lv' := [(7, .int (nI (a + 1))), (0, .ref (ad 0)), (1, .int (nI sn)), (2, .int (ac_la j)), (3, .long z), (5, .long (((al 19) sn) - z))]) hx hb dX5_bestFrom_89 hl (k := 5) rfl (nI_1 a) (by decide) rfl (fun ls hl => ?_)
        refine lv_goto (tgt := 44) hx hb dX5_bestFrom_92 (by decide) ?_
        have e_44_0 : (rc_b2 (ai 17) (rc_step (ai 2) (ai 3) (al 4) (al 7) (al 8)) j sn z (rc_far (al 18) (10 * 2 ^ na)) (a + 1)) = (vp_updL (rc_b2 (ai 17) (rc_step (ai 2) (ai 3) (al 4) (al 7) (al 8)) j sn z (rc_far (al 18) (10 * 2 ^ na)) a) (10 * (sn ||| 2 ^ a) + a) (z + ((rc_step (ai 2) (ai 3) (al 4) (al 7) (al 8)) j a))) := by first | rfl | (simp only [rc_b2, c_50, c_60, if_true, if_false, eq_self, not_true_eq_false, not_false_eq_true, ite_true, ite_false, ↓reduceIte]; done) | (simp [rc_b2, c_50, c_60]; done)
        refine ih_44 (a + 1) (na - (a + 1)) H locs ls (by omega) ⟨rfl, (by omega), ?_, hS, ?_⟩
        · (try dsimp only); (try rw [e_44_0]); exact hP
        · (try dsimp only); (try rw [e_44_0]); exact lv_sub hl [1, 2, 3, 4, 5, 0] rfl
  · skip
    have c_22 : ¬ ((nI (10 * 2 ^ na)) ≤ (nI k)) := c_22
    have hkl : k < 10 * 2 ^ na := Nat.lt_of_not_le (fun z => c_22 ((am_ge (rfl : nI (10 * 2 ^ na) = nI (10 * 2 ^ na)) (by omega) (by omega)).mpr z))
    refine lv_aload_n hx hb dX5_bestFrom_25 rfl (lv_at hl 0 rfl) ?_
    refine va_get (D := D) (ci := 5) (v := .ref (ad 18)) (C := RX5) (T := TX5) (N := 31) hx hb hts hin_X5 hown hK hP 0 rfl rfl 27 (by decide) hf_70 (fun _ h9 => h9) rfl dX5_bestFrom_26 ?_
    refine lv_iload hx hb dX5_bestFrom_29 (lv_at hl 5 rfl) ?_
    refine lv_ldc2 (v := 1000000000000000) hx hb hown (ht 578 _ rfl) dX5_bestFrom_31 ?_
    refine am_last hx hb hK hP hD hS 18 1 rfl rfl k rfl (by omega) (by decide) (rm_w ad cI cL cZ fi fl ai (va_up al 18 (vp_updL (rc_far (al 18) k) k 1000000000000000))) rfl dX5_bestFrom_34 (fun H locs hP hD hS => ?_)
    refine lv_iinc (v := nI (k + 1)) (lv' := [(7, .int (nI (k + 1))), (0, .ref (ad 0)), (1, .int (nI sn)), (2, .int (ac_la j)), (3, .long z), (5, .long (((al 19) sn) - z))]) hx hb dX5_bestFrom_35 hl (k := 5) rfl (nI_1 k) (by decide) rfl (fun ls hl => ?_)
    refine lv_goto (tgt := 13) hx hb dX5_bestFrom_38 (by decide) ?_
    have e_13_0 : (rc_far (al 18) (k + 1)) = (vp_updL (rc_far (al 18) k) k 1000000000000000) := by first | rfl | (simp only [rc_far, c_22, if_true, if_false, eq_self, not_true_eq_false, not_false_eq_true, ite_true, ite_false, ↓reduceIte]; done) | (simp [rc_far, c_22]; done)
    refine ih_13 (k + 1) (10 * 2 ^ na - (k + 1)) H locs ls (by omega) ⟨rfl, (by omega), ?_, hS, ?_⟩
    · (try dsimp only); (try rw [e_13_0]); exact hP
    · (try dsimp only); (try rw [e_13_0]); exact lv_sub hl [1, 2, 3, 4, 5, 0] rfl
set_option maxHeartbeats 4000000 in
set_option maxRecDepth 100000 in
theorem c_X5_step (l : Launch) (D : va_G) (ad : Nat → Nat) (cI cL cZ : ClassId) (fi : Nat → Int32) (fl : Nat → Int64) (ai : Nat → Nat → Int32) (al : Nat → Nat → Int64) (x : Int32) (ln : Nat) (hlen : fi 2 = nI ln ∨ fi 2 = -1) (hln : ln ≤ 10) : Met l yX5_step wsX5_step (am_rm 0 0) (va_Pc [.ref (ad 0), .int x] (am_R nwL vwCl D (rm_w ad cI cL cZ fi fl ai al) [(cI, .int), (cL, .long), (cZ, .boolean)])) (vp_Si (fun r => r = ac_step (fi 2) (ai 14) x)) 0 0 am_No := by
  refine am_startR (cc := cX5_step) (maxL := 2) (ret := (some .int)) (by decide) rfl (Nat.le_of_ble_eq_true rfl) [(0, .ref (ad 0)), (1, .int x)] rfl ?_
  intro p e s m below meth c ls hx hb hr hml hown hts hlocks hP hK hN hl
  have hown : s.vm.findClass RX5 = some m.cls := hown
  have ht := am_ht hts
  have hin_X5 : ∀ w ∈ u_ws RX5 TX5 31, w ∈ wsX5_step := fun w h => List.mem_cons_of_mem _ (am_inX5 w h)
  have hf_51 := ht 445 (.fieldLink RX5 51 "ApartCostModel" "row" "[I") rfl
  have hf_54 := ht 446 (.fieldLink RX5 54 "ApartCostModel" "length" "I") rfl
  refine lv_iload_n hx hb dX5_step_0 rfl (lv_at hl 1 rfl) ?_
  refine lv_if_lt (tgt := 21) hx hb dX5_step_1 (by decide) (fun c_1 => ?_) (fun c_1 => ?_)
  · skip
    have c_1 : x < 0 := c_1
    refine lv_iconst (v := (-1)) hx hb dX5_step_21 (by decide) ?_
    exact am_iretR hx hb hr hlocks (by simp [ac_step, c_1]) dX5_step_22
  · skip
    have c_1 : ¬ (x < 0) := c_1
    refine lv_iload_n hx hb dX5_step_4 rfl (lv_at hl 1 rfl) ?_
    refine lv_aload_n hx hb dX5_step_5 rfl (lv_at hl 0 rfl) ?_
    refine va_get (D := D) (ci := 5) (v := .int (fi 2)) (C := RX5) (T := TX5) (N := 31) hx hb hts hin_X5 hown hK hP 0 rfl rfl 16 (by decide) hf_54 (fun _ h9 => h9) rfl dX5_step_6 ?_
    refine lv_icmp_ge (tgt := 21) hx hb dX5_step_9 (by decide) (fun c_9 => ?_) (fun c_9 => ?_)
    · skip
      have c_9 : (fi 2) ≤ x := c_9
      refine lv_iconst (v := (-1)) hx hb dX5_step_21 (by decide) ?_
      exact am_iretR hx hb hr hlocks (by simp [ac_step, c_1, c_9]) dX5_step_22
    · skip
      have c_9 : ¬ ((fi 2) ≤ x) := c_9
      have hlen2 : fi 2 = nI ln := by rcases hlen with h | h; exact h; exact absurd (by rw [h]; exact am_m1le c_1) c_9
      obtain ⟨a, hq_a, ea⟩ : ∃ z, z < ln ∧ x = nI z := am_rng hlen2 (by omega) c_1 c_9
      have nn_a : x.toNatClampNeg = a := by rw [ea]; exact nI_clamp (by omega)
      have mm_a : (nI a).toNatClampNeg = a := nI_clamp (by omega)
      refine lv_aload_n hx hb dX5_step_12 rfl (lv_at hl 0 rfl) ?_
      refine va_get (D := D) (ci := 5) (v := .ref (ad 14)) (C := RX5) (T := TX5) (N := 31) hx hb hts hin_X5 hown hK hP 0 rfl rfl 15 (by decide) hf_51 (fun _ h9 => h9) rfl dX5_step_13 ?_
      refine lv_iload_n hx hb dX5_step_16 rfl (lv_at hl 1 rfl) ?_
      refine am_iald hx hb hK hP 14 0 rfl rfl a ea (by omega) (by decide) dX5_step_17 ?_
      refine lv_goto (tgt := 22) hx hb dX5_step_18 (by decide) ?_
      exact am_iretR hx hb hr hlocks (by simp [ac_step, c_1, c_9, nn_a]) dX5_step_22

set_option maxHeartbeats 4000000 in
set_option maxRecDepth 100000 in
theorem c_X5_stops (l : Launch) (D : va_G) (ad : Nat → Nat) (cI cL cZ : ClassId) (fi : Nat → Int32) (fl : Nat → Int64) (ai : Nat → Nat → Int32) (al : Nat → Nat → Int64) (x : Int32) : Met l yX5_stops wsX5_stops (am_rm 1 21) (va_Pc [.ref (ad 0), .int x] (am_R nwL vwCl D (rm_w ad cI cL cZ fi fl ai al) [(cI, .int), (cL, .long), (cZ, .boolean)])) (vp_Si (fun r => r = rc_stops (fi 4) (fi 2) x 12 0 0)) 0 0 am_No := by
  refine am_startR (cc := cX5_stops) (maxL := 4) (ret := (some .int)) (by decide) rfl (Nat.le_of_ble_eq_true rfl) [(0, .ref (ad 0)), (1, .int x)] rfl ?_
  intro p e s m below meth c ls hx hb hr hml hown hts hlocks hP hK hN hl
  have hown : s.vm.findClass RX5 = some m.cls := hown
  have ht := am_ht hts
  have hin_X5 : ∀ w ∈ u_ws RX5 TX5 31, w ∈ wsX5_stops := fun w h => List.mem_cons_of_mem _ (am_inX5 w h)
  have hf_171 := ht 450 (.fieldLink RX5 171 "ApartCostModel" "openParts" "I") rfl
  have hf_54 := ht 446 (.fieldLink RX5 54 "ApartCostModel" "length" "I") rfl
  refine lv_iconst (v := 0) hx hb dX5_stops_0 (by decide) ?_
  refine lv_istore_n (lv' := [(2, .int 0), (0, .ref (ad 0)), (1, .int x)]) hx hb dX5_stops_1 rfl hl (by decide) rfl (fun ls hl => ?_)
  refine lv_iconst (v := 0) hx hb dX5_stops_2 (by decide) ?_
  refine lv_istore_n (lv' := [(3, .int 0), (2, .int 0), (0, .ref (ad 0)), (1, .int x)]) hx hb dX5_stops_3 rfl hl (by decide) rfl (fun ls hl => ?_)
  refine am_loopR (σ := (Nat) × (Int32)) (fun q n9 ls => n9 = 12 - q.1 ∧ q.1 ≤ 12 ∧ rc_stops (fi 4) (fi 2) x 12 0 0 = rc_stops (fi 4) (fi 2) x (12 - q.1) q.1 q.2 ∧ lv_has ls 4 [(0, .ref (ad 0)), (1, .int x), (2, .int q.2), (3, .int (nI q.1))]) ?_ (0, 0) (12 - 0) ls ⟨rfl, (by omega), rfl, lv_sub hl [2, 3, 1, 0] rfl⟩
  rintro ⟨k, cn⟩ n9 ls ⟨hn_4, hk, hm, hl⟩ ih_4
  dsimp only at hn_4 hk hm hl
  refine lv_iload_n hx hb dX5_stops_4 rfl (lv_at hl 3 rfl) ?_
  refine lv_bipush (v := 12) hx hb dX5_stops_5 (by decide) ?_
  refine lv_icmp_ge (tgt := 44) hx hb dX5_stops_7 (by decide) (fun c_7 => ?_) (fun c_7 => ?_)
  · skip
    have c_7 : 12 ≤ (nI k) := c_7
    have hke_7 : 12 ≤ k := (am_ge (rfl : (12 : Int32) = nI 12) (by decide) (by omega)).mp c_7
    have hkq_7 : k = 12 := by omega
    subst hkq_7
    refine lv_iconst (v := (-1)) hx hb dX5_stops_44 (by decide) ?_
    exact am_iretR hx hb hr hlocks (by rw [hm]; rfl) dX5_stops_45
  · skip
    have c_7 : ¬ (12 ≤ (nI k)) := c_7
    have hkl_7 : k < 12 := Nat.lt_of_not_le (fun z => c_7 ((am_ge (rfl : (12 : Int32) = nI 12) (by decide) (by omega)).mpr z))
    refine lv_aload_n hx hb dX5_stops_10 rfl (lv_at hl 0 rfl) ?_
    refine va_get (D := D) (ci := 5) (v := .int (fi 2)) (C := RX5) (T := TX5) (N := 31) hx hb hts hin_X5 hown hK hP 0 rfl rfl 16 (by decide) hf_54 (fun _ h9 => h9) rfl dX5_stops_11 ?_
    refine lv_if_lt (tgt := 44) hx hb dX5_stops_14 (by decide) (fun c_14 => ?_) (fun c_14 => ?_)
    · skip
      have c_14 : (fi 2) < 0 := c_14
      refine lv_iconst (v := (-1)) hx hb dX5_stops_44 (by decide) ?_
      exact am_iretR hx hb hr hlocks (by rw [hm, show 12 - k = (12 - (k + 1)) + 1 by omega]; simp only [rc_stops, c_14, if_true, ↓reduceIte]) dX5_stops_45
    · skip
      have c_14 : ¬ ((fi 2) < 0) := c_14
      refine lv_aload_n hx hb dX5_stops_17 rfl (lv_at hl 0 rfl) ?_
      refine va_get (D := D) (ci := 5) (v := .int (fi 4)) (C := RX5) (T := TX5) (N := 31) hx hb hts hin_X5 hown hK hP 0 rfl rfl 20 (by decide) hf_171 (fun _ h9 => h9) rfl dX5_stops_18 ?_
      refine lv_iload_n hx hb dX5_stops_21 rfl (lv_at hl 3 rfl) ?_
      refine am_callRi (W.runS (As := [.int (fi 4), .int (nI k)]) (rest := []) ⟨hx, hb, hml, hown, hts⟩ (c_X5_has l D _ _ (fi 4) (nI k)) (va_cwS 2 hts (am_gS (am_in 554 rfl) (am_in 555 rfl) (am_in 35 rfl) (am_in 556 rfl)) rfl rfl rfl (by decide +kernel) ⟨Nat.le_of_ble_eq_true rfl, Nat.le_of_ble_eq_true rfl⟩) (am_preSR hP hK hN) rfl rfl hl.1 rfl (lv_room (Nat.le_of_ble_eq_true rfl)) dX5_stops_22 ⟨Nat.zero_le _, Nat.zero_le _⟩) ?_
      refine lv_if_eq (tgt := 38) hx hb dX5_stops_25 (by decide) (fun c_25 => ?_) (fun c_25 => ?_)
      · skip
        have c_25 : (rc_has (fi 4) (nI k)) = 0 := c_25
        refine lv_iinc (v := nI (k + 1)) (lv' := [(3, .int (nI (k + 1))), (0, .ref (ad 0)), (1, .int x), (2, .int cn)]) hx hb dX5_stops_38 hl (k := 3) rfl (nI_1 k) (by decide) rfl (fun ls hl => ?_)
        refine lv_goto (tgt := 4) hx hb dX5_stops_41 (by decide) ?_
        refine ih_4 (k + 1, cn) (12 - (k + 1)) ls (by omega) ⟨rfl, (by omega), (by dsimp only; rw [hm, show 12 - k = (12 - (k + 1)) + 1 by omega]; simp only [rc_stops, c_7, c_14, c_25, if_true, if_false, ↓reduceIte]), ?_⟩
        exact lv_sub hl [1, 2, 3, 0] rfl
      · skip
        have c_25 : ¬ ((rc_has (fi 4) (nI k)) = 0) := c_25
        refine lv_iload_n hx hb dX5_stops_28 rfl (lv_at hl 2 rfl) ?_
        refine lv_iload_n hx hb dX5_stops_29 rfl (lv_at hl 1 rfl) ?_
        refine lv_icmp_ne (tgt := 35) hx hb dX5_stops_30 (by decide) (fun c_30 => ?_) (fun c_30 => ?_)
        · skip
          have c_30 : ¬ cn = x := c_30
          refine lv_iinc (v := cn + 1) (lv' := [(2, .int (cn + 1)), (0, .ref (ad 0)), (1, .int x), (3, .int (nI k))]) hx hb dX5_stops_35 hl (k := 2) rfl rfl (by decide) rfl (fun ls hl => ?_)
          refine lv_iinc (v := nI (k + 1)) (lv' := [(3, .int (nI (k + 1))), (2, .int (cn + 1)), (0, .ref (ad 0)), (1, .int x)]) hx hb dX5_stops_38 hl (k := 3) rfl (nI_1 k) (by decide) rfl (fun ls hl => ?_)
          refine lv_goto (tgt := 4) hx hb dX5_stops_41 (by decide) ?_
          refine ih_4 (k + 1, cn + 1) (12 - (k + 1)) ls (by omega) ⟨rfl, (by omega), (by dsimp only; rw [hm, show 12 - k = (12 - (k + 1)) + 1 by omega]; simp only [rc_stops, c_7, c_14, c_25, c_30, if_true, if_false, ↓reduceIte]), ?_⟩
          exact lv_sub hl [2, 3, 1, 0] rfl
        · skip
          have c_30 : cn = x := c_30
          refine lv_iload_n hx hb dX5_stops_33 rfl (lv_at hl 3 rfl) ?_
          exact am_iretR hx hb hr hlocks (by rw [hm, show 12 - k = (12 - (k + 1)) + 1 by omega]; simp only [rc_stops, c_7, c_14, c_25, c_30, if_true, if_false, ↓reduceIte]) dX5_stops_34

set_option maxHeartbeats 4000000 in
set_option maxRecDepth 100000 in
theorem c_X5_isInRow (l : Launch) (D : va_G) (ad : Nat → Nat) (cI cL cZ : ClassId) (fi : Nat → Int32) (fl : Nat → Int64) (ai : Nat → Nat → Int32) (al : Nat → Nat → Int64) (x : Int32) (ln : Nat) (hlen : fi 2 = nI ln ∨ fi 2 = -1) (hln : ln ≤ 10) : Met l yX5_isInRow wsX5_isInRow (am_rm 0 0) (va_Pc [.ref (ad 0), .int x] (am_R nwL vwCl D (rm_w ad cI cL cZ fi fl ai al) [(cI, .int), (cL, .long), (cZ, .boolean)])) (vp_Si (fun r => r = rc_inrow (ai 14) x (rc_len (fi 2)))) 0 0 am_No := by
  refine am_startR (cc := cX5_isInRow) (maxL := 4) (ret := (some .boolean)) (by decide) rfl (Nat.le_of_ble_eq_true rfl) [(0, .ref (ad 0)), (1, .int x)] rfl ?_
  intro p e s m below meth c ls hx hb hr hml hown hts hlocks hP hK hN hl
  have hown : s.vm.findClass RX5 = some m.cls := hown
  have ht := am_ht hts
  have hin_X5 : ∀ w ∈ u_ws RX5 TX5 31, w ∈ wsX5_isInRow := fun w h => List.mem_cons_of_mem _ (am_inX5 w h)
  have hf_51 := ht 445 (.fieldLink RX5 51 "ApartCostModel" "row" "[I") rfl
  have hf_54 := ht 446 (.fieldLink RX5 54 "ApartCostModel" "length" "I") rfl
  have hrl := am_rclen hlen hln
  refine lv_iconst (v := 0) hx hb dX5_isInRow_0 (by decide) ?_
  refine lv_istore_n (lv' := [(2, .int 0), (0, .ref (ad 0)), (1, .int x)]) hx hb dX5_isInRow_1 rfl hl (by decide) rfl (fun ls hl => ?_)
  refine lv_iconst (v := 0) hx hb dX5_isInRow_2 (by decide) ?_
  refine lv_istore_n (lv' := [(3, .int 0), (2, .int 0), (0, .ref (ad 0)), (1, .int x)]) hx hb dX5_isInRow_3 rfl hl (by decide) rfl (fun ls hl => ?_)
  refine am_loopR (σ := Nat) (fun q n9 ls => n9 = rc_len (fi 2) - q ∧ q ≤ rc_len (fi 2) ∧ lv_has ls 4 [(0, .ref (ad 0)), (1, .int x), (2, .int (rc_inrow (ai 14) x q)), (3, .int (nI q))]) ?_ 0 (rc_len (fi 2) - 0) ls ⟨rfl, (by omega), lv_sub hl [2, 3, 1, 0] rfl⟩
  rintro k n9 ls ⟨hn_4, hk, hl⟩ ih_4
  refine lv_iload_n hx hb dX5_isInRow_4 rfl (lv_at hl 3 rfl) ?_
  refine lv_aload_n hx hb dX5_isInRow_5 rfl (lv_at hl 0 rfl) ?_
  refine va_get (D := D) (ci := 5) (v := .int (fi 2)) (C := RX5) (T := TX5) (N := 31) hx hb hts hin_X5 hown hK hP 0 rfl rfl 16 (by decide) hf_54 (fun _ h9 => h9) rfl dX5_isInRow_6 ?_
  refine lv_icmp_ge (tgt := 38) hx hb dX5_isInRow_9 (by decide) (fun c_9 => ?_) (fun c_9 => ?_)
  · skip
    have c_9 : (fi 2) ≤ (nI k) := c_9
    have hkq : rc_len (fi 2) = k := by have := (hrl.2 k (by omega)).mp c_9; omega
    subst hkq
    refine lv_iload_n hx hb dX5_isInRow_38 rfl (lv_at hl 2 rfl) ?_
    exact am_zretR hx hb hr hlocks (rc_inrow_z _ _ _) (by first | rfl | (simp only [c_9, if_true, if_false, eq_self, not_true_eq_false, not_false_eq_true, ite_true, ite_false, ↓reduceIte]; done) | (simp [c_9]; done)) dX5_isInRow_39
  · skip
    have c_9 : ¬ ((fi 2) ≤ (nI k)) := c_9
    have hkl : k < rc_len (fi 2) := Nat.lt_of_not_le (fun z => c_9 ((hrl.2 k (by omega)).mpr z))
    refine lv_iload_n hx hb dX5_isInRow_12 rfl (lv_at hl 2 rfl) ?_
    refine lv_if_ne (tgt := 26) hx hb dX5_isInRow_13 (by decide) (fun c_13 => ?_) (fun c_13 => ?_)
    · skip
      have c_13 : ¬ (rc_inrow (ai 14) x k) = 0 := c_13
      refine lv_iconst (v := 1) hx hb dX5_isInRow_26 (by decide) ?_
      refine lv_goto (tgt := 31) hx hb dX5_isInRow_27 (by decide) ?_
      refine lv_istore_n (lv' := [(2, .int 1), (0, .ref (ad 0)), (1, .int x), (3, .int (nI k))]) hx hb dX5_isInRow_31 rfl hl (by decide) rfl (fun ls hl => ?_)
      refine lv_iinc (v := nI (k + 1)) (lv' := [(3, .int (nI (k + 1))), (2, .int 1), (0, .ref (ad 0)), (1, .int x)]) hx hb dX5_isInRow_32 hl (k := 3) rfl (nI_1 k) (by decide) rfl (fun ls hl => ?_)
      refine lv_goto (tgt := 4) hx hb dX5_isInRow_35 (by decide) ?_
      have e_4_0 : rc_inrow (ai 14) x (k + 1) = 1 := by first | rfl | (simp only [rc_inrow, c_9, c_13, if_true, if_false, eq_self, not_true_eq_false, not_false_eq_true, ite_true, ite_false, ↓reduceIte]; done) | (simp [rc_inrow, c_9, c_13]; done)
      refine ih_4 (k + 1) (rc_len (fi 2) - (k + 1)) ls (by omega) ⟨rfl, (by omega), ?_⟩
      try dsimp only
      rw [e_4_0]
      exact lv_sub hl [2, 3, 1, 0] rfl
    · skip
      have c_13 : (rc_inrow (ai 14) x k) = 0 := c_13
      refine lv_aload_n hx hb dX5_isInRow_16 rfl (lv_at hl 0 rfl) ?_
      refine va_get (D := D) (ci := 5) (v := .ref (ad 14)) (C := RX5) (T := TX5) (N := 31) hx hb hts hin_X5 hown hK hP 0 rfl rfl 15 (by decide) hf_51 (fun _ h9 => h9) rfl dX5_isInRow_17 ?_
      refine lv_iload_n hx hb dX5_isInRow_20 rfl (lv_at hl 3 rfl) ?_
      refine am_iald hx hb hK hP 14 0 rfl rfl k rfl (by omega) (by decide) dX5_isInRow_21 ?_
      refine lv_iload_n hx hb dX5_isInRow_22 rfl (lv_at hl 1 rfl) ?_
      refine lv_icmp_ne (tgt := 30) hx hb dX5_isInRow_23 (by decide) (fun c_23 => ?_) (fun c_23 => ?_)
      · skip
        have c_23 : ¬ ((ai 14) k) = x := c_23
        refine lv_iconst (v := 0) hx hb dX5_isInRow_30 (by decide) ?_
        refine lv_istore_n (lv' := [(2, .int 0), (0, .ref (ad 0)), (1, .int x), (3, .int (nI k))]) hx hb dX5_isInRow_31 rfl hl (by decide) rfl (fun ls hl => ?_)
        refine lv_iinc (v := nI (k + 1)) (lv' := [(3, .int (nI (k + 1))), (2, .int 0), (0, .ref (ad 0)), (1, .int x)]) hx hb dX5_isInRow_32 hl (k := 3) rfl (nI_1 k) (by decide) rfl (fun ls hl => ?_)
        refine lv_goto (tgt := 4) hx hb dX5_isInRow_35 (by decide) ?_
        have e_4_0 : rc_inrow (ai 14) x (k + 1) = 0 := by first | rfl | (simp only [rc_inrow, c_9, c_13, c_23, if_true, if_false, eq_self, not_true_eq_false, not_false_eq_true, ite_true, ite_false, ↓reduceIte]; done) | (simp [rc_inrow, c_9, c_13, c_23]; done)
        refine ih_4 (k + 1) (rc_len (fi 2) - (k + 1)) ls (by omega) ⟨rfl, (by omega), ?_⟩
        try dsimp only
        rw [e_4_0]
        exact lv_sub hl [2, 3, 1, 0] rfl
      · skip
        have c_23 : ((ai 14) k) = x := c_23
        refine lv_iconst (v := 1) hx hb dX5_isInRow_26 (by decide) ?_
        refine lv_goto (tgt := 31) hx hb dX5_isInRow_27 (by decide) ?_
        refine lv_istore_n (lv' := [(2, .int 1), (0, .ref (ad 0)), (1, .int x), (3, .int (nI k))]) hx hb dX5_isInRow_31 rfl hl (by decide) rfl (fun ls hl => ?_)
        refine lv_iinc (v := nI (k + 1)) (lv' := [(3, .int (nI (k + 1))), (2, .int 1), (0, .ref (ad 0)), (1, .int x)]) hx hb dX5_isInRow_32 hl (k := 3) rfl (nI_1 k) (by decide) rfl (fun ls hl => ?_)
        refine lv_goto (tgt := 4) hx hb dX5_isInRow_35 (by decide) ?_
        have e_4_0 : rc_inrow (ai 14) x (k + 1) = 1 := by first | rfl | (simp only [rc_inrow, c_9, c_13, c_23, if_true, if_false, eq_self, not_true_eq_false, not_false_eq_true, ite_true, ite_false, ↓reduceIte]; done) | (simp [rc_inrow, c_9, c_13, c_23]; done)
        refine ih_4 (k + 1) (rc_len (fi 2) - (k + 1)) ls (by omega) ⟨rfl, (by omega), ?_⟩
        try dsimp only
        rw [e_4_0]
        exact lv_sub hl [2, 3, 1, 0] rfl

set_option maxHeartbeats 4000000 in
set_option maxRecDepth 100000 in
theorem c_X5_other (l : Launch) (D : va_G) (ad : Nat → Nat) (cI cL cZ : ClassId) (fi : Nat → Int32) (fl : Nat → Int64) (ai : Nat → Nat → Int32) (al : Nat → Nat → Int64) (x : Int32) (ln : Nat) (nt : Nat) (hlen : fi 2 = nI ln ∨ fi 2 = -1) (hln : ln ≤ 10) (hnt : fi 5 = nI nt) (hnt10 : nt ≤ 10) : Met l yX5_other wsX5_other (am_rm 1 23) (va_Pc [.ref (ad 0), .int x] (am_R nwL vwCl D (rm_w ad cI cL cZ fi fl ai al) [(cI, .int), (cL, .long), (cZ, .boolean)])) (vp_Si (fun r => r = rc_other (fun q => rc_inrow (ai 14) q (rc_len (fi 2))) (fi 2) x nt 0 0)) 0 0 am_No := by
  refine am_startR (cc := cX5_other) (maxL := 4) (ret := (some .int)) (by decide) rfl (Nat.le_of_ble_eq_true rfl) [(0, .ref (ad 0)), (1, .int x)] rfl ?_
  intro p e s m below meth c ls hx hb hr hml hown hts hlocks hP hK hN hl
  have hown : s.vm.findClass RX5 = some m.cls := hown
  have ht := am_ht hts
  have hin_X5 : ∀ w ∈ u_ws RX5 TX5 31, w ∈ wsX5_other := fun w h => List.mem_cons_of_mem _ (am_inX5 w h)
  have hf_174 := ht 451 (.fieldLink RX5 174 "ApartCostModel" "actsThen" "I") rfl
  have hf_54 := ht 446 (.fieldLink RX5 54 "ApartCostModel" "length" "I") rfl
  refine lv_iconst (v := 0) hx hb dX5_other_0 (by decide) ?_
  refine lv_istore_n (lv' := [(2, .int 0), (0, .ref (ad 0)), (1, .int x)]) hx hb dX5_other_1 rfl hl (by decide) rfl (fun ls hl => ?_)
  refine lv_iconst (v := 0) hx hb dX5_other_2 (by decide) ?_
  refine lv_istore_n (lv' := [(3, .int 0), (2, .int 0), (0, .ref (ad 0)), (1, .int x)]) hx hb dX5_other_3 rfl hl (by decide) rfl (fun ls hl => ?_)
  refine am_loopR (σ := (Nat) × (Int32)) (fun q n9 ls => n9 = nt - q.1 ∧ q.1 ≤ nt ∧ rc_other (fun q => rc_inrow (ai 14) q (rc_len (fi 2))) (fi 2) x nt 0 0 = rc_other (fun q => rc_inrow (ai 14) q (rc_len (fi 2))) (fi 2) x (nt - q.1) q.1 q.2 ∧ lv_has ls 4 [(0, .ref (ad 0)), (1, .int x), (2, .int q.2), (3, .int (nI q.1))]) ?_ (0, 0) (nt - 0) ls ⟨rfl, (by first | omega | (dsimp only; omega)), rfl, lv_sub hl [2, 3, 1, 0] rfl⟩
  rintro ⟨k, cn⟩ n9 ls ⟨hn_4, hk, hm, hl⟩ ih_4
  dsimp only at hn_4 hk hm hl
  refine lv_iload_n hx hb dX5_other_4 rfl (lv_at hl 3 rfl) ?_
  refine lv_aload_n hx hb dX5_other_5 rfl (lv_at hl 0 rfl) ?_
  refine va_get (D := D) (ci := 5) (v := .int (fi 5)) (C := RX5) (T := TX5) (N := 31) hx hb hts hin_X5 hown hK hP 0 rfl rfl 21 (by decide) hf_174 (fun _ h9 => h9) rfl dX5_other_6 ?_
  refine lv_icmp_ge (tgt := 43) hx hb dX5_other_9 (by decide) (fun c_9 => ?_) (fun c_9 => ?_)
  · skip
    have c_9 : (fi 5) ≤ (nI k) := c_9
    have hke_9 : nt ≤ k := (am_ge hnt (by omega) (by omega)).mp c_9
    have hkq_9 : nt = k := by omega
    subst hkq_9
    refine lv_iconst (v := (-1)) hx hb dX5_other_43 (by decide) ?_
    exact am_iretR hx hb hr hlocks (by rw [hm, Nat.sub_self, rc_other]) dX5_other_44
  · skip
    have c_9 : ¬ ((fi 5) ≤ (nI k)) := c_9
    have hkl_9 : k < nt := Nat.lt_of_not_le (fun z => c_9 ((am_ge hnt (by omega) (by omega)).mpr z))
    refine lv_aload_n hx hb dX5_other_12 rfl (lv_at hl 0 rfl) ?_
    refine va_get (D := D) (ci := 5) (v := .int (fi 2)) (C := RX5) (T := TX5) (N := 31) hx hb hts hin_X5 hown hK hP 0 rfl rfl 16 (by decide) hf_54 (fun _ h9 => h9) rfl dX5_other_13 ?_
    refine lv_if_lt (tgt := 43) hx hb dX5_other_16 (by decide) (fun c_16 => ?_) (fun c_16 => ?_)
    · skip
      have c_16 : (fi 2) < 0 := c_16
      refine lv_iconst (v := (-1)) hx hb dX5_other_43 (by decide) ?_
      exact am_iretR hx hb hr hlocks (by rw [hm, show nt - k = (nt - (k + 1)) + 1 by omega]; simp only [rc_other, c_16, if_true, ↓reduceIte]) dX5_other_44
    · skip
      have c_16 : ¬ ((fi 2) < 0) := c_16
      refine lv_aload_n hx hb dX5_other_19 rfl (lv_at hl 0 rfl) ?_
      refine lv_iload_n hx hb dX5_other_20 rfl (lv_at hl 3 rfl) ?_
      refine am_callRi (W.runV (As := [.int (nI k)]) (rest := []) ⟨hx, hb, hml, hown, hts⟩ (c_X5_isInRow l D ad cI cL cZ fi fl ai al (nI k) ln hlen hln) (cwV 1 hts (am_gV (am_in 600 rfl) (am_in 601 rfl) (am_in 23 rfl) (am_in 35 rfl) (am_in 602 rfl)) rfl rfl rfl (by decide +kernel) ⟨Nat.le_of_ble_eq_true rfl, Nat.le_of_ble_eq_true rfl⟩) (am_preVR 5 0 rfl rfl rfl hP hK hN) rfl rfl hl.1 rfl (lv_room (Nat.le_of_ble_eq_true rfl)) dX5_other_21 ⟨Nat.zero_le _, Nat.zero_le _⟩) ?_
      refine lv_if_ne (tgt := 37) hx hb dX5_other_24 (by decide) (fun c_24 => ?_) (fun c_24 => ?_)
      · skip
        have c_24 : ¬ (rc_inrow (ai 14) (nI k) (rc_len (fi 2))) = 0 := c_24
        refine lv_iinc (v := nI (k + 1)) (lv' := [(3, .int (nI (k + 1))), (0, .ref (ad 0)), (1, .int x), (2, .int cn)]) hx hb dX5_other_37 hl (k := 3) rfl (nI_1 k) (by decide) rfl (fun ls hl => ?_)
        refine lv_goto (tgt := 4) hx hb dX5_other_40 (by decide) ?_
        refine ih_4 (k + 1, cn) (nt - (k + 1)) ls (by omega) ⟨rfl, (by first | omega | (dsimp only; omega)), (by dsimp only; rw [hm, show nt - k = (nt - (k + 1)) + 1 by omega]; simp only [rc_other, c_9, c_16, c_24, if_true, if_false, ↓reduceIte]), ?_⟩
        exact lv_sub hl [1, 2, 3, 0] rfl
      · skip
        have c_24 : (rc_inrow (ai 14) (nI k) (rc_len (fi 2))) = 0 := c_24
        refine lv_iload_n hx hb dX5_other_27 rfl (lv_at hl 2 rfl) ?_
        refine lv_iload_n hx hb dX5_other_28 rfl (lv_at hl 1 rfl) ?_
        refine lv_icmp_ne (tgt := 34) hx hb dX5_other_29 (by decide) (fun c_29 => ?_) (fun c_29 => ?_)
        · skip
          have c_29 : ¬ cn = x := c_29
          refine lv_iinc (v := cn + 1) (lv' := [(2, .int (cn + 1)), (0, .ref (ad 0)), (1, .int x), (3, .int (nI k))]) hx hb dX5_other_34 hl (k := 2) rfl rfl (by decide) rfl (fun ls hl => ?_)
          refine lv_iinc (v := nI (k + 1)) (lv' := [(3, .int (nI (k + 1))), (2, .int (cn + 1)), (0, .ref (ad 0)), (1, .int x)]) hx hb dX5_other_37 hl (k := 3) rfl (nI_1 k) (by decide) rfl (fun ls hl => ?_)
          refine lv_goto (tgt := 4) hx hb dX5_other_40 (by decide) ?_
          refine ih_4 (k + 1, cn + 1) (nt - (k + 1)) ls (by omega) ⟨rfl, (by first | omega | (dsimp only; omega)), (by dsimp only; rw [hm, show nt - k = (nt - (k + 1)) + 1 by omega]; simp only [rc_other, c_9, c_16, c_24, c_29, if_true, if_false, ↓reduceIte]), ?_⟩
          exact lv_sub hl [2, 3, 1, 0] rfl
        · skip
          have c_29 : cn = x := c_29
          refine lv_iload_n hx hb dX5_other_32 rfl (lv_at hl 3 rfl) ?_
          exact am_iretR hx hb hr hlocks (by rw [hm, show nt - k = (nt - (k + 1)) + 1 by omega]; simp only [rc_other, c_9, c_16, c_24, c_29, if_true, if_false, ↓reduceIte]) dX5_other_33

set_option maxHeartbeats 4000000 in
set_option maxRecDepth 100000 in
theorem c_X5_gain (l : Launch) (D : va_G) (ad : Nat → Nat) (cI cL cZ : ClassId) (fi : Nat → Int32) (fl : Nat → Int64) (ai : Nat → Nat → Int32) (al : Nat → Nat → Int64) (x : Int32) : Met l yX5_gain wsX5_gain (am_rm 1 20) (va_Pc [.ref (ad 0), .int x] (am_R nwL vwCl D (rm_w ad cI cL cZ fi fl ai al) [(cI, .int), (cL, .long), (cZ, .boolean)])) (vp_Sl (fun r => r = rc_gain (fi 2) (fl 0) (al 15) x)) 0 0 am_No := by
  refine am_startR (cc := cX5_gain) (maxL := 2) (ret := (some .long)) (by decide) rfl (Nat.le_of_ble_eq_true rfl) [(0, .ref (ad 0)), (1, .int x)] rfl ?_
  intro p e s m below meth c ls hx hb hr hml hown hts hlocks hP hK hN hl
  have hown : s.vm.findClass RX5 = some m.cls := hown
  have ht := am_ht hts
  have hin_X5 : ∀ w ∈ u_ws RX5 TX5 31, w ∈ wsX5_gain := fun w h => List.mem_cons_of_mem _ (am_inX5 w h)
  have hf_167 := ht 447 (.fieldLink RX5 167 "ApartCostModel" "found" "J") rfl
  have hf_54 := ht 446 (.fieldLink RX5 54 "ApartCostModel" "length" "I") rfl
  have hf_58 := ht 448 (.fieldLink RX5 58 "ApartCostModel" "brought" "[J") rfl
  refine lv_aload_n hx hb dX5_gain_0 rfl (lv_at hl 0 rfl) ?_
  refine va_get (D := D) (ci := 5) (v := .int (fi 2)) (C := RX5) (T := TX5) (N := 31) hx hb hts hin_X5 hown hK hP 0 rfl rfl 16 (by decide) hf_54 (fun _ h9 => h9) rfl dX5_gain_1 ?_
  refine lv_if_ge (tgt := 9) hx hb dX5_gain_4 (by decide) (fun c_4 => ?_) (fun c_4 => ?_)
  · skip
    have c_4 : 0 ≤ (fi 2) := c_4
    refine lv_iload_n hx hb dX5_gain_9 rfl (lv_at hl 1 rfl) ?_
    refine lv_iconst (v := (-1)) hx hb dX5_gain_10 (by decide) ?_
    refine lv_icmp_ne (tgt := 21) hx hb dX5_gain_11 (by decide) (fun c_11 => ?_) (fun c_11 => ?_)
    · skip
      have c_11 : ¬ x = (-1) := c_11
      refine lv_iload_n hx hb dX5_gain_21 rfl (lv_at hl 1 rfl) ?_
      refine am_callRi (W.runS (As := [.int x]) (rest := []) ⟨hx, hb, hml, hown, hts⟩ (c_X5_isPart l D _ _ x) (va_cwS 1 hts (am_gS (am_in 526 rfl) (am_in 527 rfl) (am_in 35 rfl) (am_in 528 rfl)) rfl rfl rfl (by decide +kernel) ⟨Nat.le_of_ble_eq_true rfl, Nat.le_of_ble_eq_true rfl⟩) (am_preSR hP hK hN) rfl rfl hl.1 rfl (lv_room (Nat.le_of_ble_eq_true rfl)) dX5_gain_22 ⟨Nat.zero_le _, Nat.zero_le _⟩) ?_
      refine lv_if_eq (tgt := 37) hx hb dX5_gain_25 (by decide) (fun c_25 => ?_) (fun c_25 => ?_)
      · skip
        have c_25 : (ac_isPart x) = 0 := c_25
        refine lv_lconst (v := 0) hx hb dX5_gain_37 (by decide) ?_
        exact am_lretR hx hb hr hlocks (by simp only [rc_gain, c_4, c_11, c_25, if_true, if_false, ↓reduceIte]) dX5_gain_38
      · skip
        have c_25 : ¬ ((ac_isPart x) = 0) := c_25
        obtain ⟨a, hq_a, ea⟩ : ∃ z, z < 12 ∧ x = nI z := am_isPart c_25
        have nn_a : x.toNatClampNeg = a := by rw [ea]; exact nI_clamp (by omega)
        have mm_a : (nI a).toNatClampNeg = a := nI_clamp (by omega)
        refine lv_aload_n hx hb dX5_gain_28 rfl (lv_at hl 0 rfl) ?_
        refine va_get (D := D) (ci := 5) (v := .ref (ad 15)) (C := RX5) (T := TX5) (N := 31) hx hb hts hin_X5 hown hK hP 0 rfl rfl 18 (by decide) hf_58 (fun _ h9 => h9) rfl dX5_gain_29 ?_
        refine lv_iload_n hx hb dX5_gain_32 rfl (lv_at hl 1 rfl) ?_
        refine am_lald hx hb hK hP 15 1 rfl rfl a ea (by omega) (by decide) dX5_gain_33 ?_
        refine lv_goto (tgt := 38) hx hb dX5_gain_34 (by decide) ?_
        exact am_lretR hx hb hr hlocks (by simp only [rc_gain, c_4, c_11, c_25, nn_a, if_true, if_false, ↓reduceIte]) dX5_gain_38
    · skip
      have c_11 : x = (-1) := c_11
      refine lv_aload_n hx hb dX5_gain_14 rfl (lv_at hl 0 rfl) ?_
      refine va_get (D := D) (ci := 5) (v := .long (fl 0)) (C := RX5) (T := TX5) (N := 31) hx hb hts hin_X5 hown hK hP 0 rfl rfl 17 (by decide) hf_167 (fun _ h9 => h9) rfl dX5_gain_15 ?_
      refine lv_goto (tgt := 38) hx hb dX5_gain_18 (by decide) ?_
      exact am_lretR hx hb hr hlocks (by simp only [rc_gain, c_4, c_11, if_true, if_false, ↓reduceIte]) dX5_gain_38
  · skip
    have c_4 : ¬ (0 ≤ (fi 2)) := c_4
    refine lv_lconst (v := 0) hx hb dX5_gain_7 (by decide) ?_
    exact am_lretR hx hb hr hlocks (by simp only [rc_gain, c_4, if_true, if_false, ↓reduceIte]) dX5_gain_8

set_option maxHeartbeats 4000000 in
set_option maxRecDepth 100000 in
theorem c_X5_proved (l : Launch) (D : va_G) (ad : Nat → Nat) (cI cL cZ : ClassId) (fi : Nat → Int32) (fl : Nat → Int64) (ai : Nat → Nat → Int32) (al : Nat → Nat → Int64) (hfr : fi 3 = 0 ∨ fi 3 = 1) : Met l yX5_proved wsX5_proved (am_rm 0 0) (va_Pc [.ref (ad 0)] (am_R nwL vwCl D (rm_w ad cI cL cZ fi fl ai al) [(cI, .int), (cL, .long), (cZ, .boolean)])) (vp_Si (fun r => r = (fi 3))) 0 0 am_No := by
  refine am_startR (cc := cX5_proved) (maxL := 1) (ret := (some .boolean)) (by decide) rfl (Nat.le_of_ble_eq_true rfl) [(0, .ref (ad 0))] rfl ?_
  intro p e s m below meth c ls hx hb hr hml hown hts hlocks hP hK hN hl
  have hown : s.vm.findClass RX5 = some m.cls := hown
  have ht := am_ht hts
  have hin_X5 : ∀ w ∈ u_ws RX5 TX5 31, w ∈ wsX5_proved := fun w h => List.mem_cons_of_mem _ (am_inX5 w h)
  have hf_97 := ht 449 (.fieldLink RX5 97 "ApartCostModel" "isFresh" "Z") rfl
  refine lv_aload_n hx hb dX5_proved_0 rfl (lv_at hl 0 rfl) ?_
  refine va_get (D := D) (ci := 5) (v := .int (fi 3)) (C := RX5) (T := TX5) (N := 31) hx hb hts hin_X5 hown hK hP 0 rfl rfl 19 (by decide) hf_97 (fun _ h9 => h9) rfl dX5_proved_1 ?_
  exact am_zretR hx hb hr hlocks hfr (by rfl) dX5_proved_4

set_option maxHeartbeats 4000000 in
set_option maxRecDepth 100000 in
theorem c_X5_bound (l : Launch) (D : va_G) (ad : Nat → Nat) (cI cL cZ : ClassId) (fi : Nat → Int32) (fl : Nat → Int64) (ai : Nat → Nat → Int32) (al : Nat → Nat → Int64) (nr : Nat) (hnr : fi 1 = nI nr) (hnrl : nr ≤ 16) (hbe : ∀ p, p < 12 → ¬ ((ai 11) p).toInt64 = 0) : Met l yX5_bound wsX5_bound (am_rm 0 0) (va_Pc [.ref (ad 0)] (am_R nwL vwCl D (rm_w ad cI cL cZ fi fl ai al) [(cI, .int), (cL, .long), (cZ, .boolean)])) (vp_Sl (fun r => r = rc_bd1 (al 9) (ai 10) (ai 11) 12 + 27720 * rc_bd2 (al 13) nr)) 0 0 am_No := by
  refine am_startR (cc := cX5_bound) (maxL := 6) (ret := (some .long)) (by decide) rfl (Nat.le_of_ble_eq_true rfl) [(0, .ref (ad 0))] rfl ?_
  intro p e s m below meth c ls hx hb hr hml hown hts hlocks hP hK hN hl
  have hown : s.vm.findClass RX5 = some m.cls := hown
  have ht := am_ht hts
  have hin_X5 : ∀ w ∈ u_ws RX5 TX5 31, w ∈ wsX5_bound := fun w h => List.mem_cons_of_mem _ (am_inX5 w h)
  have hf_116 := ht 444 (.fieldLink RX5 116 "ApartCostModel" "restCount" "I") rfl
  have hf_36 := ht 439 (.fieldLink RX5 36 "ApartCostModel" "worths" "[J") rfl
  have hf_39 := ht 440 (.fieldLink RX5 39 "ApartCostModel" "above" "[I") rfl
  have hf_42 := ht 441 (.fieldLink RX5 42 "ApartCostModel" "below" "[I") rfl
  have hf_48 := ht 443 (.fieldLink RX5 48 "ApartCostModel" "restWorths" "[J") rfl
  refine lv_lconst (v := 0) hx hb dX5_bound_0 (by decide) ?_
  refine lv_lstore_n (lv' := [(1, .long 0), (0, .ref (ad 0))]) hx hb dX5_bound_1 rfl hl (by decide) rfl (fun ls hl => ?_)
  refine lv_iconst (v := 0) hx hb dX5_bound_2 (by decide) ?_
  refine lv_istore_n (lv' := [(3, .int 0), (1, .long 0), (0, .ref (ad 0))]) hx hb dX5_bound_3 rfl hl (by decide) rfl (fun ls hl => ?_)
  refine am_loopR (σ := Nat) (fun q n9 ls => n9 = 12 - q ∧ q ≤ 12 ∧ lv_has ls 6 [(0, .ref (ad 0)), (1, .long (rc_bd1 (al 9) (ai 10) (ai 11) q)), (3, .int (nI q))]) ?_ 0 (12 - 0) ls ⟨rfl, (by omega), lv_sub hl [2, 1, 0] rfl⟩
  rintro k n9 ls ⟨hn_4, hk, hl⟩ ih_4
  refine lv_iload_n hx hb dX5_bound_4 rfl (lv_at hl 2 rfl) ?_
  refine lv_bipush (v := 12) hx hb dX5_bound_5 (by decide) ?_
  refine lv_icmp_ge (tgt := 60) hx hb dX5_bound_7 (by decide) (fun c_7 => ?_) (fun c_7 => ?_)
  · skip
    have c_7 : 12 ≤ (nI k) := c_7
    have hke_7 : 12 ≤ k := (am_ge (rfl : (12 : Int32) = nI 12) (by decide) (by omega)).mp c_7
    have hkq_7 : k = 12 := by omega
    subst hkq_7
    refine lv_lconst (v := 0) hx hb dX5_bound_60 (by decide) ?_
    refine lv_lstore_n (lv' := [(3, .long 0), (0, .ref (ad 0)), (1, .long (rc_bd1 (al 9) (ai 10) (ai 11) 12))]) hx hb dX5_bound_61 rfl hl (by decide) rfl (fun ls hl => ?_)
    refine lv_iconst (v := 0) hx hb dX5_bound_62 (by decide) ?_
    refine lv_istore (lv' := [(5, .int 0), (3, .long 0), (0, .ref (ad 0)), (1, .long (rc_bd1 (al 9) (ai 10) (ai 11) 12))]) hx hb dX5_bound_63 hl (by decide) rfl (fun ls hl => ?_)
    refine am_loopR (σ := Nat) (fun q n9 ls => n9 = nr - q ∧ q ≤ nr ∧ lv_has ls 6 [(0, .ref (ad 0)), (1, .long (rc_bd1 (al 9) (ai 10) (ai 11) 12)), (3, .long (rc_bd2 (al 13) q)), (5, .int (nI q))]) ?_ 0 (nr - 0) ls ⟨rfl, (by omega), lv_sub hl [2, 3, 1, 0] rfl⟩
    rintro h n9 ls ⟨hn_65, hh, hl⟩ ih_65
    refine lv_iload hx hb dX5_bound_65 (lv_at hl 3 rfl) ?_
    refine lv_aload_n hx hb dX5_bound_67 rfl (lv_at hl 0 rfl) ?_
    refine va_get (D := D) (ci := 5) (v := .int (fi 1)) (C := RX5) (T := TX5) (N := 31) hx hb hts hin_X5 hown hK hP 0 rfl rfl 14 (by decide) hf_116 (fun _ h9 => h9) rfl dX5_bound_68 ?_
    refine lv_icmp_ge (tgt := 104) hx hb dX5_bound_71 (by decide) (fun c_71 => ?_) (fun c_71 => ?_)
    · skip
      have c_71 : (fi 1) ≤ (nI h) := c_71
      have hke_71 : nr ≤ h := (am_ge hnr (by omega) (by omega)).mp c_71
      have hkq_71 : nr = h := by omega
      subst hkq_71
      refine lv_lload_n hx hb dX5_bound_104 rfl (lv_at hl 1 rfl) ?_
      refine lv_ldc2 (v := 27720) hx hb hown (ht 571 _ rfl) dX5_bound_105 ?_
      refine lv_lload_n hx hb dX5_bound_108 rfl (lv_at hl 2 rfl) ?_
      refine lv_lmul hx hb dX5_bound_109 ?_
      refine lv_ladd hx hb dX5_bound_110 ?_
      exact am_lretR hx hb hr hlocks (by first | rfl | (simp only [c_71, if_true, if_false, eq_self, not_true_eq_false, not_false_eq_true, ite_true, ite_false, ↓reduceIte]; done) | (simp [c_71]; done)) dX5_bound_111
    · skip
      have c_71 : ¬ ((fi 1) ≤ (nI h)) := c_71
      have hkl_71 : h < nr := Nat.lt_of_not_le (fun z => c_71 ((am_ge hnr (by omega) (by omega)).mpr z))
      refine lv_aload_n hx hb dX5_bound_74 rfl (lv_at hl 0 rfl) ?_
      refine va_get (D := D) (ci := 5) (v := .ref (ad 13)) (C := RX5) (T := TX5) (N := 31) hx hb hts hin_X5 hown hK hP 0 rfl rfl 13 (by decide) hf_48 (fun _ h9 => h9) rfl dX5_bound_75 ?_
      refine lv_iload hx hb dX5_bound_78 (lv_at hl 3 rfl) ?_
      refine am_lald hx hb hK hP 13 1 rfl rfl h rfl (by omega) (by decide) dX5_bound_80 ?_
      refine lv_lload_n hx hb dX5_bound_81 rfl (lv_at hl 2 rfl) ?_
      refine W.lcmp hx hb dX5_bound_82 ?_
      refine lv_if_le (tgt := 96) hx hb dX5_bound_83 (by decide) (fun c_83 => ?_) (fun c_83 => ?_)
      · skip
        have c_83 : ((al 13) h) ≤ (rc_bd2 (al 13) h) := (lg_cmp_le _ _).mp c_83
        refine lv_lload_n hx hb dX5_bound_96 rfl (lv_at hl 2 rfl) ?_
        refine lv_lstore_n (lv' := [(3, .long (rc_bd2 (al 13) h)), (0, .ref (ad 0)), (1, .long (rc_bd1 (al 9) (ai 10) (ai 11) 12)), (5, .int (nI h))]) hx hb dX5_bound_97 rfl hl (by decide) rfl (fun ls hl => ?_)
        refine lv_iinc (v := nI (h + 1)) (lv' := [(5, .int (nI (h + 1))), (3, .long (rc_bd2 (al 13) h)), (0, .ref (ad 0)), (1, .long (rc_bd1 (al 9) (ai 10) (ai 11) 12))]) hx hb dX5_bound_98 hl (k := 3) rfl (nI_1 h) (by decide) rfl (fun ls hl => ?_)
        refine lv_goto (tgt := 65) hx hb dX5_bound_101 (by decide) ?_
        have e_65_0 : rc_bd2 (al 13) (h + 1) = rc_bd2 (al 13) h := by first | rfl | (simp only [rc_bd2, c_71, c_83, if_true, if_false, eq_self, not_true_eq_false, not_false_eq_true, ite_true, ite_false, ↓reduceIte]; done) | (simp [rc_bd2, c_71, c_83]; done)
        refine ih_65 (h + 1) (nr - (h + 1)) ls (by omega) ⟨rfl, (by omega), ?_⟩
        try dsimp only
        rw [e_65_0]
        exact lv_sub hl [2, 3, 1, 0] rfl
      · skip
        have c_83 : ¬ (((al 13) h) ≤ (rc_bd2 (al 13) h)) := (fun z => c_83 ((lg_cmp_le _ _).mpr z))
        refine lv_aload_n hx hb dX5_bound_86 rfl (lv_at hl 0 rfl) ?_
        refine va_get (D := D) (ci := 5) (v := .ref (ad 13)) (C := RX5) (T := TX5) (N := 31) hx hb hts hin_X5 hown hK hP 0 rfl rfl 13 (by decide) hf_48 (fun _ h9 => h9) rfl dX5_bound_87 ?_
        refine lv_iload hx hb dX5_bound_90 (lv_at hl 3 rfl) ?_
        refine am_lald hx hb hK hP 13 1 rfl rfl h rfl (by omega) (by decide) dX5_bound_92 ?_
        refine lv_goto (tgt := 97) hx hb dX5_bound_93 (by decide) ?_
        refine lv_lstore_n (lv' := [(3, .long ((al 13) h)), (0, .ref (ad 0)), (1, .long (rc_bd1 (al 9) (ai 10) (ai 11) 12)), (5, .int (nI h))]) hx hb dX5_bound_97 rfl hl (by decide) rfl (fun ls hl => ?_)
        refine lv_iinc (v := nI (h + 1)) (lv' := [(5, .int (nI (h + 1))), (3, .long ((al 13) h)), (0, .ref (ad 0)), (1, .long (rc_bd1 (al 9) (ai 10) (ai 11) 12))]) hx hb dX5_bound_98 hl (k := 3) rfl (nI_1 h) (by decide) rfl (fun ls hl => ?_)
        refine lv_goto (tgt := 65) hx hb dX5_bound_101 (by decide) ?_
        have e_65_0 : rc_bd2 (al 13) (h + 1) = (al 13) h := by first | rfl | (simp only [rc_bd2, c_71, c_83, if_true, if_false, eq_self, not_true_eq_false, not_false_eq_true, ite_true, ite_false, ↓reduceIte]; done) | (simp [rc_bd2, c_71, c_83]; done)
        refine ih_65 (h + 1) (nr - (h + 1)) ls (by omega) ⟨rfl, (by omega), ?_⟩
        try dsimp only
        rw [e_65_0]
        exact lv_sub hl [2, 3, 1, 0] rfl
  · skip
    have c_7 : ¬ (12 ≤ (nI k)) := c_7
    have hkl_7 : k < 12 := Nat.lt_of_not_le (fun z => c_7 ((am_ge (rfl : (12 : Int32) = nI 12) (by decide) (by omega)).mpr z))
    refine lv_lload_n hx hb dX5_bound_10 rfl (lv_at hl 1 rfl) ?_
    refine lv_aload_n hx hb dX5_bound_11 rfl (lv_at hl 0 rfl) ?_
    refine va_get (D := D) (ci := 5) (v := .ref (ad 9)) (C := RX5) (T := TX5) (N := 31) hx hb hts hin_X5 hown hK hP 0 rfl rfl 9 (by decide) hf_36 (fun _ h9 => h9) rfl dX5_bound_12 ?_
    refine lv_iload_n hx hb dX5_bound_15 rfl (lv_at hl 2 rfl) ?_
    refine am_lald hx hb hK hP 9 1 rfl rfl k rfl (by omega) (by decide) dX5_bound_16 ?_
    refine lv_lconst (v := 0) hx hb dX5_bound_17 (by decide) ?_
    refine W.lcmp hx hb dX5_bound_18 ?_
    refine lv_if_le (tgt := 51) hx hb dX5_bound_19 (by decide) (fun c_19 => ?_) (fun c_19 => ?_)
    · skip
      have c_19 : ((al 9) k) ≤ 0 := (lg_cmp_le _ _).mp c_19
      refine lv_lconst (v := 0) hx hb dX5_bound_51 (by decide) ?_
      refine lv_ladd hx hb dX5_bound_52 ?_
      refine lv_lstore_n (lv' := [(1, .long ((rc_bd1 (al 9) (ai 10) (ai 11) k) + 0)), (0, .ref (ad 0)), (3, .int (nI k))]) hx hb dX5_bound_53 rfl hl (by decide) rfl (fun ls hl => ?_)
      refine lv_iinc (v := nI (k + 1)) (lv' := [(3, .int (nI (k + 1))), (1, .long ((rc_bd1 (al 9) (ai 10) (ai 11) k) + 0)), (0, .ref (ad 0))]) hx hb dX5_bound_54 hl (k := 2) rfl (nI_1 k) (by decide) rfl (fun ls hl => ?_)
      refine lv_goto (tgt := 4) hx hb dX5_bound_57 (by decide) ?_
      have e_4_0 : rc_bd1 (al 9) (ai 10) (ai 11) (k + 1) = (rc_bd1 (al 9) (ai 10) (ai 11) k) + 0 := by first | rfl | (simp only [rc_bd1, c_7, c_19, if_true, if_false, eq_self, not_true_eq_false, not_false_eq_true, ite_true, ite_false, ↓reduceIte]; done) | (simp [rc_bd1, c_7, c_19]; done)
      refine ih_4 (k + 1) (12 - (k + 1)) ls (by omega) ⟨rfl, (by omega), ?_⟩
      try dsimp only
      rw [e_4_0]
      exact lv_sub hl [2, 1, 0] rfl
    · skip
      have c_19 : ¬ (((al 9) k) ≤ 0) := (fun z => c_19 ((lg_cmp_le _ _).mpr z))
      refine lv_ldc2 (v := 27720) hx hb hown (ht 571 _ rfl) dX5_bound_22 ?_
      refine lv_aload_n hx hb dX5_bound_25 rfl (lv_at hl 0 rfl) ?_
      refine va_get (D := D) (ci := 5) (v := .ref (ad 9)) (C := RX5) (T := TX5) (N := 31) hx hb hts hin_X5 hown hK hP 0 rfl rfl 9 (by decide) hf_36 (fun _ h9 => h9) rfl dX5_bound_26 ?_
      refine lv_iload_n hx hb dX5_bound_29 rfl (lv_at hl 2 rfl) ?_
      refine am_lald hx hb hK hP 9 1 rfl rfl k rfl (by omega) (by decide) dX5_bound_30 ?_
      refine lv_lmul hx hb dX5_bound_31 ?_
      refine lv_aload_n hx hb dX5_bound_32 rfl (lv_at hl 0 rfl) ?_
      refine va_get (D := D) (ci := 5) (v := .ref (ad 11)) (C := RX5) (T := TX5) (N := 31) hx hb hts hin_X5 hown hK hP 0 rfl rfl 11 (by decide) hf_42 (fun _ h9 => h9) rfl dX5_bound_33 ?_
      refine lv_iload_n hx hb dX5_bound_36 rfl (lv_at hl 2 rfl) ?_
      refine am_iald hx hb hK hP 11 0 rfl rfl k rfl (by omega) (by decide) dX5_bound_37 ?_
      refine lv_i2l (v := ((ai 11) k).toInt64) hx hb dX5_bound_38 rfl ?_
      refine lv_ldiv hx hb dX5_bound_39 (hbe k (by omega)) ?_
      refine lv_aload_n hx hb dX5_bound_40 rfl (lv_at hl 0 rfl) ?_
      refine va_get (D := D) (ci := 5) (v := .ref (ad 10)) (C := RX5) (T := TX5) (N := 31) hx hb hts hin_X5 hown hK hP 0 rfl rfl 10 (by decide) hf_39 (fun _ h9 => h9) rfl dX5_bound_41 ?_
      refine lv_iload_n hx hb dX5_bound_44 rfl (lv_at hl 2 rfl) ?_
      refine am_iald hx hb hK hP 10 0 rfl rfl k rfl (by omega) (by decide) dX5_bound_45 ?_
      refine lv_i2l (v := ((ai 10) k).toInt64) hx hb dX5_bound_46 rfl ?_
      refine lv_lmul hx hb dX5_bound_47 ?_
      refine lv_goto (tgt := 52) hx hb dX5_bound_48 (by decide) ?_
      refine lv_ladd hx hb dX5_bound_52 ?_
      refine lv_lstore_n (lv' := [(1, .long ((rc_bd1 (al 9) (ai 10) (ai 11) k) + (((27720 * ((al 9) k)) / (((ai 11) k).toInt64)) * (((ai 10) k).toInt64)))), (0, .ref (ad 0)), (3, .int (nI k))]) hx hb dX5_bound_53 rfl hl (by decide) rfl (fun ls hl => ?_)
      refine lv_iinc (v := nI (k + 1)) (lv' := [(3, .int (nI (k + 1))), (1, .long ((rc_bd1 (al 9) (ai 10) (ai 11) k) + (((27720 * ((al 9) k)) / (((ai 11) k).toInt64)) * (((ai 10) k).toInt64)))), (0, .ref (ad 0))]) hx hb dX5_bound_54 hl (k := 2) rfl (nI_1 k) (by decide) rfl (fun ls hl => ?_)
      refine lv_goto (tgt := 4) hx hb dX5_bound_57 (by decide) ?_
      have e_4_0 : rc_bd1 (al 9) (ai 10) (ai 11) (k + 1) = (rc_bd1 (al 9) (ai 10) (ai 11) k) + (((27720 * ((al 9) k)) / (((ai 11) k).toInt64)) * (((ai 10) k).toInt64)) := by first | rfl | (simp only [rc_bd1, c_7, c_19, if_true, if_false, eq_self, not_true_eq_false, not_false_eq_true, ite_true, ite_false, ↓reduceIte]; done) | (simp [rc_bd1, c_7, c_19]; done)
      refine ih_4 (k + 1) (12 - (k + 1)) ls (by omega) ⟨rfl, (by omega), ?_⟩
      try dsimp only
      rw [e_4_0]
      exact lv_sub hl [2, 1, 0] rfl

set_option maxHeartbeats 4000000 in
set_option maxRecDepth 100000 in
theorem c_X5_station (l : Launch) (D : va_G) (ad : Nat → Nat) (cI cL cZ : ClassId) (fi : Nat → Int32) (fl : Nat → Int64) (ai : Nat → Nat → Int32) (al : Nat → Nat → Int64) (x : Int32) : Met l yX5_station wsX5_station (am_rm 0 0) (va_Pc [.ref (ad 0), .int x] (am_R nwL vwCl D (rm_w ad cI cL cZ fi fl ai al) [(cI, .int), (cL, .long), (cZ, .boolean)])) (vp_Si (fun r => r = if (fi 6) = 0 then -1 else ac_stn (ai 16) x)) 0 0 am_No := by
  refine am_startR (cc := cX5_station) (maxL := 2) (ret := (some .int)) (by decide) rfl (Nat.le_of_ble_eq_true rfl) [(0, .ref (ad 0)), (1, .int x)] rfl ?_
  intro p e s m below meth c ls hx hb hr hml hown hts hlocks hP hK hN hl
  have hown : s.vm.findClass RX5 = some m.cls := hown
  have ht := am_ht hts
  have hin_X5 : ∀ w ∈ u_ws RX5 TX5 31, w ∈ wsX5_station := fun w h => List.mem_cons_of_mem _ (am_inX5 w h)
  have hf_196 := ht 453 (.fieldLink RX5 196 "ApartCostModel" "isShared" "Z") rfl
  have hf_61 := ht 452 (.fieldLink RX5 61 "ApartCostModel" "places" "[I") rfl
  refine lv_aload_n hx hb dX5_station_0 rfl (lv_at hl 0 rfl) ?_
  refine va_get (D := D) (ci := 5) (v := .int (fi 6)) (C := RX5) (T := TX5) (N := 31) hx hb hts hin_X5 hown hK hP 0 rfl rfl 23 (by decide) hf_196 (fun _ h9 => h9) rfl dX5_station_1 ?_
  refine lv_if_eq (tgt := 26) hx hb dX5_station_4 (by decide) (fun c_4 => ?_) (fun c_4 => ?_)
  · skip
    have c_4 : (fi 6) = 0 := c_4
    refine lv_iconst (v := (-1)) hx hb dX5_station_26 (by decide) ?_
    exact am_iretR hx hb hr hlocks (by simp only [ac_stn, c_4, if_true, if_false, ↓reduceIte]) dX5_station_27
  · skip
    have c_4 : ¬ ((fi 6) = 0) := c_4
    refine lv_iload_n hx hb dX5_station_7 rfl (lv_at hl 1 rfl) ?_
    refine lv_if_lt (tgt := 26) hx hb dX5_station_8 (by decide) (fun c_8 => ?_) (fun c_8 => ?_)
    · skip
      have c_8 : x < 0 := c_8
      refine lv_iconst (v := (-1)) hx hb dX5_station_26 (by decide) ?_
      exact am_iretR hx hb hr hlocks (by simp only [ac_stn, c_4, c_8, if_true, if_false, ↓reduceIte]) dX5_station_27
    · skip
      have c_8 : ¬ (x < 0) := c_8
      refine lv_iload_n hx hb dX5_station_11 rfl (lv_at hl 1 rfl) ?_
      refine lv_bipush (v := 10) hx hb dX5_station_12 (by decide) ?_
      refine lv_icmp_ge (tgt := 26) hx hb dX5_station_14 (by decide) (fun c_14 => ?_) (fun c_14 => ?_)
      · skip
        have c_14 : 10 ≤ x := c_14
        refine lv_iconst (v := (-1)) hx hb dX5_station_26 (by decide) ?_
        exact am_iretR hx hb hr hlocks (by simp only [ac_stn, c_4, c_8, c_14, if_true, if_false, ↓reduceIte]) dX5_station_27
      · skip
        have c_14 : ¬ (10 ≤ x) := c_14
        obtain ⟨a, hq_a, ea⟩ : ∃ z, z < 10 ∧ x = nI z := am_rng (rfl : (10 : Int32) = nI 10) (by decide) c_8 c_14
        have nn_a : x.toNatClampNeg = a := by rw [ea]; exact nI_clamp (by omega)
        have mm_a : (nI a).toNatClampNeg = a := nI_clamp (by omega)
        refine lv_aload_n hx hb dX5_station_17 rfl (lv_at hl 0 rfl) ?_
        refine va_get (D := D) (ci := 5) (v := .ref (ad 16)) (C := RX5) (T := TX5) (N := 31) hx hb hts hin_X5 hown hK hP 0 rfl rfl 22 (by decide) hf_61 (fun _ h9 => h9) rfl dX5_station_18 ?_
        refine lv_iload_n hx hb dX5_station_21 rfl (lv_at hl 1 rfl) ?_
        refine am_iald hx hb hK hP 16 0 rfl rfl a ea (by omega) (by decide) dX5_station_22 ?_
        refine lv_goto (tgt := 27) hx hb dX5_station_23 (by decide) ?_
        exact am_iretR hx hb hr hlocks (by simp only [ac_stn, c_4, c_8, c_14, nn_a, if_true, if_false, ↓reduceIte]) dX5_station_27
