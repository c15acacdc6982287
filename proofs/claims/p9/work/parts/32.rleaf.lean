set_option maxHeartbeats 4000000 in
set_option maxRecDepth 100000 in
theorem c_X5_isCents (l : Launch) (D : va_G) (w : va_W) (tys : List (ClassId × FieldType)) (z : Int64) : Met l yX5_isCents wsX5_isCents (am_rm 0 0) (va_Pc [.long z] (am_R nwL vwCl D w tys)) (vp_Si (fun r => r = ac_isPrice z)) 0 0 am_No := by
  refine am_startR (cc := cX5_isCents) (maxL := 2) (ret := (some .boolean)) (by decide) rfl (Nat.le_of_ble_eq_true rfl) [(0, .long z)] rfl ?_
  intro p e s m below meth c ls hx hb hr hml hown hts hlocks hP hK hN hl
  have hown : s.vm.findClass RX5 = some m.cls := hown
  have ht := am_ht hts
  refine lv_lload_n hx hb dX5_isCents_0 rfl (lv_at hl 0 rfl) ?_
  refine lv_lconst (v := 0) hx hb dX5_isCents_1 (by decide) ?_
  refine W.lcmp hx hb dX5_isCents_2 ?_
  refine lv_if_lt (tgt := 18) hx hb dX5_isCents_3 (by decide) (fun c_3 => ?_) (fun c_3 => ?_)
  · skip
    have c_3 : z < 0 := (lg_cmp_lt _ _).mp c_3
    refine lv_iconst (v := 0) hx hb dX5_isCents_18 (by decide) ?_
    exact am_zretR hx hb hr hlocks (Or.inl rfl) (by first | rfl | (simp only [ac_isPrice, c_3, if_true, if_false, eq_self, not_true_eq_false, not_false_eq_true, ite_true, ite_false, ↓reduceIte]; done) | (simp [ac_isPrice, c_3]; done)) dX5_isCents_19
  · skip
    have c_3 : ¬ (z < 0) := (fun z => c_3 ((lg_cmp_lt _ _).mpr z))
    refine lv_lload_n hx hb dX5_isCents_6 rfl (lv_at hl 0 rfl) ?_
    refine lv_ldc2 (v := 1000000) hx hb hown (ht 503 _ rfl) dX5_isCents_7 ?_
    refine W.lcmp hx hb dX5_isCents_10 ?_
    refine lv_if_gt (tgt := 18) hx hb dX5_isCents_11 (by decide) (fun c_11 => ?_) (fun c_11 => ?_)
    · skip
      have c_11 : 1000000 < z := (lg_cmp_gt _ _).mp c_11
      refine lv_iconst (v := 0) hx hb dX5_isCents_18 (by decide) ?_
      exact am_zretR hx hb hr hlocks (Or.inl rfl) (by first | rfl | (simp only [ac_isPrice, c_3, c_11, if_true, if_false, eq_self, not_true_eq_false, not_false_eq_true, ite_true, ite_false, ↓reduceIte]; done) | (simp [ac_isPrice, c_3, c_11]; done)) dX5_isCents_19
    · skip
      have c_11 : ¬ (1000000 < z) := (fun z => c_11 ((lg_cmp_gt _ _).mpr z))
      refine lv_iconst (v := 1) hx hb dX5_isCents_14 (by decide) ?_
      refine lv_goto (tgt := 19) hx hb dX5_isCents_15 (by decide) ?_
      exact am_zretR hx hb hr hlocks (Or.inr rfl) (by first | rfl | (simp only [ac_isPrice, c_3, c_11, if_true, if_false, eq_self, not_true_eq_false, not_false_eq_true, ite_true, ite_false, ↓reduceIte]; done) | (simp [ac_isPrice, c_3, c_11]; done)) dX5_isCents_19

set_option maxHeartbeats 4000000 in
set_option maxRecDepth 100000 in
theorem c_X5_isWorth (l : Launch) (D : va_G) (w : va_W) (tys : List (ClassId × FieldType)) (z : Int64) : Met l yX5_isWorth wsX5_isWorth (am_rm 0 0) (va_Pc [.long z] (am_R nwL vwCl D w tys)) (vp_Si (fun r => r = ac_isWorth z)) 0 0 am_No := by
  refine am_startR (cc := cX5_isWorth) (maxL := 2) (ret := (some .boolean)) (by decide) rfl (Nat.le_of_ble_eq_true rfl) [(0, .long z)] rfl ?_
  intro p e s m below meth c ls hx hb hr hml hown hts hlocks hP hK hN hl
  have hown : s.vm.findClass RX5 = some m.cls := hown
  have ht := am_ht hts
  refine lv_lload_n hx hb dX5_isWorth_0 rfl (lv_at hl 0 rfl) ?_
  refine lv_ldc2 (v := (-1000000)) hx hb hown (ht 532 _ rfl) dX5_isWorth_1 ?_
  refine W.lcmp hx hb dX5_isWorth_4 ?_
  refine lv_if_lt (tgt := 20) hx hb dX5_isWorth_5 (by decide) (fun c_5 => ?_) (fun c_5 => ?_)
  · skip
    have c_5 : z < (-1000000) := (lg_cmp_lt _ _).mp c_5
    refine lv_iconst (v := 0) hx hb dX5_isWorth_20 (by decide) ?_
    exact am_zretR hx hb hr hlocks (Or.inl rfl) (by first | rfl | (simp only [ac_isWorth, c_5, if_true, if_false, eq_self, not_true_eq_false, not_false_eq_true, ite_true, ite_false, ↓reduceIte]; done) | (simp [ac_isWorth, c_5]; done)) dX5_isWorth_21
  · skip
    have c_5 : ¬ (z < (-1000000)) := (fun z => c_5 ((lg_cmp_lt _ _).mpr z))
    refine lv_lload_n hx hb dX5_isWorth_8 rfl (lv_at hl 0 rfl) ?_
    refine lv_ldc2 (v := 1000000) hx hb hown (ht 503 _ rfl) dX5_isWorth_9 ?_
    refine W.lcmp hx hb dX5_isWorth_12 ?_
    refine lv_if_gt (tgt := 20) hx hb dX5_isWorth_13 (by decide) (fun c_13 => ?_) (fun c_13 => ?_)
    · skip
      have c_13 : 1000000 < z := (lg_cmp_gt _ _).mp c_13
      refine lv_iconst (v := 0) hx hb dX5_isWorth_20 (by decide) ?_
      exact am_zretR hx hb hr hlocks (Or.inl rfl) (by first | rfl | (simp only [ac_isWorth, c_5, c_13, if_true, if_false, eq_self, not_true_eq_false, not_false_eq_true, ite_true, ite_false, ↓reduceIte]; done) | (simp [ac_isWorth, c_5, c_13]; done)) dX5_isWorth_21
    · skip
      have c_13 : ¬ (1000000 < z) := (fun z => c_13 ((lg_cmp_gt _ _).mpr z))
      refine lv_iconst (v := 1) hx hb dX5_isWorth_16 (by decide) ?_
      refine lv_goto (tgt := 21) hx hb dX5_isWorth_17 (by decide) ?_
      exact am_zretR hx hb hr hlocks (Or.inr rfl) (by first | rfl | (simp only [ac_isWorth, c_5, c_13, if_true, if_false, eq_self, not_true_eq_false, not_false_eq_true, ite_true, ite_false, ↓reduceIte]; done) | (simp [ac_isWorth, c_5, c_13]; done)) dX5_isWorth_21

set_option maxHeartbeats 4000000 in
set_option maxRecDepth 100000 in
theorem c_X5_isKind (l : Launch) (D : va_G) (w : va_W) (tys : List (ClassId × FieldType)) (x : Int32) : Met l yX5_isKind wsX5_isKind (am_rm 0 0) (va_Pc [.int x] (am_R nwL vwCl D w tys)) (vp_Si (fun r => r = ac_isKind x)) 0 0 am_No := by
  refine am_startR (cc := cX5_isKind) (maxL := 1) (ret := (some .boolean)) (by decide) rfl (Nat.le_of_ble_eq_true rfl) [(0, .int x)] rfl ?_
  intro p e s m below meth c ls hx hb hr hml hown hts hlocks hP hK hN hl
  have hown : s.vm.findClass RX5 = some m.cls := hown
  have ht := am_ht hts
  refine lv_iload_n hx hb dX5_isKind_0 rfl (lv_at hl 0 rfl) ?_
  refine lv_if_lt (tgt := 14) hx hb dX5_isKind_1 (by decide) (fun c_1 => ?_) (fun c_1 => ?_)
  · skip
    have c_1 : x < 0 := c_1
    refine lv_iconst (v := 0) hx hb dX5_isKind_14 (by decide) ?_
    exact am_zretR hx hb hr hlocks (Or.inl rfl) (by first | rfl | (simp only [ac_isKind, c_1, if_true, if_false, eq_self, not_true_eq_false, not_false_eq_true, ite_true, ite_false, ↓reduceIte]; done) | (simp [ac_isKind, c_1]; done)) dX5_isKind_15
  · skip
    have c_1 : ¬ (x < 0) := c_1
    refine lv_iload_n hx hb dX5_isKind_4 rfl (lv_at hl 0 rfl) ?_
    refine lv_bipush (v := 6) hx hb dX5_isKind_5 (by decide) ?_
    refine lv_icmp_ge (tgt := 14) hx hb dX5_isKind_7 (by decide) (fun c_7 => ?_) (fun c_7 => ?_)
    · skip
      have c_7 : 6 ≤ x := c_7
      refine lv_iconst (v := 0) hx hb dX5_isKind_14 (by decide) ?_
      exact am_zretR hx hb hr hlocks (Or.inl rfl) (by first | rfl | (simp only [ac_isKind, c_1, c_7, if_true, if_false, eq_self, not_true_eq_false, not_false_eq_true, ite_true, ite_false, ↓reduceIte]; done) | (simp [ac_isKind, c_1, c_7]; done)) dX5_isKind_15
    · skip
      have c_7 : ¬ (6 ≤ x) := c_7
      refine lv_iconst (v := 1) hx hb dX5_isKind_10 (by decide) ?_
      refine lv_goto (tgt := 15) hx hb dX5_isKind_11 (by decide) ?_
      exact am_zretR hx hb hr hlocks (Or.inr rfl) (by first | rfl | (simp only [ac_isKind, c_1, c_7, if_true, if_false, eq_self, not_true_eq_false, not_false_eq_true, ite_true, ite_false, ↓reduceIte]; done) | (simp [ac_isKind, c_1, c_7]; done)) dX5_isKind_15

set_option maxHeartbeats 4000000 in
set_option maxRecDepth 100000 in
theorem c_X5_isPart (l : Launch) (D : va_G) (w : va_W) (tys : List (ClassId × FieldType)) (x : Int32) : Met l yX5_isPart wsX5_isPart (am_rm 0 0) (va_Pc [.int x] (am_R nwL vwCl D w tys)) (vp_Si (fun r => r = ac_isPart x)) 0 0 am_No := by
  refine am_startR (cc := cX5_isPart) (maxL := 1) (ret := (some .boolean)) (by decide) rfl (Nat.le_of_ble_eq_true rfl) [(0, .int x)] rfl ?_
  intro p e s m below meth c ls hx hb hr hml hown hts hlocks hP hK hN hl
  have hown : s.vm.findClass RX5 = some m.cls := hown
  have ht := am_ht hts
  refine lv_iload_n hx hb dX5_isPart_0 rfl (lv_at hl 0 rfl) ?_
  refine lv_if_lt (tgt := 14) hx hb dX5_isPart_1 (by decide) (fun c_1 => ?_) (fun c_1 => ?_)
  · skip
    have c_1 : x < 0 := c_1
    refine lv_iconst (v := 0) hx hb dX5_isPart_14 (by decide) ?_
    exact am_zretR hx hb hr hlocks (Or.inl rfl) (by first | rfl | (simp only [ac_isPart, c_1, if_true, if_false, eq_self, not_true_eq_false, not_false_eq_true, ite_true, ite_false, ↓reduceIte]; done) | (simp [ac_isPart, c_1]; done)) dX5_isPart_15
  · skip
    have c_1 : ¬ (x < 0) := c_1
    refine lv_iload_n hx hb dX5_isPart_4 rfl (lv_at hl 0 rfl) ?_
    refine lv_bipush (v := 12) hx hb dX5_isPart_5 (by decide) ?_
    refine lv_icmp_ge (tgt := 14) hx hb dX5_isPart_7 (by decide) (fun c_7 => ?_) (fun c_7 => ?_)
    · skip
      have c_7 : 12 ≤ x := c_7
      refine lv_iconst (v := 0) hx hb dX5_isPart_14 (by decide) ?_
      exact am_zretR hx hb hr hlocks (Or.inl rfl) (by first | rfl | (simp only [ac_isPart, c_1, c_7, if_true, if_false, eq_self, not_true_eq_false, not_false_eq_true, ite_true, ite_false, ↓reduceIte]; done) | (simp [ac_isPart, c_1, c_7]; done)) dX5_isPart_15
    · skip
      have c_7 : ¬ (12 ≤ x) := c_7
      refine lv_iconst (v := 1) hx hb dX5_isPart_10 (by decide) ?_
      refine lv_goto (tgt := 15) hx hb dX5_isPart_11 (by decide) ?_
      exact am_zretR hx hb hr hlocks (Or.inr rfl) (by first | rfl | (simp only [ac_isPart, c_1, c_7, if_true, if_false, eq_self, not_true_eq_false, not_false_eq_true, ite_true, ite_false, ↓reduceIte]; done) | (simp [ac_isPart, c_1, c_7]; done)) dX5_isPart_15

set_option maxHeartbeats 4000000 in
set_option maxRecDepth 100000 in
theorem c_X5_has (l : Launch) (D : va_G) (w : va_W) (tys : List (ClassId × FieldType)) (x : Int32) (y : Int32) : Met l yX5_has wsX5_has (am_rm 0 0) (va_Pc [.int x, .int y] (am_R nwL vwCl D w tys)) (vp_Si (fun r => r = rc_has x y)) 0 0 am_No := by
  refine am_startR (cc := cX5_has) (maxL := 2) (ret := (some .boolean)) (by decide) rfl (Nat.le_of_ble_eq_true rfl) [(0, .int x), (1, .int y)] rfl ?_
  intro p e s m below meth c ls hx hb hr hml hown hts hlocks hP hK hN hl
  have hown : s.vm.findClass RX5 = some m.cls := hown
  have ht := am_ht hts
  refine lv_iload_n hx hb dX5_has_0 rfl (lv_at hl 0 rfl) ?_
  refine lv_iload_n hx hb dX5_has_1 rfl (lv_at hl 1 rfl) ?_
  refine lv_ishr hx hb dX5_has_2 ?_
  refine lv_iconst (v := 1) hx hb dX5_has_3 (by decide) ?_
  refine lv_iand hx hb dX5_has_4 ?_
  refine lv_iconst (v := 1) hx hb dX5_has_5 (by decide) ?_
  refine lv_icmp_ne (tgt := 13) hx hb dX5_has_6 (by decide) (fun c_6 => ?_) (fun c_6 => ?_)
  · skip
    have c_6 : ¬ ((x >>> (y &&& 31)) &&& 1) = 1 := c_6
    refine lv_iconst (v := 0) hx hb dX5_has_13 (by decide) ?_
    exact am_zretR hx hb hr hlocks (Or.inl rfl) (by first | rfl | (simp only [rc_has, c_6, if_true, if_false, eq_self, not_true_eq_false, not_false_eq_true, ite_true, ite_false, ↓reduceIte]; done) | (simp [rc_has, c_6]; done)) dX5_has_14
  · skip
    have c_6 : ((x >>> (y &&& 31)) &&& 1) = 1 := c_6
    refine lv_iconst (v := 1) hx hb dX5_has_9 (by decide) ?_
    refine lv_goto (tgt := 14) hx hb dX5_has_10 (by decide) ?_
    exact am_zretR hx hb hr hlocks (Or.inr rfl) (by first | rfl | (simp only [rc_has, c_6, if_true, if_false, eq_self, not_true_eq_false, not_false_eq_true, ite_true, ite_false, ↓reduceIte]; done) | (simp [rc_has, c_6]; done)) dX5_has_14

set_option maxHeartbeats 4000000 in
set_option maxRecDepth 100000 in
theorem c_X5_isAct (l : Launch) (D : va_G) (ad : Nat → Nat) (cI cL cZ : ClassId) (fi : Nat → Int32) (fl : Nat → Int64) (ai : Nat → Nat → Int32) (al : Nat → Nat → Int64) (x : Int32) : Met l yX5_isAct wsX5_isAct (am_rm 0 0) (va_Pc [.ref (ad 0), .int x] (am_R nwL vwCl D (rm_w ad cI cL cZ fi fl ai al) [(cI, .int), (cL, .long), (cZ, .boolean)])) (vp_Si (fun r => r = ac_hasAct (fi 0) x)) 0 0 am_No := by
  refine am_startR (cc := cX5_isAct) (maxL := 2) (ret := (some .boolean)) (by decide) rfl (Nat.le_of_ble_eq_true rfl) [(0, .ref (ad 0)), (1, .int x)] rfl ?_
  intro p e s m below meth c ls hx hb hr hml hown hts hlocks hP hK hN hl
  have hown : s.vm.findClass RX5 = some m.cls := hown
  have ht := am_ht hts
  have hin_X5 : ∀ w ∈ u_ws RX5 TX5 31, w ∈ wsX5_isAct := fun w h => List.mem_cons_of_mem _ (am_inX5 w h)
  have hf_86 := ht 430 (.fieldLink RX5 86 "ApartCostModel" "count" "I") rfl
  refine lv_iload_n hx hb dX5_isAct_0 rfl (lv_at hl 1 rfl) ?_
  refine lv_if_lt (tgt := 16) hx hb dX5_isAct_1 (by decide) (fun c_1 => ?_) (fun c_1 => ?_)
  · skip
    have c_1 : x < 0 := c_1
    refine lv_iconst (v := 0) hx hb dX5_isAct_16 (by decide) ?_
    exact am_zretR hx hb hr hlocks (Or.inl rfl) (by first | rfl | (simp only [ac_hasAct, c_1, if_true, if_false, eq_self, not_true_eq_false, not_false_eq_true, ite_true, ite_false, ↓reduceIte]; done) | (simp [ac_hasAct, c_1]; done)) dX5_isAct_17
  · skip
    have c_1 : ¬ (x < 0) := c_1
    refine lv_iload_n hx hb dX5_isAct_4 rfl (lv_at hl 1 rfl) ?_
    refine lv_aload_n hx hb dX5_isAct_5 rfl (lv_at hl 0 rfl) ?_
    refine va_get (D := D) (ci := 5) (v := .int (fi 0)) (C := RX5) (T := TX5) (N := 31) hx hb hts hin_X5 hown hK hP 0 rfl rfl 0 (by decide) hf_86 (fun _ h9 => h9) rfl dX5_isAct_6 ?_
    refine lv_icmp_ge (tgt := 16) hx hb dX5_isAct_9 (by decide) (fun c_9 => ?_) (fun c_9 => ?_)
    · skip
      have c_9 : (fi 0) ≤ x := c_9
      refine lv_iconst (v := 0) hx hb dX5_isAct_16 (by decide) ?_
      exact am_zretR hx hb hr hlocks (Or.inl rfl) (by first | rfl | (simp only [ac_hasAct, c_1, c_9, if_true, if_false, eq_self, not_true_eq_false, not_false_eq_true, ite_true, ite_false, ↓reduceIte]; done) | (simp [ac_hasAct, c_1, c_9]; done)) dX5_isAct_17
    · skip
      have c_9 : ¬ ((fi 0) ≤ x) := c_9
      refine lv_iconst (v := 1) hx hb dX5_isAct_12 (by decide) ?_
      refine lv_goto (tgt := 17) hx hb dX5_isAct_13 (by decide) ?_
      exact am_zretR hx hb hr hlocks (Or.inr rfl) (by first | rfl | (simp only [ac_hasAct, c_1, c_9, if_true, if_false, eq_self, not_true_eq_false, not_false_eq_true, ite_true, ite_false, ↓reduceIte]; done) | (simp [ac_hasAct, c_1, c_9]; done)) dX5_isAct_17

set_option maxHeartbeats 4000000 in
set_option maxRecDepth 100000 in
theorem c_X5_leadsTo (l : Launch) (D : va_G) (ad : Nat → Nat) (cI cL cZ : ClassId) (fi : Nat → Int32) (fl : Nat → Int64) (ai : Nat → Nat → Int32) (al : Nat → Nat → Int64) (a : Nat) (y9 : Int32) (na : Nat) (hna : fi 0 = nI na) (hnl : na ≤ 10) (ha : a < na) : Met l yX5_leadsTo wsX5_leadsTo (am_rm 0 0) (va_Pc [.ref (ad 0), .int (nI a), .int y9] (am_R nwL vwCl D (rm_w ad cI cL cZ fi fl ai al) [(cI, .int), (cL, .long), (cZ, .boolean)])) (vp_Si (fun r => r = rc_leads (ai 6) na a y9)) 0 0 am_No := by
  refine am_startR (cc := cX5_leadsTo) (maxL := 7) (ret := (some .boolean)) (by decide) rfl (Nat.le_of_ble_eq_true rfl) [(0, .ref (ad 0)), (1, .int (nI a)), (2, .int y9)] rfl ?_
  intro p e s m below meth c ls hx hb hr hml hown hts hlocks hP hK hN hl
  have hown : s.vm.findClass RX5 = some m.cls := hown
  have ht := am_ht hts
  have hin_X5 : ∀ w ∈ u_ws RX5 TX5 31, w ∈ wsX5_leadsTo := fun w h => List.mem_cons_of_mem _ (am_inX5 w h)
  have hf_27 := ht 436 (.fieldLink RX5 27 "ApartCostModel" "needs" "[Z") rfl
  have hf_86 := ht 430 (.fieldLink RX5 86 "ApartCostModel" "count" "I") rfl
  refine lv_iconst (v := 1) hx hb dX5_leadsTo_0 (by decide) ?_
  refine lv_iload_n hx hb dX5_leadsTo_1 rfl (lv_at hl 1 rfl) ?_
  refine lv_ishl hx hb dX5_leadsTo_2 ?_
  refine lv_istore_n (lv' := [(3, .int ((1 : Int32) <<< ((nI a) &&& 31))), (0, .ref (ad 0)), (1, .int (nI a)), (2, .int y9)]) hx hb dX5_leadsTo_3 rfl hl (by decide) rfl (fun ls hl => ?_)
  refine lv_iconst (v := 0) hx hb dX5_leadsTo_4 (by decide) ?_
  refine lv_istore (lv' := [(4, .int 0), (3, .int ((1 : Int32) <<< ((nI a) &&& 31))), (0, .ref (ad 0)), (1, .int (nI a)), (2, .int y9)]) hx hb dX5_leadsTo_5 hl (by decide) rfl (fun ls hl => ?_)
  refine am_loopR (σ := Nat) (fun q n9 ls => n9 = na - q ∧ q ≤ na ∧ lv_has ls 7 [(0, .ref (ad 0)), (1, .int (nI a)), (2, .int y9), (3, .int (rc_lt (ai 6) na ((1 : Int32) <<< (nI a &&& 31)) q)), (4, .int (nI q))]) ?_ 0 (na - 0) ls ⟨rfl, (by omega), lv_sub hl [2, 3, 4, 1, 0] rfl⟩
  rintro t n9 ls ⟨hn_7, hkt, hl⟩ ih_7
  refine lv_iload hx hb dX5_leadsTo_7 (lv_at hl 4 rfl) ?_
  refine lv_aload_n hx hb dX5_leadsTo_9 rfl (lv_at hl 0 rfl) ?_
  refine va_get (D := D) (ci := 5) (v := .int (fi 0)) (C := RX5) (T := TX5) (N := 31) hx hb hts hin_X5 hown hK hP 0 rfl rfl 0 (by decide) hf_86 (fun _ h9 => h9) rfl dX5_leadsTo_10 ?_
  refine lv_icmp_ge (tgt := 95) hx hb dX5_leadsTo_13 (by decide) (fun c_13 => ?_) (fun c_13 => ?_)
  · skip
    have c_13 : (fi 0) ≤ (nI t) := c_13
    have hke_13 : na ≤ t := (am_ge hna (by omega) (by omega)).mp c_13
    have hkq_13 : na = t := by omega
    subst hkq_13
    refine lv_iload_n hx hb dX5_leadsTo_95 rfl (lv_at hl 3 rfl) ?_
    refine lv_iload_n hx hb dX5_leadsTo_96 rfl (lv_at hl 2 rfl) ?_
    refine lv_ishr hx hb dX5_leadsTo_97 ?_
    refine lv_iconst (v := 1) hx hb dX5_leadsTo_98 (by decide) ?_
    refine lv_iand hx hb dX5_leadsTo_99 ?_
    refine lv_iconst (v := 1) hx hb dX5_leadsTo_100 (by decide) ?_
    refine lv_icmp_ne (tgt := 108) hx hb dX5_leadsTo_101 (by decide) (fun c_101 => ?_) (fun c_101 => ?_)
    · skip
      have c_101 : ¬ (((rc_lt (ai 6) na ((1 : Int32) <<< (nI a &&& 31)) na) >>> (y9 &&& 31)) &&& 1) = 1 := c_101
      refine lv_iconst (v := 0) hx hb dX5_leadsTo_108 (by decide) ?_
      exact am_zretR hx hb hr hlocks (Or.inl rfl) (by first | rfl | (simp only [rc_leads, c_13, c_101, if_true, if_false, eq_self, not_true_eq_false, not_false_eq_true, ite_true, ite_false, ↓reduceIte]; done) | (simp [rc_leads, c_13, c_101]; done)) dX5_leadsTo_109
    · skip
      have c_101 : (((rc_lt (ai 6) na ((1 : Int32) <<< (nI a &&& 31)) na) >>> (y9 &&& 31)) &&& 1) = 1 := c_101
      refine lv_iconst (v := 1) hx hb dX5_leadsTo_104 (by decide) ?_
      refine lv_goto (tgt := 109) hx hb dX5_leadsTo_105 (by decide) ?_
      exact am_zretR hx hb hr hlocks (Or.inr rfl) (by first | rfl | (simp only [rc_leads, c_13, c_101, if_true, if_false, eq_self, not_true_eq_false, not_false_eq_true, ite_true, ite_false, ↓reduceIte]; done) | (simp [rc_leads, c_13, c_101]; done)) dX5_leadsTo_109
  · skip
    have c_13 : ¬ ((fi 0) ≤ (nI t)) := c_13
    have hkl_13 : t < na := Nat.lt_of_not_le (fun z => c_13 ((am_ge hna (by omega) (by omega)).mpr z))
    refine lv_iconst (v := 0) hx hb dX5_leadsTo_16 (by decide) ?_
    refine lv_istore (lv' := [(5, .int 0), (0, .ref (ad 0)), (1, .int (nI a)), (2, .int y9), (3, .int (rc_lt (ai 6) na ((1 : Int32) <<< (nI a &&& 31)) t)), (4, .int (nI t))]) hx hb dX5_leadsTo_17 hl (by decide) rfl (fun ls hl => ?_)
    refine am_loopR (σ := Nat) (fun q n9 ls => n9 = na - q ∧ q ≤ na ∧ lv_has ls 7 [(0, .ref (ad 0)), (1, .int (nI a)), (2, .int y9), (3, .int (rc_lx (ai 6) na (rc_lt (ai 6) na ((1 : Int32) <<< (nI a &&& 31)) t) q)), (4, .int (nI t)), (5, .int (nI q))]) ?_ 0 (na - 0) ls ⟨rfl, (by omega), lv_sub hl [1, 2, 3, 4, 5, 0] rfl⟩
    rintro x n9 ls ⟨hn_19, hkx, hl⟩ ih_19
    refine lv_iload hx hb dX5_leadsTo_19 (lv_at hl 5 rfl) ?_
    refine lv_aload_n hx hb dX5_leadsTo_21 rfl (lv_at hl 0 rfl) ?_
    refine va_get (D := D) (ci := 5) (v := .int (fi 0)) (C := RX5) (T := TX5) (N := 31) hx hb hts hin_X5 hown hK hP 0 rfl rfl 0 (by decide) hf_86 (fun _ h9 => h9) rfl dX5_leadsTo_22 ?_
    refine lv_icmp_ge (tgt := 89) hx hb dX5_leadsTo_25 (by decide) (fun c_25 => ?_) (fun c_25 => ?_)
    · skip
      have c_25 : (fi 0) ≤ (nI x) := c_25
      have hke_25 : na ≤ x := (am_ge hna (by omega) (by omega)).mp c_25
      have hkq_25 : na = x := by omega
      subst hkq_25
      refine lv_iinc (v := nI (t + 1)) (lv' := [(4, .int (nI (t + 1))), (0, .ref (ad 0)), (1, .int (nI a)), (2, .int y9), (3, .int (rc_lx (ai 6) na (rc_lt (ai 6) na ((1 : Int32) <<< (nI a &&& 31)) t) na)), (5, .int (nI na))]) hx hb dX5_leadsTo_89 hl (k := 4) rfl (nI_1 t) (by decide) rfl (fun ls hl => ?_)
      refine lv_goto (tgt := 7) hx hb dX5_leadsTo_92 (by decide) ?_
      have e_7_0 : rc_lt (ai 6) na ((1 : Int32) <<< (nI a &&& 31)) (t + 1) = rc_lx (ai 6) na (rc_lt (ai 6) na ((1 : Int32) <<< (nI a &&& 31)) t) na := by first | rfl | (simp only [rc_lt, c_25, if_true, if_false, eq_self, not_true_eq_false, not_false_eq_true, ite_true, ite_false, ↓reduceIte]; done) | (simp [rc_lt, c_25]; done)
      refine ih_7 (t + 1) (na - (t + 1)) ls (by omega) ⟨rfl, (by omega), ?_⟩
      try dsimp only
      rw [e_7_0]
      exact lv_sub hl [1, 2, 3, 4, 0] rfl
    · skip
      have c_25 : ¬ ((fi 0) ≤ (nI x)) := c_25
      have hkl_25 : x < na := Nat.lt_of_not_le (fun z => c_25 ((am_ge hna (by omega) (by omega)).mpr z))
      refine lv_iconst (v := 0) hx hb dX5_leadsTo_28 (by decide) ?_
      refine lv_istore (lv' := [(6, .int 0), (0, .ref (ad 0)), (1, .int (nI a)), (2, .int y9), (3, .int (rc_lx (ai 6) na (rc_lt (ai 6) na ((1 : Int32) <<< (nI a &&& 31)) t) x)), (4, .int (nI t)), (5, .int (nI x))]) hx hb dX5_leadsTo_29 hl (by decide) rfl (fun ls hl => ?_)
      refine am_loopR (σ := Nat) (fun q n9 ls => n9 = na - q ∧ q ≤ na ∧ lv_has ls 7 [(0, .ref (ad 0)), (1, .int (nI a)), (2, .int y9), (3, .int (rc_ly (ai 6) x (rc_lx (ai 6) na (rc_lt (ai 6) na ((1 : Int32) <<< (nI a &&& 31)) t) x) q)), (4, .int (nI t)), (5, .int (nI x)), (6, .int (nI q))]) ?_ 0 (na - 0) ls ⟨rfl, (by omega), lv_sub hl [1, 2, 3, 4, 5, 6, 0] rfl⟩
      rintro y n9 ls ⟨hn_31, hky, hl⟩ ih_31
      refine lv_iload hx hb dX5_leadsTo_31 (lv_at hl 6 rfl) ?_
      refine lv_aload_n hx hb dX5_leadsTo_33 rfl (lv_at hl 0 rfl) ?_
      refine va_get (D := D) (ci := 5) (v := .int (fi 0)) (C := RX5) (T := TX5) (N := 31) hx hb hts hin_X5 hown hK hP 0 rfl rfl 0 (by decide) hf_86 (fun _ h9 => h9) rfl dX5_leadsTo_34 ?_
      refine lv_icmp_ge (tgt := 83) hx hb dX5_leadsTo_37 (by decide) (fun c_37 => ?_) (fun c_37 => ?_)
      · skip
        have c_37 : (fi 0) ≤ (nI y) := c_37
        have hke_37 : na ≤ y := (am_ge hna (by omega) (by omega)).mp c_37
        have hkq_37 : na = y := by omega
        subst hkq_37
        refine lv_iinc (v := nI (x + 1)) (lv' := [(5, .int (nI (x + 1))), (0, .ref (ad 0)), (1, .int (nI a)), (2, .int y9), (3, .int (rc_ly (ai 6) x (rc_lx (ai 6) na (rc_lt (ai 6) na ((1 : Int32) <<< (nI a &&& 31)) t) x) na)), (4, .int (nI t)), (6, .int (nI na))]) hx hb dX5_leadsTo_83 hl (k := 5) rfl (nI_1 x) (by decide) rfl (fun ls hl => ?_)
        refine lv_goto (tgt := 19) hx hb dX5_leadsTo_86 (by decide) ?_
        have e_19_0 : rc_lx (ai 6) na (rc_lt (ai 6) na ((1 : Int32) <<< (nI a &&& 31)) t) (x + 1) = rc_ly (ai 6) x (rc_lx (ai 6) na (rc_lt (ai 6) na ((1 : Int32) <<< (nI a &&& 31)) t) x) na := by first | rfl | (simp only [rc_lx, c_37, if_true, if_false, eq_self, not_true_eq_false, not_false_eq_true, ite_true, ite_false, ↓reduceIte]; done) | (simp [rc_lx, c_37]; done)
        refine ih_19 (x + 1) (na - (x + 1)) ls (by omega) ⟨rfl, (by omega), ?_⟩
        try dsimp only
        rw [e_19_0]
        exact lv_sub hl [1, 2, 3, 4, 5, 0] rfl
      · skip
        have c_37 : ¬ ((fi 0) ≤ (nI y)) := c_37
        have hkl_37 : y < na := Nat.lt_of_not_le (fun z => c_37 ((am_ge hna (by omega) (by omega)).mpr z))
        refine lv_iload_n hx hb dX5_leadsTo_40 rfl (lv_at hl 3 rfl) ?_
        refine lv_iload hx hb dX5_leadsTo_41 (lv_at hl 5 rfl) ?_
        refine lv_ishr hx hb dX5_leadsTo_43 ?_
        refine lv_iconst (v := 1) hx hb dX5_leadsTo_44 (by decide) ?_
        refine lv_iand hx hb dX5_leadsTo_45 ?_
        refine lv_iconst (v := 1) hx hb dX5_leadsTo_46 (by decide) ?_
        refine lv_icmp_ne (tgt := 75) hx hb dX5_leadsTo_47 (by decide) (fun c_47 => ?_) (fun c_47 => ?_)
        · skip
          have c_47 : ¬ (((rc_ly (ai 6) x (rc_lx (ai 6) na (rc_lt (ai 6) na ((1 : Int32) <<< (nI a &&& 31)) t) x) y) >>> ((nI x) &&& 31)) &&& 1) = 1 := c_47
          refine lv_iload_n hx hb dX5_leadsTo_75 rfl (lv_at hl 3 rfl) ?_
          refine lv_istore_n (lv' := [(3, .int (rc_ly (ai 6) x (rc_lx (ai 6) na (rc_lt (ai 6) na ((1 : Int32) <<< (nI a &&& 31)) t) x) y)), (0, .ref (ad 0)), (1, .int (nI a)), (2, .int y9), (4, .int (nI t)), (5, .int (nI x)), (6, .int (nI y))]) hx hb dX5_leadsTo_76 rfl hl (by decide) rfl (fun ls hl => ?_)
          refine lv_iinc (v := nI (y + 1)) (lv' := [(6, .int (nI (y + 1))), (3, .int (rc_ly (ai 6) x (rc_lx (ai 6) na (rc_lt (ai 6) na ((1 : Int32) <<< (nI a &&& 31)) t) x) y)), (0, .ref (ad 0)), (1, .int (nI a)), (2, .int y9), (4, .int (nI t)), (5, .int (nI x))]) hx hb dX5_leadsTo_77 hl (k := 6) rfl (nI_1 y) (by decide) rfl (fun ls hl => ?_)
          refine lv_goto (tgt := 31) hx hb dX5_leadsTo_80 (by decide) ?_
          have e_31_0 : rc_ly (ai 6) x (rc_lx (ai 6) na (rc_lt (ai 6) na ((1 : Int32) <<< (nI a &&& 31)) t) x) (y + 1) = rc_ly (ai 6) x (rc_lx (ai 6) na (rc_lt (ai 6) na ((1 : Int32) <<< (nI a &&& 31)) t) x) y := by first | rfl | (simp only [rc_ly, c_37, c_47, if_true, if_false, eq_self, not_true_eq_false, not_false_eq_true, ite_true, ite_false, ↓reduceIte]; done) | (simp [rc_ly, c_37, c_47]; done)
          refine ih_31 (y + 1) (na - (y + 1)) ls (by omega) ⟨rfl, (by omega), ?_⟩
          try dsimp only
          rw [e_31_0]
          exact lv_sub hl [2, 3, 4, 1, 5, 6, 0] rfl
        · skip
          have c_47 : (((rc_ly (ai 6) x (rc_lx (ai 6) na (rc_lt (ai 6) na ((1 : Int32) <<< (nI a &&& 31)) t) x) y) >>> ((nI x) &&& 31)) &&& 1) = 1 := c_47
          refine lv_aload_n hx hb dX5_leadsTo_50 rfl (lv_at hl 0 rfl) ?_
          refine va_get (D := D) (ci := 5) (v := .ref (ad 6)) (C := RX5) (T := TX5) (N := 31) hx hb hts hin_X5 hown hK hP 0 rfl rfl 6 (by decide) hf_27 (fun _ h9 => h9) rfl dX5_leadsTo_51 ?_
          refine lv_bipush (v := 10) hx hb dX5_leadsTo_54 (by decide) ?_
          refine lv_iload hx hb dX5_leadsTo_56 (lv_at hl 5 rfl) ?_
          refine lv_imul hx hb dX5_leadsTo_58 ?_
          refine lv_iload hx hb dX5_leadsTo_59 (lv_at hl 6 rfl) ?_
          refine lv_iadd hx hb dX5_leadsTo_61 ?_
          refine am_zald hx hb hK hP 6 2 rfl rfl (10 * x + y) (am_x10 x y) (by omega) (by decide) dX5_leadsTo_62 ?_
          refine lv_if_eq (tgt := 75) hx hb dX5_leadsTo_63 (by decide) (fun c_63 => ?_) (fun c_63 => ?_)
          · skip
            have c_63 : ((ai 6) (10 * x + y)) = 0 := c_63
            refine lv_iload_n hx hb dX5_leadsTo_75 rfl (lv_at hl 3 rfl) ?_
            refine lv_istore_n (lv' := [(3, .int (rc_ly (ai 6) x (rc_lx (ai 6) na (rc_lt (ai 6) na ((1 : Int32) <<< (nI a &&& 31)) t) x) y)), (0, .ref (ad 0)), (1, .int (nI a)), (2, .int y9), (4, .int (nI t)), (5, .int (nI x)), (6, .int (nI y))]) hx hb dX5_leadsTo_76 rfl hl (by decide) rfl (fun ls hl => ?_)
            refine lv_iinc (v := nI (y + 1)) (lv' := [(6, .int (nI (y + 1))), (3, .int (rc_ly (ai 6) x (rc_lx (ai 6) na (rc_lt (ai 6) na ((1 : Int32) <<< (nI a &&& 31)) t) x) y)), (0, .ref (ad 0)), (1, .int (nI a)), (2, .int y9), (4, .int (nI t)), (5, .int (nI x))]) hx hb dX5_leadsTo_77 hl (k := 6) rfl (nI_1 y) (by decide) rfl (fun ls hl => ?_)
            refine lv_goto (tgt := 31) hx hb dX5_leadsTo_80 (by decide) ?_
            have e_31_0 : rc_ly (ai 6) x (rc_lx (ai 6) na (rc_lt (ai 6) na ((1 : Int32) <<< (nI a &&& 31)) t) x) (y + 1) = rc_ly (ai 6) x (rc_lx (ai 6) na (rc_lt (ai 6) na ((1 : Int32) <<< (nI a &&& 31)) t) x) y := by first | rfl | (simp only [rc_ly, c_37, c_47, c_63, if_true, if_false, eq_self, not_true_eq_false, not_false_eq_true, ite_true, ite_false, ↓reduceIte]; done) | (simp [rc_ly, c_37, c_47, c_63]; done)
            refine ih_31 (y + 1) (na - (y + 1)) ls (by omega) ⟨rfl, (by omega), ?_⟩
            try dsimp only
            rw [e_31_0]
            exact lv_sub hl [2, 3, 4, 1, 5, 6, 0] rfl
          · skip
            have c_63 : ¬ (((ai 6) (10 * x + y)) = 0) := c_63
            refine lv_iload_n hx hb dX5_leadsTo_66 rfl (lv_at hl 3 rfl) ?_
            refine lv_iconst (v := 1) hx hb dX5_leadsTo_67 (by decide) ?_
            refine lv_iload hx hb dX5_leadsTo_68 (lv_at hl 6 rfl) ?_
            refine lv_ishl hx hb dX5_leadsTo_70 ?_
            refine lv_ior hx hb dX5_leadsTo_71 ?_
            refine lv_goto (tgt := 76) hx hb dX5_leadsTo_72 (by decide) ?_
            refine lv_istore_n (lv' := [(3, .int ((rc_ly (ai 6) x (rc_lx (ai 6) na (rc_lt (ai 6) na ((1 : Int32) <<< (nI a &&& 31)) t) x) y) ||| ((1 : Int32) <<< ((nI y) &&& 31)))), (0, .ref (ad 0)), (1, .int (nI a)), (2, .int y9), (4, .int (nI t)), (5, .int (nI x)), (6, .int (nI y))]) hx hb dX5_leadsTo_76 rfl hl (by decide) rfl (fun ls hl => ?_)
            refine lv_iinc (v := nI (y + 1)) (lv' := [(6, .int (nI (y + 1))), (3, .int ((rc_ly (ai 6) x (rc_lx (ai 6) na (rc_lt (ai 6) na ((1 : Int32) <<< (nI a &&& 31)) t) x) y) ||| ((1 : Int32) <<< ((nI y) &&& 31)))), (0, .ref (ad 0)), (1, .int (nI a)), (2, .int y9), (4, .int (nI t)), (5, .int (nI x))]) hx hb dX5_leadsTo_77 hl (k := 6) rfl (nI_1 y) (by decide) rfl (fun ls hl => ?_)
            refine lv_goto (tgt := 31) hx hb dX5_leadsTo_80 (by decide) ?_
            have e_31_0 : rc_ly (ai 6) x (rc_lx (ai 6) na (rc_lt (ai 6) na ((1 : Int32) <<< (nI a &&& 31)) t) x) (y + 1) = (rc_ly (ai 6) x (rc_lx (ai 6) na (rc_lt (ai 6) na ((1 : Int32) <<< (nI a &&& 31)) t) x) y) ||| ((1 : Int32) <<< ((nI y) &&& 31)) := by first | rfl | (simp only [rc_ly, c_37, c_47, c_63, if_true, if_false, eq_self, not_true_eq_false, not_false_eq_true, ite_true, ite_false, ↓reduceIte]; done) | (simp [rc_ly, c_37, c_47, c_63]; done)
            refine ih_31 (y + 1) (na - (y + 1)) ls (by omega) ⟨rfl, (by omega), ?_⟩
            try dsimp only
            rw [e_31_0]
            exact lv_sub hl [2, 3, 4, 1, 5, 6, 0] rfl

set_option maxHeartbeats 4000000 in
set_option maxRecDepth 100000 in
theorem c_X5_isClosed (l : Launch) (D : va_G) (ad : Nat → Nat) (cI cL cZ : ClassId) (fi : Nat → Int32) (fl : Nat → Int64) (ai : Nat → Nat → Int32) (al : Nat → Nat → Int64) (x : Int32) (na : Nat) (hna : fi 0 = nI na) (hnl : na ≤ 10) : Met l yX5_isClosed wsX5_isClosed (am_rm 1 21) (va_Pc [.ref (ad 0), .int x] (am_R nwL vwCl D (rm_w ad cI cL cZ fi fl ai al) [(cI, .int), (cL, .long), (cZ, .boolean)])) (vp_Si (fun r => r = rc_ca (ai 6) x na na)) 0 0 am_No := by
  refine am_startR (cc := cX5_isClosed) (maxL := 5) (ret := (some .boolean)) (by decide) rfl (Nat.le_of_ble_eq_true rfl) [(0, .ref (ad 0)), (1, .int x)] rfl ?_
  intro p e s m below meth c ls hx hb hr hml hown hts hlocks hP hK hN hl
  have hown : s.vm.findClass RX5 = some m.cls := hown
  have ht := am_ht hts
  have hin_X5 : ∀ w ∈ u_ws RX5 TX5 31, w ∈ wsX5_isClosed := fun w h => List.mem_cons_of_mem _ (am_inX5 w h)
  have hf_27 := ht 436 (.fieldLink RX5 27 "ApartCostModel" "needs" "[Z") rfl
  have hf_86 := ht 430 (.fieldLink RX5 86 "ApartCostModel" "count" "I") rfl
  refine lv_iconst (v := 1) hx hb dX5_isClosed_0 (by decide) ?_
  refine lv_istore_n (lv' := [(2, .int 1), (0, .ref (ad 0)), (1, .int x)]) hx hb dX5_isClosed_1 rfl hl (by decide) rfl (fun ls hl => ?_)
  refine lv_iconst (v := 0) hx hb dX5_isClosed_2 (by decide) ?_
  refine lv_istore_n (lv' := [(3, .int 0), (2, .int 1), (0, .ref (ad 0)), (1, .int x)]) hx hb dX5_isClosed_3 rfl hl (by decide) rfl (fun ls hl => ?_)
  refine am_loopR (σ := Nat) (fun q n9 ls => n9 = na - q ∧ q ≤ na ∧ lv_has ls 5 [(0, .ref (ad 0)), (1, .int x), (2, .int (rc_ca (ai 6) x na q)), (3, .int (nI q))]) ?_ 0 (na - 0) ls ⟨rfl, (by omega), lv_sub hl [2, 3, 1, 0] rfl⟩
  rintro a n9 ls ⟨hn_4, hka, hl⟩ ih_4
  refine lv_iload_n hx hb dX5_isClosed_4 rfl (lv_at hl 3 rfl) ?_
  refine lv_aload_n hx hb dX5_isClosed_5 rfl (lv_at hl 0 rfl) ?_
  refine va_get (D := D) (ci := 5) (v := .int (fi 0)) (C := RX5) (T := TX5) (N := 31) hx hb hts hin_X5 hown hK hP 0 rfl rfl 0 (by decide) hf_86 (fun _ h9 => h9) rfl dX5_isClosed_6 ?_
  refine lv_icmp_ge (tgt := 78) hx hb dX5_isClosed_9 (by decide) (fun c_9 => ?_) (fun c_9 => ?_)
  · skip
    have c_9 : (fi 0) ≤ (nI a) := c_9
    have hke_9 : na ≤ a := (am_ge hna (by omega) (by omega)).mp c_9
    have hkq_9 : na = a := by omega
    subst hkq_9
    refine lv_iload_n hx hb dX5_isClosed_78 rfl (lv_at hl 2 rfl) ?_
    exact am_zretR hx hb hr hlocks (rc_ca_z _ _ _ _) (by first | rfl | (simp only [c_9, if_true, if_false, eq_self, not_true_eq_false, not_false_eq_true, ite_true, ite_false, ↓reduceIte]; done) | (simp [c_9]; done)) dX5_isClosed_79
  · skip
    have c_9 : ¬ ((fi 0) ≤ (nI a)) := c_9
    have hkl_9 : a < na := Nat.lt_of_not_le (fun z => c_9 ((am_ge hna (by omega) (by omega)).mpr z))
    refine lv_iconst (v := 0) hx hb dX5_isClosed_12 (by decide) ?_
    refine lv_istore (lv' := [(4, .int 0), (0, .ref (ad 0)), (1, .int x), (2, .int (rc_ca (ai 6) x na a)), (3, .int (nI a))]) hx hb dX5_isClosed_13 hl (by decide) rfl (fun ls hl => ?_)
    refine am_loopR (σ := Nat) (fun q n9 ls => n9 = na - q ∧ q ≤ na ∧ lv_has ls 5 [(0, .ref (ad 0)), (1, .int x), (2, .int (rc_cb (ai 6) x a (rc_ca (ai 6) x na a) q)), (3, .int (nI a)), (4, .int (nI q))]) ?_ 0 (na - 0) ls ⟨rfl, (by omega), lv_sub hl [1, 2, 3, 4, 0] rfl⟩
    rintro b n9 ls ⟨hn_15, hkb, hl⟩ ih_15
    refine lv_iload hx hb dX5_isClosed_15 (lv_at hl 4 rfl) ?_
    refine lv_aload_n hx hb dX5_isClosed_17 rfl (lv_at hl 0 rfl) ?_
    refine va_get (D := D) (ci := 5) (v := .int (fi 0)) (C := RX5) (T := TX5) (N := 31) hx hb hts hin_X5 hown hK hP 0 rfl rfl 0 (by decide) hf_86 (fun _ h9 => h9) rfl dX5_isClosed_18 ?_
    refine lv_icmp_ge (tgt := 72) hx hb dX5_isClosed_21 (by decide) (fun c_21 => ?_) (fun c_21 => ?_)
    · skip
      have c_21 : (fi 0) ≤ (nI b) := c_21
      have hke_21 : na ≤ b := (am_ge hna (by omega) (by omega)).mp c_21
      have hkq_21 : na = b := by omega
      subst hkq_21
      refine lv_iinc (v := nI (a + 1)) (lv' := [(3, .int (nI (a + 1))), (0, .ref (ad 0)), (1, .int x), (2, .int (rc_cb (ai 6) x a (rc_ca (ai 6) x na a) na)), (4, .int (nI na))]) hx hb dX5_isClosed_72 hl (k := 3) rfl (nI_1 a) (by decide) rfl (fun ls hl => ?_)
      refine lv_goto (tgt := 4) hx hb dX5_isClosed_75 (by decide) ?_
      have e_4_0 : rc_ca (ai 6) x na (a + 1) = rc_cb (ai 6) x a (rc_ca (ai 6) x na a) na := by first | rfl | (simp only [rc_ca, c_21, if_true, if_false, eq_self, not_true_eq_false, not_false_eq_true, ite_true, ite_false, ↓reduceIte]; done) | (simp [rc_ca, c_21]; done)
      refine ih_4 (a + 1) (na - (a + 1)) ls (by omega) ⟨rfl, (by omega), ?_⟩
      try dsimp only
      rw [e_4_0]
      exact lv_sub hl [1, 2, 3, 0] rfl
    · skip
      have c_21 : ¬ ((fi 0) ≤ (nI b)) := c_21
      have hkl_21 : b < na := Nat.lt_of_not_le (fun z => c_21 ((am_ge hna (by omega) (by omega)).mpr z))
      refine lv_iload_n hx hb dX5_isClosed_24 rfl (lv_at hl 2 rfl) ?_
      refine lv_if_eq (tgt := 64) hx hb dX5_isClosed_25 (by decide) (fun c_25 => ?_) (fun c_25 => ?_)
      · skip
        have c_25 : (rc_cb (ai 6) x a (rc_ca (ai 6) x na a) b) = 0 := c_25
        refine lv_iconst (v := 0) hx hb dX5_isClosed_64 (by decide) ?_
        refine lv_istore_n (lv' := [(2, .int 0), (0, .ref (ad 0)), (1, .int x), (3, .int (nI a)), (4, .int (nI b))]) hx hb dX5_isClosed_65 rfl hl (by decide) rfl (fun ls hl => ?_)
        refine lv_iinc (v := nI (b + 1)) (lv' := [(4, .int (nI (b + 1))), (2, .int 0), (0, .ref (ad 0)), (1, .int x), (3, .int (nI a))]) hx hb dX5_isClosed_66 hl (k := 4) rfl (nI_1 b) (by decide) rfl (fun ls hl => ?_)
        refine lv_goto (tgt := 15) hx hb dX5_isClosed_69 (by decide) ?_
        have e_15_0 : rc_cb (ai 6) x a (rc_ca (ai 6) x na a) (b + 1) = 0 := by first | rfl | (simp only [rc_cb, c_21, c_25, if_true, if_false, eq_self, not_true_eq_false, not_false_eq_true, ite_true, ite_false, ↓reduceIte]; done) | (simp [rc_cb, c_21, c_25]; done)
        refine ih_15 (b + 1) (na - (b + 1)) ls (by omega) ⟨rfl, (by omega), ?_⟩
        try dsimp only
        rw [e_15_0]
        exact lv_sub hl [2, 3, 1, 4, 0] rfl
      · skip
        have c_25 : ¬ ((rc_cb (ai 6) x a (rc_ca (ai 6) x na a) b) = 0) := c_25
        refine lv_iload_n hx hb dX5_isClosed_28 rfl (lv_at hl 1 rfl) ?_
        refine lv_iload_n hx hb dX5_isClosed_29 rfl (lv_at hl 3 rfl) ?_
        refine am_callRi (W.runS (As := [.int x, .int (nI a)]) (rest := []) ⟨hx, hb, hml, hown, hts⟩ (c_X5_has l D _ _ x (nI a)) (va_cwS 2 hts (am_gS (am_in 554 rfl) (am_in 555 rfl) (am_in 35 rfl) (am_in 556 rfl)) rfl rfl rfl (by decide +kernel) ⟨Nat.le_of_ble_eq_true rfl, Nat.le_of_ble_eq_true rfl⟩) (am_preSR hP hK hN) rfl rfl hl.1 rfl (lv_room (Nat.le_of_ble_eq_true rfl)) dX5_isClosed_30 ⟨Nat.zero_le _, Nat.zero_le _⟩) ?_
        refine lv_if_eq (tgt := 60) hx hb dX5_isClosed_33 (by decide) (fun c_33 => ?_) (fun c_33 => ?_)
        · skip
          have c_33 : (rc_has x (nI a)) = 0 := c_33
          refine lv_iconst (v := 1) hx hb dX5_isClosed_60 (by decide) ?_
          refine lv_goto (tgt := 65) hx hb dX5_isClosed_61 (by decide) ?_
          refine lv_istore_n (lv' := [(2, .int 1), (0, .ref (ad 0)), (1, .int x), (3, .int (nI a)), (4, .int (nI b))]) hx hb dX5_isClosed_65 rfl hl (by decide) rfl (fun ls hl => ?_)
          refine lv_iinc (v := nI (b + 1)) (lv' := [(4, .int (nI (b + 1))), (2, .int 1), (0, .ref (ad 0)), (1, .int x), (3, .int (nI a))]) hx hb dX5_isClosed_66 hl (k := 4) rfl (nI_1 b) (by decide) rfl (fun ls hl => ?_)
          refine lv_goto (tgt := 15) hx hb dX5_isClosed_69 (by decide) ?_
          have e_15_0 : rc_cb (ai 6) x a (rc_ca (ai 6) x na a) (b + 1) = 1 := by first | rfl | (simp only [rc_cb, c_21, c_25, c_33, if_true, if_false, eq_self, not_true_eq_false, not_false_eq_true, ite_true, ite_false, ↓reduceIte]; done) | (simp [rc_cb, c_21, c_25, c_33]; done)
          refine ih_15 (b + 1) (na - (b + 1)) ls (by omega) ⟨rfl, (by omega), ?_⟩
          try dsimp only
          rw [e_15_0]
          exact lv_sub hl [2, 3, 1, 4, 0] rfl
        · skip
          have c_33 : ¬ ((rc_has x (nI a)) = 0) := c_33
          refine lv_aload_n hx hb dX5_isClosed_36 rfl (lv_at hl 0 rfl) ?_
          refine va_get (D := D) (ci := 5) (v := .ref (ad 6)) (C := RX5) (T := TX5) (N := 31) hx hb hts hin_X5 hown hK hP 0 rfl rfl 6 (by decide) hf_27 (fun _ h9 => h9) rfl dX5_isClosed_37 ?_
          refine lv_bipush (v := 10) hx hb dX5_isClosed_40 (by decide) ?_
          refine lv_iload_n hx hb dX5_isClosed_42 rfl (lv_at hl 3 rfl) ?_
          refine lv_imul hx hb dX5_isClosed_43 ?_
          refine lv_iload hx hb dX5_isClosed_44 (lv_at hl 4 rfl) ?_
          refine lv_iadd hx hb dX5_isClosed_46 ?_
          refine am_zald hx hb hK hP 6 2 rfl rfl (10 * a + b) (am_x10 a b) (by omega) (by decide) dX5_isClosed_47 ?_
          refine lv_if_eq (tgt := 60) hx hb dX5_isClosed_48 (by decide) (fun c_48 => ?_) (fun c_48 => ?_)
          · skip
            have c_48 : ((ai 6) (10 * a + b)) = 0 := c_48
            refine lv_iconst (v := 1) hx hb dX5_isClosed_60 (by decide) ?_
            refine lv_goto (tgt := 65) hx hb dX5_isClosed_61 (by decide) ?_
            refine lv_istore_n (lv' := [(2, .int 1), (0, .ref (ad 0)), (1, .int x), (3, .int (nI a)), (4, .int (nI b))]) hx hb dX5_isClosed_65 rfl hl (by decide) rfl (fun ls hl => ?_)
            refine lv_iinc (v := nI (b + 1)) (lv' := [(4, .int (nI (b + 1))), (2, .int 1), (0, .ref (ad 0)), (1, .int x), (3, .int (nI a))]) hx hb dX5_isClosed_66 hl (k := 4) rfl (nI_1 b) (by decide) rfl (fun ls hl => ?_)
            refine lv_goto (tgt := 15) hx hb dX5_isClosed_69 (by decide) ?_
            have e_15_0 : rc_cb (ai 6) x a (rc_ca (ai 6) x na a) (b + 1) = 1 := by first | rfl | (simp only [rc_cb, c_21, c_25, c_33, c_48, if_true, if_false, eq_self, not_true_eq_false, not_false_eq_true, ite_true, ite_false, ↓reduceIte]; done) | (simp [rc_cb, c_21, c_25, c_33, c_48]; done)
            refine ih_15 (b + 1) (na - (b + 1)) ls (by omega) ⟨rfl, (by omega), ?_⟩
            try dsimp only
            rw [e_15_0]
            exact lv_sub hl [2, 3, 1, 4, 0] rfl
          · skip
            have c_48 : ¬ (((ai 6) (10 * a + b)) = 0) := c_48
            refine lv_iload_n hx hb dX5_isClosed_51 rfl (lv_at hl 1 rfl) ?_
            refine lv_iload hx hb dX5_isClosed_52 (lv_at hl 4 rfl) ?_
            refine am_callRi (W.runS (As := [.int x, .int (nI b)]) (rest := []) ⟨hx, hb, hml, hown, hts⟩ (c_X5_has l D _ _ x (nI b)) (va_cwS 2 hts (am_gS (am_in 554 rfl) (am_in 555 rfl) (am_in 35 rfl) (am_in 556 rfl)) rfl rfl rfl (by decide +kernel) ⟨Nat.le_of_ble_eq_true rfl, Nat.le_of_ble_eq_true rfl⟩) (am_preSR hP hK hN) rfl rfl hl.1 rfl (lv_room (Nat.le_of_ble_eq_true rfl)) dX5_isClosed_54 ⟨Nat.zero_le _, Nat.zero_le _⟩) ?_
            refine lv_if_eq (tgt := 64) hx hb dX5_isClosed_57 (by decide) (fun c_57 => ?_) (fun c_57 => ?_)
            · skip
              have c_57 : (rc_has x (nI b)) = 0 := c_57
              refine lv_iconst (v := 0) hx hb dX5_isClosed_64 (by decide) ?_
              refine lv_istore_n (lv' := [(2, .int 0), (0, .ref (ad 0)), (1, .int x), (3, .int (nI a)), (4, .int (nI b))]) hx hb dX5_isClosed_65 rfl hl (by decide) rfl (fun ls hl => ?_)
              refine lv_iinc (v := nI (b + 1)) (lv' := [(4, .int (nI (b + 1))), (2, .int 0), (0, .ref (ad 0)), (1, .int x), (3, .int (nI a))]) hx hb dX5_isClosed_66 hl (k := 4) rfl (nI_1 b) (by decide) rfl (fun ls hl => ?_)
              refine lv_goto (tgt := 15) hx hb dX5_isClosed_69 (by decide) ?_
              have e_15_0 : rc_cb (ai 6) x a (rc_ca (ai 6) x na a) (b + 1) = 0 := by first | rfl | (simp only [rc_cb, c_21, c_25, c_33, c_48, c_57, if_true, if_false, eq_self, not_true_eq_false, not_false_eq_true, ite_true, ite_false, ↓reduceIte]; done) | (simp [rc_cb, c_21, c_25, c_33, c_48, c_57]; done)
              refine ih_15 (b + 1) (na - (b + 1)) ls (by omega) ⟨rfl, (by omega), ?_⟩
              try dsimp only
              rw [e_15_0]
              exact lv_sub hl [2, 3, 1, 4, 0] rfl
            · skip
              have c_57 : ¬ ((rc_has x (nI b)) = 0) := c_57
              refine lv_iconst (v := 1) hx hb dX5_isClosed_60 (by decide) ?_
              refine lv_goto (tgt := 65) hx hb dX5_isClosed_61 (by decide) ?_
              refine lv_istore_n (lv' := [(2, .int 1), (0, .ref (ad 0)), (1, .int x), (3, .int (nI a)), (4, .int (nI b))]) hx hb dX5_isClosed_65 rfl hl (by decide) rfl (fun ls hl => ?_)
              refine lv_iinc (v := nI (b + 1)) (lv' := [(4, .int (nI (b + 1))), (2, .int 1), (0, .ref (ad 0)), (1, .int x), (3, .int (nI a))]) hx hb dX5_isClosed_66 hl (k := 4) rfl (nI_1 b) (by decide) rfl (fun ls hl => ?_)
              refine lv_goto (tgt := 15) hx hb dX5_isClosed_69 (by decide) ?_
              have e_15_0 : rc_cb (ai 6) x a (rc_ca (ai 6) x na a) (b + 1) = 1 := by first | rfl | (simp only [rc_cb, c_21, c_25, c_33, c_48, c_57, if_true, if_false, eq_self, not_true_eq_false, not_false_eq_true, ite_true, ite_false, ↓reduceIte]; done) | (simp [rc_cb, c_21, c_25, c_33, c_48, c_57]; done)
              refine ih_15 (b + 1) (na - (b + 1)) ls (by omega) ⟨rfl, (by omega), ?_⟩
              try dsimp only
              rw [e_15_0]
              exact lv_sub hl [2, 3, 1, 4, 0] rfl

set_option maxHeartbeats 4000000 in
set_option maxRecDepth 100000 in
theorem c_X5_states (l : Launch) (D : va_G) (ad : Nat → Nat) (cI cL cZ : ClassId) (fi : Nat → Int32) (fl : Nat → Int64) (ai : Nat → Nat → Int32) (al : Nat → Nat → Int64) (na : Nat) (hna : fi 0 = nI na) (hnl : na ≤ 10) : Met l yX5_states wsX5_states (am_rm 2 45) (va_Pc [.ref (ad 0)] (am_R nwL vwCl D (rm_w ad cI cL cZ fi fl ai al) [(cI, .int), (cL, .long), (cZ, .boolean)])) (vp_Sl (fun r => r = rc_st (ai 6) na (2 ^ na - 1))) 0 0 am_No := by
  refine am_startR (cc := cX5_states) (maxL := 7) (ret := (some .long)) (by decide) rfl (Nat.le_of_ble_eq_true rfl) [(0, .ref (ad 0))] rfl ?_
  intro p e s m below meth c ls hx hb hr hml hown hts hlocks hP hK hN hl
  have hown : s.vm.findClass RX5 = some m.cls := hown
  have ht := am_ht hts
  have hin_X5 : ∀ w ∈ u_ws RX5 TX5 31, w ∈ wsX5_states := fun w h => List.mem_cons_of_mem _ (am_inX5 w h)
  have hf_27 := ht 436 (.fieldLink RX5 27 "ApartCostModel" "needs" "[Z") rfl
  have hf_86 := ht 430 (.fieldLink RX5 86 "ApartCostModel" "count" "I") rfl
  have hp2 := am_p2 hnl
  refine lv_lconst (v := 1) hx hb dX5_states_0 (by decide) ?_
  refine lv_lstore_n (lv' := [(1, .long 1), (0, .ref (ad 0))]) hx hb dX5_states_1 rfl hl (by decide) rfl (fun ls hl => ?_)
  refine lv_iconst (v := 1) hx hb dX5_states_2 (by decide) ?_
  refine lv_istore_n (lv' := [(3, .int 1), (1, .long 1), (0, .ref (ad 0))]) hx hb dX5_states_3 rfl hl (by decide) rfl (fun ls hl => ?_)
  refine am_loopR (σ := Nat) (fun q n9 ls => n9 = 2 ^ na - 1 - q ∧ q ≤ 2 ^ na - 1 ∧ lv_has ls 7 [(0, .ref (ad 0)), (1, .long (rc_st (ai 6) na q)), (3, .int (nI (q + 1)))]) ?_ 0 (2 ^ na - 1 - 0) ls ⟨rfl, (by omega), lv_sub hl [2, 1, 0] rfl⟩
  rintro k n9 ls ⟨hn_4, hk, hl⟩ ih_4
  refine lv_iload_n hx hb dX5_states_4 rfl (lv_at hl 2 rfl) ?_
  refine lv_iconst (v := 1) hx hb dX5_states_5 (by decide) ?_
  refine lv_aload_n hx hb dX5_states_6 rfl (lv_at hl 0 rfl) ?_
  refine va_get (D := D) (ci := 5) (v := .int (fi 0)) (C := RX5) (T := TX5) (N := 31) hx hb hts hin_X5 hown hK hP 0 rfl rfl 0 (by decide) hf_86 (fun _ h9 => h9) rfl dX5_states_7 ?_
  refine lv_ishl hx hb dX5_states_10 ?_
  refine am_topi (am_shlc hna hnl) ?_
  refine lv_icmp_ge (tgt := 122) hx hb dX5_states_11 (by decide) (fun c_11 => ?_) (fun c_11 => ?_)
  · skip
    have c_11 : (nI (2 ^ na)) ≤ (nI (k + 1)) := c_11
    have hkq : 2 ^ na - 1 = k := by have := (am_ge (rfl : nI (2 ^ na) = nI (2 ^ na)) (by omega) (by omega)).mp c_11; omega
    subst hkq
    refine lv_lload_n hx hb dX5_states_122 rfl (lv_at hl 1 rfl) ?_
    exact am_lretR hx hb hr hlocks (by first | rfl | (simp only [c_11, if_true, if_false, eq_self, not_true_eq_false, not_false_eq_true, ite_true, ite_false, ↓reduceIte]; done) | (simp [c_11]; done)) dX5_states_123
  · skip
    have c_11 : ¬ ((nI (2 ^ na)) ≤ (nI (k + 1))) := c_11
    have hkl : k + 1 < 2 ^ na := Nat.lt_of_not_le (fun z => c_11 ((am_ge (rfl : nI (2 ^ na) = nI (2 ^ na)) (by omega) (by omega)).mpr z))
    refine lv_iconst (v := 0) hx hb dX5_states_14 (by decide) ?_
    refine lv_istore (lv' := [(4, .int 0), (0, .ref (ad 0)), (1, .long (rc_st (ai 6) na k)), (3, .int (nI (k + 1)))]) hx hb dX5_states_15 hl (by decide) rfl (fun ls hl => ?_)
    refine am_loopR (σ := (Nat) × (Int64)) (fun q n9 ls => n9 = na - q.1 ∧ q.1 ≤ na ∧ rc_sl (ai 6) (nI (k + 1)) na na 0 (rc_st (ai 6) na k) = rc_sl (ai 6) (nI (k + 1)) na (na - q.1) q.1 q.2 ∧ lv_has ls 7 [(0, .ref (ad 0)), (1, .long q.2), (3, .int (nI (k + 1))), (4, .int (nI q.1))]) ?_ (0, (rc_st (ai 6) na k)) (na - 0) ls ⟨rfl, (by first | omega | (dsimp only; omega)), rfl, lv_sub hl [1, 2, 3, 0] rfl⟩
    rintro ⟨b, mz⟩ n9 ls ⟨hn_17, hkb, hm, hl⟩ ih_17
    dsimp only at hn_17 hkb hm hl
    refine lv_iload hx hb dX5_states_17 (lv_at hl 3 rfl) ?_
    refine lv_aload_n hx hb dX5_states_19 rfl (lv_at hl 0 rfl) ?_
    refine va_get (D := D) (ci := 5) (v := .int (fi 0)) (C := RX5) (T := TX5) (N := 31) hx hb hts hin_X5 hown hK hP 0 rfl rfl 0 (by decide) hf_86 (fun _ h9 => h9) rfl dX5_states_20 ?_
    refine lv_icmp_ge (tgt := 116) hx hb dX5_states_23 (by decide) (fun c_23 => ?_) (fun c_23 => ?_)
    · skip
      have c_23 : (fi 0) ≤ (nI b) := c_23
      have hke_23 : na ≤ b := (am_ge hna (by omega) (by omega)).mp c_23
      have hkq_23 : na = b := by omega
      subst hkq_23
      have hmz : mz = rc_sl (ai 6) (nI (k + 1)) na na 0 (rc_st (ai 6) na k) := by rw [hm, Nat.sub_self, rc_sl]
      subst hmz
      have hl : lv_has ls 7 [(0, .ref (ad 0)), (1, .long (rc_sl (ai 6) (nI (k + 1)) na na 0 (rc_st (ai 6) na k))), (3, .int (nI (k + 1))), (4, .int (nI na))] := hl
      refine lv_iinc (v := nI ((k + 1) + 1)) (lv' := [(3, .int (nI ((k + 1) + 1))), (0, .ref (ad 0)), (1, .long (rc_sl (ai 6) (nI (k + 1)) na na 0 (rc_st (ai 6) na k))), (4, .int (nI na))]) hx hb dX5_states_116 hl (k := 2) rfl (nI_1 (k + 1)) (by decide) rfl (fun ls hl => ?_)
      refine lv_goto (tgt := 4) hx hb dX5_states_119 (by decide) ?_
      have e_4_0 : rc_st (ai 6) na (k + 1) = rc_sl (ai 6) (nI (k + 1)) na na 0 (rc_st (ai 6) na k) := by first | rfl | (simp only [rc_st, c_23, if_true, if_false, eq_self, not_true_eq_false, not_false_eq_true, ite_true, ite_false, ↓reduceIte]; done) | (simp [rc_st, c_23]; done)
      refine ih_4 (k + 1) (2 ^ na - 1 - (k + 1)) ls (by omega) ⟨rfl, (by omega), ?_⟩
      try dsimp only
      rw [e_4_0]
      exact lv_sub hl [1, 2, 0] rfl
    · skip
      have c_23 : ¬ ((fi 0) ≤ (nI b)) := c_23
      have hkl_23 : b < na := Nat.lt_of_not_le (fun z => c_23 ((am_ge hna (by omega) (by omega)).mpr z))
      refine lv_aload_n hx hb dX5_states_26 rfl (lv_at hl 0 rfl) ?_
      refine lv_iload_n hx hb dX5_states_27 rfl (lv_at hl 2 rfl) ?_
      refine am_callRi (W.runV (As := [.int (nI (k + 1))]) (rest := []) ⟨hx, hb, hml, hown, hts⟩ (c_X5_isClosed l D ad cI cL cZ fi fl ai al (nI (k + 1)) na hna hnl) (cwV 1 hts (am_gV (am_in 551 rfl) (am_in 552 rfl) (am_in 14 rfl) (am_in 35 rfl) (am_in 553 rfl)) rfl rfl rfl (by decide +kernel) ⟨Nat.le_of_ble_eq_true rfl, Nat.le_of_ble_eq_true rfl⟩) (am_preVR 5 0 rfl rfl rfl hP hK hN) rfl rfl hl.1 rfl (lv_room (Nat.le_of_ble_eq_true rfl)) dX5_states_28 ⟨Nat.zero_le _, Nat.zero_le _⟩) ?_
      refine lv_if_eq (tgt := 116) hx hb dX5_states_31 (by decide) (fun c_31 => ?_) (fun c_31 => ?_)
      · skip
        have c_31 : (rc_ca (ai 6) (nI (k + 1)) na na) = 0 := c_31
        have hmz : mz = rc_sl (ai 6) (nI (k + 1)) na na 0 (rc_st (ai 6) na k) := by rw [hm, rc_sl_stop c_31]
        subst hmz
        have hl : lv_has ls 7 [(0, .ref (ad 0)), (1, .long (rc_sl (ai 6) (nI (k + 1)) na na 0 (rc_st (ai 6) na k))), (3, .int (nI (k + 1))), (4, .int (nI b))] := hl
        refine lv_iinc (v := nI ((k + 1) + 1)) (lv' := [(3, .int (nI ((k + 1) + 1))), (0, .ref (ad 0)), (1, .long (rc_sl (ai 6) (nI (k + 1)) na na 0 (rc_st (ai 6) na k))), (4, .int (nI b))]) hx hb dX5_states_116 hl (k := 2) rfl (nI_1 (k + 1)) (by decide) rfl (fun ls hl => ?_)
        refine lv_goto (tgt := 4) hx hb dX5_states_119 (by decide) ?_
        have e_4_0 : rc_st (ai 6) na (k + 1) = rc_sl (ai 6) (nI (k + 1)) na na 0 (rc_st (ai 6) na k) := by first | rfl | (simp only [rc_st, c_23, c_31, if_true, if_false, eq_self, not_true_eq_false, not_false_eq_true, ite_true, ite_false, ↓reduceIte]; done) | (simp [rc_st, c_23, c_31]; done)
        refine ih_4 (k + 1) (2 ^ na - 1 - (k + 1)) ls (by omega) ⟨rfl, (by omega), ?_⟩
        try dsimp only
        rw [e_4_0]
        exact lv_sub hl [1, 2, 0] rfl
      · skip
        have c_31 : ¬ ((rc_ca (ai 6) (nI (k + 1)) na na) = 0) := c_31
        refine lv_iload_n hx hb dX5_states_34 rfl (lv_at hl 2 rfl) ?_
        refine lv_iload hx hb dX5_states_35 (lv_at hl 3 rfl) ?_
        refine am_callRi (W.runS (As := [.int (nI (k + 1)), .int (nI b)]) (rest := []) ⟨hx, hb, hml, hown, hts⟩ (c_X5_has l D _ _ (nI (k + 1)) (nI b)) (va_cwS 2 hts (am_gS (am_in 554 rfl) (am_in 555 rfl) (am_in 35 rfl) (am_in 556 rfl)) rfl rfl rfl (by decide +kernel) ⟨Nat.le_of_ble_eq_true rfl, Nat.le_of_ble_eq_true rfl⟩) (am_preSR hP hK hN) rfl rfl hl.1 rfl (lv_room (Nat.le_of_ble_eq_true rfl)) dX5_states_37 ⟨Nat.zero_le _, Nat.zero_le _⟩) ?_
        refine lv_istore (lv' := [(5, .int (rc_has (nI (k + 1)) (nI b))), (0, .ref (ad 0)), (1, .long mz), (3, .int (nI (k + 1))), (4, .int (nI b))]) hx hb dX5_states_40 hl (by decide) rfl (fun ls hl => ?_)
        refine lv_iconst (v := 0) hx hb dX5_states_42 (by decide) ?_
        refine lv_istore (lv' := [(6, .int 0), (5, .int (rc_has (nI (k + 1)) (nI b))), (0, .ref (ad 0)), (1, .long mz), (3, .int (nI (k + 1))), (4, .int (nI b))]) hx hb dX5_states_43 hl (by decide) rfl (fun ls hl => ?_)
        refine am_loopR (σ := Nat) (fun q n9 ls => n9 = na - q ∧ q ≤ na ∧ lv_has ls 7 [(0, .ref (ad 0)), (1, .long mz), (3, .int (nI (k + 1))), (4, .int (nI b)), (5, .int (rc_fa (ai 6) (nI (k + 1)) b q)), (6, .int (nI q))]) ?_ 0 (na - 0) ls ⟨rfl, (by omega), lv_sub hl [2, 3, 4, 5, 1, 0] rfl⟩
        rintro a n9 ls ⟨hn_45, hka, hl⟩ ih_45
        refine lv_iload hx hb dX5_states_45 (lv_at hl 5 rfl) ?_
        refine lv_aload_n hx hb dX5_states_47 rfl (lv_at hl 0 rfl) ?_
        refine va_get (D := D) (ci := 5) (v := .int (fi 0)) (C := RX5) (T := TX5) (N := 31) hx hb hts hin_X5 hown hK hP 0 rfl rfl 0 (by decide) hf_86 (fun _ h9 => h9) rfl dX5_states_48 ?_
        refine lv_icmp_ge (tgt := 97) hx hb dX5_states_51 (by decide) (fun c_51 => ?_) (fun c_51 => ?_)
        · skip
          have c_51 : (fi 0) ≤ (nI a) := c_51
          have hke_51 : na ≤ a := (am_ge hna (by omega) (by omega)).mp c_51
          have hkq_51 : na = a := by omega
          subst hkq_51
          refine lv_iload hx hb dX5_states_97 (lv_at hl 4 rfl) ?_
          refine lv_if_eq (tgt := 108) hx hb dX5_states_99 (by decide) (fun c_99 => ?_) (fun c_99 => ?_)
          · skip
            have c_99 : (rc_fa (ai 6) (nI (k + 1)) b na) = 0 := c_99
            refine lv_lload_n hx hb dX5_states_108 rfl (lv_at hl 1 rfl) ?_
            refine lv_lstore_n (lv' := [(1, .long mz), (0, .ref (ad 0)), (3, .int (nI (k + 1))), (4, .int (nI b)), (5, .int (rc_fa (ai 6) (nI (k + 1)) b na)), (6, .int (nI na))]) hx hb dX5_states_109 rfl hl (by decide) rfl (fun ls hl => ?_)
            refine lv_iinc (v := nI (b + 1)) (lv' := [(4, .int (nI (b + 1))), (1, .long mz), (0, .ref (ad 0)), (3, .int (nI (k + 1))), (5, .int (rc_fa (ai 6) (nI (k + 1)) b na)), (6, .int (nI na))]) hx hb dX5_states_110 hl (k := 3) rfl (nI_1 b) (by decide) rfl (fun ls hl => ?_)
            refine lv_goto (tgt := 17) hx hb dX5_states_113 (by decide) ?_
            refine ih_17 (b + 1, mz) (na - (b + 1)) ls (by omega) ⟨rfl, (by first | omega | (dsimp only; omega)), (by dsimp only; rw [hm, show na - b = (na - (b + 1)) + 1 by omega, rc_sl, if_neg c_31, if_pos c_99]), ?_⟩
            exact lv_sub hl [2, 1, 3, 0] rfl
          · skip
            have c_99 : ¬ ((rc_fa (ai 6) (nI (k + 1)) b na) = 0) := c_99
            refine lv_lload_n hx hb dX5_states_102 rfl (lv_at hl 1 rfl) ?_
            refine lv_lconst (v := 1) hx hb dX5_states_103 (by decide) ?_
            refine lv_ladd hx hb dX5_states_104 ?_
            refine lv_goto (tgt := 109) hx hb dX5_states_105 (by decide) ?_
            refine lv_lstore_n (lv' := [(1, .long (mz + 1)), (0, .ref (ad 0)), (3, .int (nI (k + 1))), (4, .int (nI b)), (5, .int (rc_fa (ai 6) (nI (k + 1)) b na)), (6, .int (nI na))]) hx hb dX5_states_109 rfl hl (by decide) rfl (fun ls hl => ?_)
            refine lv_iinc (v := nI (b + 1)) (lv' := [(4, .int (nI (b + 1))), (1, .long (mz + 1)), (0, .ref (ad 0)), (3, .int (nI (k + 1))), (5, .int (rc_fa (ai 6) (nI (k + 1)) b na)), (6, .int (nI na))]) hx hb dX5_states_110 hl (k := 3) rfl (nI_1 b) (by decide) rfl (fun ls hl => ?_)
            refine lv_goto (tgt := 17) hx hb dX5_states_113 (by decide) ?_
            refine ih_17 (b + 1, mz + 1) (na - (b + 1)) ls (by omega) ⟨rfl, (by first | omega | (dsimp only; omega)), (by dsimp only; rw [hm, show na - b = (na - (b + 1)) + 1 by omega, rc_sl, if_neg c_31, if_neg c_99]), ?_⟩
            exact lv_sub hl [2, 1, 3, 0] rfl
        · skip
          have c_51 : ¬ ((fi 0) ≤ (nI a)) := c_51
          have hkl_51 : a < na := Nat.lt_of_not_le (fun z => c_51 ((am_ge hna (by omega) (by omega)).mpr z))
          refine lv_iload hx hb dX5_states_54 (lv_at hl 4 rfl) ?_
          refine lv_if_eq (tgt := 88) hx hb dX5_states_56 (by decide) (fun c_56 => ?_) (fun c_56 => ?_)
          · skip
            have c_56 : (rc_fa (ai 6) (nI (k + 1)) b a) = 0 := c_56
            refine lv_iconst (v := 0) hx hb dX5_states_88 (by decide) ?_
            refine lv_istore (lv' := [(5, .int 0), (0, .ref (ad 0)), (1, .long mz), (3, .int (nI (k + 1))), (4, .int (nI b)), (6, .int (nI a))]) hx hb dX5_states_89 hl (by decide) rfl (fun ls hl => ?_)
            refine lv_iinc (v := nI (a + 1)) (lv' := [(6, .int (nI (a + 1))), (5, .int 0), (0, .ref (ad 0)), (1, .long mz), (3, .int (nI (k + 1))), (4, .int (nI b))]) hx hb dX5_states_91 hl (k := 5) rfl (nI_1 a) (by decide) rfl (fun ls hl => ?_)
            refine lv_goto (tgt := 45) hx hb dX5_states_94 (by decide) ?_
            have e_45_0 : rc_fa (ai 6) (nI (k + 1)) b (a + 1) = 0 := by first | rfl | (simp only [rc_fa, c_51, c_56, if_true, if_false, eq_self, not_true_eq_false, not_false_eq_true, ite_true, ite_false, ↓reduceIte]; done) | (simp [rc_fa, c_51, c_56]; done)
            refine ih_45 (a + 1) (na - (a + 1)) ls (by omega) ⟨rfl, (by omega), ?_⟩
            try dsimp only
            rw [e_45_0]
            exact lv_sub hl [2, 3, 4, 5, 1, 0] rfl
          · skip
            have c_56 : ¬ ((rc_fa (ai 6) (nI (k + 1)) b a) = 0) := c_56
            refine lv_iload_n hx hb dX5_states_59 rfl (lv_at hl 2 rfl) ?_
            refine lv_iload hx hb dX5_states_60 (lv_at hl 5 rfl) ?_
            refine am_callRi (W.runS (As := [.int (nI (k + 1)), .int (nI a)]) (rest := []) ⟨hx, hb, hml, hown, hts⟩ (c_X5_has l D _ _ (nI (k + 1)) (nI a)) (va_cwS 2 hts (am_gS (am_in 554 rfl) (am_in 555 rfl) (am_in 35 rfl) (am_in 556 rfl)) rfl rfl rfl (by decide +kernel) ⟨Nat.le_of_ble_eq_true rfl, Nat.le_of_ble_eq_true rfl⟩) (am_preSR hP hK hN) rfl rfl hl.1 rfl (lv_room (Nat.le_of_ble_eq_true rfl)) dX5_states_62 ⟨Nat.zero_le _, Nat.zero_le _⟩) ?_
            refine lv_if_eq (tgt := 84) hx hb dX5_states_65 (by decide) (fun c_65 => ?_) (fun c_65 => ?_)
            · skip
              have c_65 : (rc_has (nI (k + 1)) (nI a)) = 0 := c_65
              refine lv_iconst (v := 1) hx hb dX5_states_84 (by decide) ?_
              refine lv_goto (tgt := 89) hx hb dX5_states_85 (by decide) ?_
              refine lv_istore (lv' := [(5, .int 1), (0, .ref (ad 0)), (1, .long mz), (3, .int (nI (k + 1))), (4, .int (nI b)), (6, .int (nI a))]) hx hb dX5_states_89 hl (by decide) rfl (fun ls hl => ?_)
              refine lv_iinc (v := nI (a + 1)) (lv' := [(6, .int (nI (a + 1))), (5, .int 1), (0, .ref (ad 0)), (1, .long mz), (3, .int (nI (k + 1))), (4, .int (nI b))]) hx hb dX5_states_91 hl (k := 5) rfl (nI_1 a) (by decide) rfl (fun ls hl => ?_)
              refine lv_goto (tgt := 45) hx hb dX5_states_94 (by decide) ?_
              have e_45_0 : rc_fa (ai 6) (nI (k + 1)) b (a + 1) = 1 := by first | rfl | (simp only [rc_fa, c_51, c_56, c_65, if_true, if_false, eq_self, not_true_eq_false, not_false_eq_true, ite_true, ite_false, ↓reduceIte]; done) | (simp [rc_fa, c_51, c_56, c_65]; done)
              refine ih_45 (a + 1) (na - (a + 1)) ls (by omega) ⟨rfl, (by omega), ?_⟩
              try dsimp only
              rw [e_45_0]
              exact lv_sub hl [2, 3, 4, 5, 1, 0] rfl
            · skip
              have c_65 : ¬ ((rc_has (nI (k + 1)) (nI a)) = 0) := c_65
              refine lv_aload_n hx hb dX5_states_68 rfl (lv_at hl 0 rfl) ?_
              refine va_get (D := D) (ci := 5) (v := .ref (ad 6)) (C := RX5) (T := TX5) (N := 31) hx hb hts hin_X5 hown hK hP 0 rfl rfl 6 (by decide) hf_27 (fun _ h9 => h9) rfl dX5_states_69 ?_
              refine lv_bipush (v := 10) hx hb dX5_states_72 (by decide) ?_
              refine lv_iload hx hb dX5_states_74 (lv_at hl 5 rfl) ?_
              refine lv_imul hx hb dX5_states_76 ?_
              refine lv_iload hx hb dX5_states_77 (lv_at hl 3 rfl) ?_
              refine lv_iadd hx hb dX5_states_79 ?_
              refine am_zald hx hb hK hP 6 2 rfl rfl (10 * a + b) (am_x10 a b) (by omega) (by decide) dX5_states_80 ?_
              refine lv_if_ne (tgt := 88) hx hb dX5_states_81 (by decide) (fun c_81 => ?_) (fun c_81 => ?_)
              · skip
                have c_81 : ¬ ((ai 6) (10 * a + b)) = 0 := c_81
                refine lv_iconst (v := 0) hx hb dX5_states_88 (by decide) ?_
                refine lv_istore (lv' := [(5, .int 0), (0, .ref (ad 0)), (1, .long mz), (3, .int (nI (k + 1))), (4, .int (nI b)), (6, .int (nI a))]) hx hb dX5_states_89 hl (by decide) rfl (fun ls hl => ?_)
                refine lv_iinc (v := nI (a + 1)) (lv' := [(6, .int (nI (a + 1))), (5, .int 0), (0, .ref (ad 0)), (1, .long mz), (3, .int (nI (k + 1))), (4, .int (nI b))]) hx hb dX5_states_91 hl (k := 5) rfl (nI_1 a) (by decide) rfl (fun ls hl => ?_)
                refine lv_goto (tgt := 45) hx hb dX5_states_94 (by decide) ?_
                have e_45_0 : rc_fa (ai 6) (nI (k + 1)) b (a + 1) = 0 := by first | rfl | (simp only [rc_fa, c_51, c_56, c_65, c_81, if_true, if_false, eq_self, not_true_eq_false, not_false_eq_true, ite_true, ite_false, ↓reduceIte]; done) | (simp [rc_fa, c_51, c_56, c_65, c_81]; done)
                refine ih_45 (a + 1) (na - (a + 1)) ls (by omega) ⟨rfl, (by omega), ?_⟩
                try dsimp only
                rw [e_45_0]
                exact lv_sub hl [2, 3, 4, 5, 1, 0] rfl
              · skip
                have c_81 : ((ai 6) (10 * a + b)) = 0 := c_81
                refine lv_iconst (v := 1) hx hb dX5_states_84 (by decide) ?_
                refine lv_goto (tgt := 89) hx hb dX5_states_85 (by decide) ?_
                refine lv_istore (lv' := [(5, .int 1), (0, .ref (ad 0)), (1, .long mz), (3, .int (nI (k + 1))), (4, .int (nI b)), (6, .int (nI a))]) hx hb dX5_states_89 hl (by decide) rfl (fun ls hl => ?_)
                refine lv_iinc (v := nI (a + 1)) (lv' := [(6, .int (nI (a + 1))), (5, .int 1), (0, .ref (ad 0)), (1, .long mz), (3, .int (nI (k + 1))), (4, .int (nI b))]) hx hb dX5_states_91 hl (k := 5) rfl (nI_1 a) (by decide) rfl (fun ls hl => ?_)
                refine lv_goto (tgt := 45) hx hb dX5_states_94 (by decide) ?_
                have e_45_0 : rc_fa (ai 6) (nI (k + 1)) b (a + 1) = 1 := by first | rfl | (simp only [rc_fa, c_51, c_56, c_65, c_81, if_true, if_false, eq_self, not_true_eq_false, not_false_eq_true, ite_true, ite_false, ↓reduceIte]; done) | (simp [rc_fa, c_51, c_56, c_65, c_81]; done)
                refine ih_45 (a + 1) (na - (a + 1)) ls (by omega) ⟨rfl, (by omega), ?_⟩
                try dsimp only
                rw [e_45_0]
                exact lv_sub hl [2, 3, 4, 5, 1, 0] rfl

