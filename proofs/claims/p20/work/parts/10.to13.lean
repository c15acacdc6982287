set_option maxHeartbeats 4000000 in
set_option maxRecDepth 100000 in
theorem c_X0_has (l : Launch) (D : va_G) (w : va_W) (tys : List (ClassId × FieldType)) (x : Int32) (y : Int32) : Met l yX0_has wsX0_has (am_rm 0 0) (va_Pc [.int x, .int y] (am_R nwL vwCl D w tys)) (vp_Si (fun r => r = ac_has x y)) 0 0 am_No := by
  refine am_startR (cc := cX0_has) (maxL := 2) (ret := (some .boolean)) (by decide) rfl (Nat.le_of_ble_eq_true rfl) [(0, .int x), (1, .int y)] rfl ?_
  intro p e s m below meth c ls hx hb hr hml hown hts hlocks hP hK hN hl
  have hown : s.vm.findClass RX0 = some m.cls := hown
  have ht := am_ht hts
  refine lv_iload_n hx hb dX0_has_0 rfl (lv_at hl 0 rfl) ?_
  refine lv_iload_n hx hb dX0_has_1 rfl (lv_at hl 1 rfl) ?_
  refine lv_ishr hx hb dX0_has_2 ?_
  refine lv_iconst (v := 1) hx hb dX0_has_3 (by decide) ?_
  refine lv_iand hx hb dX0_has_4 ?_
  refine lv_if_eq (tgt := 12) hx hb dX0_has_5 (by decide) (fun c_5 => ?_) (fun c_5 => ?_)
  · skip
    refine lv_iconst (v := 0) hx hb dX0_has_12 (by decide) ?_
    exact am_zretR hx hb hr hlocks (Or.inl rfl) (by first | rfl | (simp only [ac_has, c_5, if_true, if_false, eq_self, not_true_eq_false, not_false_eq_true, ite_true, ite_false, ↓reduceIte]; done) | (simp [ac_has, c_5]; done)) dX0_has_13
  · skip
    refine lv_iconst (v := 1) hx hb dX0_has_8 (by decide) ?_
    refine lv_goto (tgt := 13) hx hb dX0_has_9 (by decide) ?_
    exact am_zretR hx hb hr hlocks (Or.inr rfl) (by first | rfl | (simp only [ac_has, c_5, if_true, if_false, eq_self, not_true_eq_false, not_false_eq_true, ite_true, ite_false, ↓reduceIte]; done) | (simp [ac_has, c_5]; done)) dX0_has_13

set_option maxHeartbeats 4000000 in
set_option maxRecDepth 100000 in
theorem c_X0_isPart (l : Launch) (D : va_G) (w : va_W) (tys : List (ClassId × FieldType)) (x : Int32) : Met l yX0_isPart wsX0_isPart (am_rm 0 0) (va_Pc [.int x] (am_R nwL vwCl D w tys)) (vp_Si (fun r => r = ac_isPart x)) 0 0 am_No := by
  refine am_startR (cc := cX0_isPart) (maxL := 1) (ret := (some .boolean)) (by decide) rfl (Nat.le_of_ble_eq_true rfl) [(0, .int x)] rfl ?_
  intro p e s m below meth c ls hx hb hr hml hown hts hlocks hP hK hN hl
  have hown : s.vm.findClass RX0 = some m.cls := hown
  have ht := am_ht hts
  refine lv_iload_n hx hb dX0_isPart_0 rfl (lv_at hl 0 rfl) ?_
  refine lv_if_lt (tgt := 14) hx hb dX0_isPart_1 (by decide) (fun c_1 => ?_) (fun c_1 => ?_)
  · skip
    refine lv_iconst (v := 0) hx hb dX0_isPart_14 (by decide) ?_
    exact am_zretR hx hb hr hlocks (Or.inl rfl) (by first | rfl | (simp only [ac_isPart, c_1, if_true, if_false, eq_self, not_true_eq_false, not_false_eq_true, ite_true, ite_false, ↓reduceIte]; done) | (simp [ac_isPart, c_1]; done)) dX0_isPart_15
  · skip
    refine lv_iload_n hx hb dX0_isPart_4 rfl (lv_at hl 0 rfl) ?_
    refine lv_bipush (v := 12) hx hb dX0_isPart_5 (by decide) ?_
    refine lv_icmp_ge (tgt := 14) hx hb dX0_isPart_7 (by decide) (fun c_7 => ?_) (fun c_7 => ?_)
    · skip
      refine lv_iconst (v := 0) hx hb dX0_isPart_14 (by decide) ?_
      exact am_zretR hx hb hr hlocks (Or.inl rfl) (by first | rfl | (simp only [ac_isPart, c_1, c_7, if_true, if_false, eq_self, not_true_eq_false, not_false_eq_true, ite_true, ite_false, ↓reduceIte]; done) | (simp [ac_isPart, c_1, c_7]; done)) dX0_isPart_15
    · skip
      refine lv_iconst (v := 1) hx hb dX0_isPart_10 (by decide) ?_
      refine lv_goto (tgt := 15) hx hb dX0_isPart_11 (by decide) ?_
      exact am_zretR hx hb hr hlocks (Or.inr rfl) (by first | rfl | (simp only [ac_isPart, c_1, c_7, if_true, if_false, eq_self, not_true_eq_false, not_false_eq_true, ite_true, ite_false, ↓reduceIte]; done) | (simp [ac_isPart, c_1, c_7]; done)) dX0_isPart_15

set_option maxHeartbeats 4000000 in
set_option maxRecDepth 100000 in
theorem c_X0_isKind (l : Launch) (D : va_G) (w : va_W) (tys : List (ClassId × FieldType)) (x : Int32) : Met l yX0_isKind wsX0_isKind (am_rm 0 0) (va_Pc [.int x] (am_R nwL vwCl D w tys)) (vp_Si (fun r => r = ac_isKind x)) 0 0 am_No := by
  refine am_startR (cc := cX0_isKind) (maxL := 1) (ret := (some .boolean)) (by decide) rfl (Nat.le_of_ble_eq_true rfl) [(0, .int x)] rfl ?_
  intro p e s m below meth c ls hx hb hr hml hown hts hlocks hP hK hN hl
  have hown : s.vm.findClass RX0 = some m.cls := hown
  have ht := am_ht hts
  refine lv_iload_n hx hb dX0_isKind_0 rfl (lv_at hl 0 rfl) ?_
  refine lv_if_lt (tgt := 14) hx hb dX0_isKind_1 (by decide) (fun c_1 => ?_) (fun c_1 => ?_)
  · skip
    refine lv_iconst (v := 0) hx hb dX0_isKind_14 (by decide) ?_
    exact am_zretR hx hb hr hlocks (Or.inl rfl) (by first | rfl | (simp only [ac_isKind, c_1, if_true, if_false, eq_self, not_true_eq_false, not_false_eq_true, ite_true, ite_false, ↓reduceIte]; done) | (simp [ac_isKind, c_1]; done)) dX0_isKind_15
  · skip
    refine lv_iload_n hx hb dX0_isKind_4 rfl (lv_at hl 0 rfl) ?_
    refine lv_bipush (v := 6) hx hb dX0_isKind_5 (by decide) ?_
    refine lv_icmp_ge (tgt := 14) hx hb dX0_isKind_7 (by decide) (fun c_7 => ?_) (fun c_7 => ?_)
    · skip
      refine lv_iconst (v := 0) hx hb dX0_isKind_14 (by decide) ?_
      exact am_zretR hx hb hr hlocks (Or.inl rfl) (by first | rfl | (simp only [ac_isKind, c_1, c_7, if_true, if_false, eq_self, not_true_eq_false, not_false_eq_true, ite_true, ite_false, ↓reduceIte]; done) | (simp [ac_isKind, c_1, c_7]; done)) dX0_isKind_15
    · skip
      refine lv_iconst (v := 1) hx hb dX0_isKind_10 (by decide) ?_
      refine lv_goto (tgt := 15) hx hb dX0_isKind_11 (by decide) ?_
      exact am_zretR hx hb hr hlocks (Or.inr rfl) (by first | rfl | (simp only [ac_isKind, c_1, c_7, if_true, if_false, eq_self, not_true_eq_false, not_false_eq_true, ite_true, ite_false, ↓reduceIte]; done) | (simp [ac_isKind, c_1, c_7]; done)) dX0_isKind_15

set_option maxHeartbeats 4000000 in
set_option maxRecDepth 100000 in
theorem c_X0_isMove (l : Launch) (D : va_G) (w : va_W) (tys : List (ClassId × FieldType)) (x : Int32) (y : Int32) : Met l yX0_isMove wsX0_isMove (am_rm 1 20) (va_Pc [.int x, .int y] (am_R nwL vwCl D w tys)) (vp_Si (fun r => r = ac_isMove x y)) 0 0 am_No := by
  refine am_startR (cc := cX0_isMove) (maxL := 2) (ret := (some .boolean)) (by decide) rfl (Nat.le_of_ble_eq_true rfl) [(0, .int x), (1, .int y)] rfl ?_
  intro p e s m below meth c ls hx hb hr hml hown hts hlocks hP hK hN hl
  have hown : s.vm.findClass RX0 = some m.cls := hown
  have ht := am_ht hts
  refine lv_iload_n hx hb dX0_isMove_0 rfl (lv_at hl 0 rfl) ?_
  refine am_callRi (W.runS (As := [.int x]) (rest := []) ⟨hx, hb, hml, hown, hts⟩ (c_X0_isKind l D _ _ x) (va_cwS 1 hts (am_gS (am_in 185 rfl) (am_in 186 rfl) (am_in 29 rfl) (am_in 187 rfl)) rfl rfl rfl (by decide +kernel) ⟨Nat.le_of_ble_eq_true rfl, Nat.le_of_ble_eq_true rfl⟩) (am_preSR hP hK hN) rfl rfl hl.1 rfl (lv_room (Nat.le_of_ble_eq_true rfl)) dX0_isMove_1 ⟨Nat.zero_le _, Nat.zero_le _⟩) ?_
  refine lv_if_eq (tgt := 23) hx hb dX0_isMove_4 (by decide) (fun c_4 => ?_) (fun c_4 => ?_)
  · skip
    refine lv_iconst (v := 0) hx hb dX0_isMove_23 (by decide) ?_
    exact am_zretR hx hb hr hlocks (Or.inl rfl) (by first | rfl | (simp only [ac_isMove, c_4, if_true, if_false, eq_self, not_true_eq_false, not_false_eq_true, ite_true, ite_false, ↓reduceIte]; done) | (simp [ac_isMove, c_4]; done)) dX0_isMove_24
  · skip
    refine lv_iload_n hx hb dX0_isMove_7 rfl (lv_at hl 1 rfl) ?_
    refine am_callRi (W.runS (As := [.int y]) (rest := []) ⟨hx, hb, hml, hown, hts⟩ (c_X0_isKind l D _ _ y) (va_cwS 1 hts (am_gS (am_in 185 rfl) (am_in 186 rfl) (am_in 29 rfl) (am_in 187 rfl)) rfl rfl rfl (by decide +kernel) ⟨Nat.le_of_ble_eq_true rfl, Nat.le_of_ble_eq_true rfl⟩) (am_preSR hP hK hN) rfl rfl hl.1 rfl (lv_room (Nat.le_of_ble_eq_true rfl)) dX0_isMove_8 ⟨Nat.zero_le _, Nat.zero_le _⟩) ?_
    refine lv_if_eq (tgt := 23) hx hb dX0_isMove_11 (by decide) (fun c_11 => ?_) (fun c_11 => ?_)
    · skip
      refine lv_iconst (v := 0) hx hb dX0_isMove_23 (by decide) ?_
      exact am_zretR hx hb hr hlocks (Or.inl rfl) (by first | rfl | (simp only [ac_isMove, c_4, c_11, if_true, if_false, eq_self, not_true_eq_false, not_false_eq_true, ite_true, ite_false, ↓reduceIte]; done) | (simp [ac_isMove, c_4, c_11]; done)) dX0_isMove_24
    · skip
      refine lv_iload_n hx hb dX0_isMove_14 rfl (lv_at hl 0 rfl) ?_
      refine lv_iload_n hx hb dX0_isMove_15 rfl (lv_at hl 1 rfl) ?_
      refine lv_icmp_eq (tgt := 23) hx hb dX0_isMove_16 (by decide) (fun c_16 => ?_) (fun c_16 => ?_)
      · skip
        refine lv_iconst (v := 0) hx hb dX0_isMove_23 (by decide) ?_
        exact am_zretR hx hb hr hlocks (Or.inl rfl) (by first | rfl | (simp only [ac_isMove, c_4, c_11, c_16, if_true, if_false, eq_self, not_true_eq_false, not_false_eq_true, ite_true, ite_false, ↓reduceIte]; done) | (simp [ac_isMove, c_4, c_11, c_16]; done)) dX0_isMove_24
      · skip
        refine lv_iconst (v := 1) hx hb dX0_isMove_19 (by decide) ?_
        refine lv_goto (tgt := 24) hx hb dX0_isMove_20 (by decide) ?_
        exact am_zretR hx hb hr hlocks (Or.inr rfl) (by first | rfl | (simp only [ac_isMove, c_4, c_11, c_16, if_true, if_false, eq_self, not_true_eq_false, not_false_eq_true, ite_true, ite_false, ↓reduceIte]; done) | (simp [ac_isMove, c_4, c_11, c_16]; done)) dX0_isMove_24

set_option maxHeartbeats 4000000 in
set_option maxRecDepth 100000 in
theorem c_X0_isPrice (l : Launch) (D : va_G) (w : va_W) (tys : List (ClassId × FieldType)) (z : Int64) : Met l yX0_isPrice wsX0_isPrice (am_rm 0 0) (va_Pc [.long z] (am_R nwL vwCl D w tys)) (vp_Si (fun r => r = ac_isPrice z)) 0 0 am_No := by
  refine am_startR (cc := cX0_isPrice) (maxL := 2) (ret := (some .boolean)) (by decide) rfl (Nat.le_of_ble_eq_true rfl) [(0, .long z)] rfl ?_
  intro p e s m below meth c ls hx hb hr hml hown hts hlocks hP hK hN hl
  have hown : s.vm.findClass RX0 = some m.cls := hown
  have ht := am_ht hts
  refine lv_lload_n hx hb dX0_isPrice_0 rfl (lv_at hl 0 rfl) ?_
  refine lv_lconst (v := 0) hx hb dX0_isPrice_1 (by decide) ?_
  refine W.lcmp hx hb dX0_isPrice_2 ?_
  refine lv_if_lt (tgt := 18) hx hb dX0_isPrice_3 (by decide) (fun c_3 => ?_) (fun c_3 => ?_)
  · skip
    have c_3 : z < 0 := (lg_cmp_lt _ _).mp c_3
    refine lv_iconst (v := 0) hx hb dX0_isPrice_18 (by decide) ?_
    exact am_zretR hx hb hr hlocks (Or.inl rfl) (by first | rfl | (simp only [ac_isPrice, c_3, if_true, if_false, eq_self, not_true_eq_false, not_false_eq_true, ite_true, ite_false, ↓reduceIte]; done) | (simp [ac_isPrice, c_3]; done)) dX0_isPrice_19
  · skip
    have c_3 : ¬ (z < 0) := (fun z => c_3 ((lg_cmp_lt _ _).mpr z))
    refine lv_lload_n hx hb dX0_isPrice_6 rfl (lv_at hl 0 rfl) ?_
    refine lv_ldc2 (v := 1000000) hx hb hown (ht 191 _ rfl) dX0_isPrice_7 ?_
    refine W.lcmp hx hb dX0_isPrice_10 ?_
    refine lv_if_gt (tgt := 18) hx hb dX0_isPrice_11 (by decide) (fun c_11 => ?_) (fun c_11 => ?_)
    · skip
      have c_11 : 1000000 < z := (lg_cmp_gt _ _).mp c_11
      refine lv_iconst (v := 0) hx hb dX0_isPrice_18 (by decide) ?_
      exact am_zretR hx hb hr hlocks (Or.inl rfl) (by first | rfl | (simp only [ac_isPrice, c_3, c_11, if_true, if_false, eq_self, not_true_eq_false, not_false_eq_true, ite_true, ite_false, ↓reduceIte]; done) | (simp [ac_isPrice, c_3, c_11]; done)) dX0_isPrice_19
    · skip
      have c_11 : ¬ (1000000 < z) := (fun z => c_11 ((lg_cmp_gt _ _).mpr z))
      refine lv_iconst (v := 1) hx hb dX0_isPrice_14 (by decide) ?_
      refine lv_goto (tgt := 19) hx hb dX0_isPrice_15 (by decide) ?_
      exact am_zretR hx hb hr hlocks (Or.inr rfl) (by first | rfl | (simp only [ac_isPrice, c_3, c_11, if_true, if_false, eq_self, not_true_eq_false, not_false_eq_true, ite_true, ite_false, ↓reduceIte]; done) | (simp [ac_isPrice, c_3, c_11]; done)) dX0_isPrice_19

set_option maxHeartbeats 4000000 in
set_option maxRecDepth 100000 in
theorem c_X0_isWorth (l : Launch) (D : va_G) (w : va_W) (tys : List (ClassId × FieldType)) (z : Int64) : Met l yX0_isWorth wsX0_isWorth (am_rm 0 0) (va_Pc [.long z] (am_R nwL vwCl D w tys)) (vp_Si (fun r => r = ac_isWorth z)) 0 0 am_No := by
  refine am_startR (cc := cX0_isWorth) (maxL := 2) (ret := (some .boolean)) (by decide) rfl (Nat.le_of_ble_eq_true rfl) [(0, .long z)] rfl ?_
  intro p e s m below meth c ls hx hb hr hml hown hts hlocks hP hK hN hl
  have hown : s.vm.findClass RX0 = some m.cls := hown
  have ht := am_ht hts
  refine lv_lload_n hx hb dX0_isWorth_0 rfl (lv_at hl 0 rfl) ?_
  refine lv_ldc2 (v := (-1000000)) hx hb hown (ht 229 _ rfl) dX0_isWorth_1 ?_
  refine W.lcmp hx hb dX0_isWorth_4 ?_
  refine lv_if_lt (tgt := 20) hx hb dX0_isWorth_5 (by decide) (fun c_5 => ?_) (fun c_5 => ?_)
  · skip
    have c_5 : z < (-1000000) := (lg_cmp_lt _ _).mp c_5
    refine lv_iconst (v := 0) hx hb dX0_isWorth_20 (by decide) ?_
    exact am_zretR hx hb hr hlocks (Or.inl rfl) (by first | rfl | (simp only [ac_isWorth, c_5, if_true, if_false, eq_self, not_true_eq_false, not_false_eq_true, ite_true, ite_false, ↓reduceIte]; done) | (simp [ac_isWorth, c_5]; done)) dX0_isWorth_21
  · skip
    have c_5 : ¬ (z < (-1000000)) := (fun z => c_5 ((lg_cmp_lt _ _).mpr z))
    refine lv_lload_n hx hb dX0_isWorth_8 rfl (lv_at hl 0 rfl) ?_
    refine lv_ldc2 (v := 1000000) hx hb hown (ht 191 _ rfl) dX0_isWorth_9 ?_
    refine W.lcmp hx hb dX0_isWorth_12 ?_
    refine lv_if_gt (tgt := 20) hx hb dX0_isWorth_13 (by decide) (fun c_13 => ?_) (fun c_13 => ?_)
    · skip
      have c_13 : 1000000 < z := (lg_cmp_gt _ _).mp c_13
      refine lv_iconst (v := 0) hx hb dX0_isWorth_20 (by decide) ?_
      exact am_zretR hx hb hr hlocks (Or.inl rfl) (by first | rfl | (simp only [ac_isWorth, c_5, c_13, if_true, if_false, eq_self, not_true_eq_false, not_false_eq_true, ite_true, ite_false, ↓reduceIte]; done) | (simp [ac_isWorth, c_5, c_13]; done)) dX0_isWorth_21
    · skip
      have c_13 : ¬ (1000000 < z) := (fun z => c_13 ((lg_cmp_gt _ _).mpr z))
      refine lv_iconst (v := 1) hx hb dX0_isWorth_16 (by decide) ?_
      refine lv_goto (tgt := 21) hx hb dX0_isWorth_17 (by decide) ?_
      exact am_zretR hx hb hr hlocks (Or.inr rfl) (by first | rfl | (simp only [ac_isWorth, c_5, c_13, if_true, if_false, eq_self, not_true_eq_false, not_false_eq_true, ite_true, ite_false, ↓reduceIte]; done) | (simp [ac_isWorth, c_5, c_13]; done)) dX0_isWorth_21

set_option maxHeartbeats 4000000 in
set_option maxRecDepth 100000 in
theorem c_X0_member (l : Launch) (D : va_G) (w : va_W) (tys : List (ClassId × FieldType)) (x : Int32) (y : Int32) : Met l yX0_member wsX0_member (am_rm 1 21) (va_Pc [.int x, .int y] (am_R nwL vwCl D w tys)) (vp_Si (fun r => r = ac_mem x y 12 0 0)) 0 0 am_No := by
  refine am_startR (cc := cX0_member) (maxL := 4) (ret := (some .int)) (by decide) rfl (Nat.le_of_ble_eq_true rfl) [(0, .int x), (1, .int y)] rfl ?_
  intro p e s m below meth c ls hx hb hr hml hown hts hlocks hP hK hN hl
  have hown : s.vm.findClass RX0 = some m.cls := hown
  have ht := am_ht hts
  refine lv_iconst (v := 0) hx hb dX0_member_0 (by decide) ?_
  refine lv_istore_n (lv' := [(2, .int 0), (0, .int x), (1, .int y)]) hx hb dX0_member_1 rfl hl (by decide) rfl (fun ls hl => ?_)
  refine lv_iconst (v := 0) hx hb dX0_member_2 (by decide) ?_
  refine lv_istore_n (lv' := [(3, .int 0), (2, .int 0), (0, .int x), (1, .int y)]) hx hb dX0_member_3 rfl hl (by decide) rfl (fun ls hl => ?_)
  refine am_loopR (σ := (Nat) × (Int32)) (fun q n9 ls => n9 = 12 - q.1 ∧ q.1 ≤ 12 ∧ ac_mem x y 12 0 0 = ac_mem x y (12 - q.1) q.1 q.2 ∧ lv_has ls 4 [(0, .int x), (1, .int y), (2, .int q.2), (3, .int (nI q.1))]) ?_ (0, 0) (12 - 0) ls ⟨rfl, (by omega), rfl, lv_sub hl [2, 3, 1, 0] rfl⟩
  rintro ⟨k, cn⟩ n9 ls ⟨hn_4, hk, hm, hl⟩ ih_4
  dsimp only at hn_4 hk hm hl
  refine lv_iload_n hx hb dX0_member_4 rfl (lv_at hl 3 rfl) ?_
  refine lv_bipush (v := 12) hx hb dX0_member_5 (by decide) ?_
  refine lv_icmp_ge (tgt := 34) hx hb dX0_member_7 (by decide) (fun c_7 => ?_) (fun c_7 => ?_)
  · skip
    have hke_7 : 12 ≤ k := (am_ge (rfl : (12 : Int32) = nI 12) (by decide) (by omega)).mp c_7
    have hkq_7 : k = 12 := by omega
    subst hkq_7
    refine lv_iconst (v := (-1)) hx hb dX0_member_34 (by decide) ?_
    exact am_iretR hx hb hr hlocks (by rw [hm]; rfl) dX0_member_35
  · skip
    have hkl_7 : k < 12 := Nat.lt_of_not_le (fun z => c_7 ((am_ge (rfl : (12 : Int32) = nI 12) (by decide) (by omega)).mpr z))
    refine lv_iload_n hx hb dX0_member_10 rfl (lv_at hl 0 rfl) ?_
    refine lv_iload_n hx hb dX0_member_11 rfl (lv_at hl 3 rfl) ?_
    refine am_callRi (W.runS (As := [.int x, .int (nI k)]) (rest := []) ⟨hx, hb, hml, hown, hts⟩ (c_X0_has l D _ _ x (nI k)) (va_cwS 2 hts (am_gS (am_in 204 rfl) (am_in 205 rfl) (am_in 29 rfl) (am_in 206 rfl)) rfl rfl rfl (by decide +kernel) ⟨Nat.le_of_ble_eq_true rfl, Nat.le_of_ble_eq_true rfl⟩) (am_preSR hP hK hN) rfl rfl hl.1 rfl (lv_room (Nat.le_of_ble_eq_true rfl)) dX0_member_12 ⟨Nat.zero_le _, Nat.zero_le _⟩) ?_
    refine lv_if_eq (tgt := 28) hx hb dX0_member_15 (by decide) (fun c_15 => ?_) (fun c_15 => ?_)
    · skip
      refine lv_iinc (v := nI (k + 1)) (lv' := [(3, .int (nI (k + 1))), (0, .int x), (1, .int y), (2, .int cn)]) hx hb dX0_member_28 hl (k := 3) rfl (nI_1 k) (by decide) rfl (fun ls hl => ?_)
      refine lv_goto (tgt := 4) hx hb dX0_member_31 (by decide) ?_
      refine ih_4 (k + 1, cn) (12 - (k + 1)) ls (by omega) ⟨rfl, (by omega), (by dsimp only; rw [hm, show 12 - k = (12 - (k + 1)) + 1 by omega]; simp [ac_mem, c_7, c_15]), ?_⟩
      exact lv_sub hl [1, 2, 3, 0] rfl
    · skip
      refine lv_iload_n hx hb dX0_member_18 rfl (lv_at hl 2 rfl) ?_
      refine lv_iload_n hx hb dX0_member_19 rfl (lv_at hl 1 rfl) ?_
      refine lv_icmp_ne (tgt := 25) hx hb dX0_member_20 (by decide) (fun c_20 => ?_) (fun c_20 => ?_)
      · skip
        refine lv_iinc (v := cn + 1) (lv' := [(2, .int (cn + 1)), (0, .int x), (1, .int y), (3, .int (nI k))]) hx hb dX0_member_25 hl (k := 2) rfl rfl (by decide) rfl (fun ls hl => ?_)
        refine lv_iinc (v := nI (k + 1)) (lv' := [(3, .int (nI (k + 1))), (2, .int (cn + 1)), (0, .int x), (1, .int y)]) hx hb dX0_member_28 hl (k := 3) rfl (nI_1 k) (by decide) rfl (fun ls hl => ?_)
        refine lv_goto (tgt := 4) hx hb dX0_member_31 (by decide) ?_
        refine ih_4 (k + 1, cn + 1) (12 - (k + 1)) ls (by omega) ⟨rfl, (by omega), (by dsimp only; rw [hm, show 12 - k = (12 - (k + 1)) + 1 by omega]; simp [ac_mem, c_7, c_15, c_20]), ?_⟩
        exact lv_sub hl [2, 3, 1, 0] rfl
      · skip
        refine lv_iload_n hx hb dX0_member_23 rfl (lv_at hl 3 rfl) ?_
        exact am_iretR hx hb hr hlocks (by rw [hm, show 12 - k = (12 - (k + 1)) + 1 by omega]; simp [ac_mem, c_7, c_15, c_20]) dX0_member_24

set_option maxHeartbeats 4000000 in
set_option maxRecDepth 100000 in
theorem c_JI_bitCount (l : Launch) (D : va_G) (w : va_W) (tys : List (ClassId × FieldType)) (x : Int32) : Met l yJI_bitCount wsJI_bitCount (am_rm 0 0) (va_Pc [.int x] (am_R nwL vwCl D w tys)) (vp_Si (fun r => r = ac_bc x)) 0 0 am_No := by
  refine am_startR (cc := cJI_bitCount) (maxL := 1) (ret := (some .int)) (by decide) rfl (Nat.le_of_ble_eq_true rfl) [(0, .int x)] rfl ?_
  intro p e s m below meth c ls hx hb hr hml hown hts hlocks hP hK hN hl
  have hown : s.vm.findClass RJI = some m.cls := hown
  have ht := am_ht hts
  refine lv_iload_n hx hb dJI_bitCount_0 rfl (lv_at hl 0 rfl) ?_
  refine lv_iload_n hx hb dJI_bitCount_1 rfl (lv_at hl 0 rfl) ?_
  refine lv_iconst (v := 1) hx hb dJI_bitCount_2 (by decide) ?_
  refine lv_iushr (v := (x.toUInt32 >>> ((1 : Int32).toUInt32 &&& Int32.toUInt32 31)).toInt32) hx hb dJI_bitCount_3 rfl ?_
  refine lv_ldcw (v := 1431655765) hx hb hown (ht 274 _ rfl) dJI_bitCount_4 ?_
  refine lv_iand hx hb dJI_bitCount_7 ?_
  refine lv_isub hx hb dJI_bitCount_8 ?_
  refine lv_istore_n (lv' := [(0, .int (x - (((x.toUInt32 >>> ((1 : Int32).toUInt32 &&& Int32.toUInt32 31)).toInt32) &&& 1431655765)))]) hx hb dJI_bitCount_9 rfl hl (by decide) rfl (fun ls hl => ?_)
  refine lv_iload_n hx hb dJI_bitCount_10 rfl (lv_at hl 0 rfl) ?_
  refine lv_ldcw (v := 858993459) hx hb hown (ht 275 _ rfl) dJI_bitCount_11 ?_
  refine lv_iand hx hb dJI_bitCount_14 ?_
  refine lv_iload_n hx hb dJI_bitCount_15 rfl (lv_at hl 0 rfl) ?_
  refine lv_iconst (v := 2) hx hb dJI_bitCount_16 (by decide) ?_
  refine lv_iushr (v := ((x - (((x.toUInt32 >>> ((1 : Int32).toUInt32 &&& Int32.toUInt32 31)).toInt32) &&& 1431655765)).toUInt32 >>> ((2 : Int32).toUInt32 &&& Int32.toUInt32 31)).toInt32) hx hb dJI_bitCount_17 rfl ?_
  refine lv_ldcw (v := 858993459) hx hb hown (ht 275 _ rfl) dJI_bitCount_18 ?_
  refine lv_iand hx hb dJI_bitCount_21 ?_
  refine lv_iadd hx hb dJI_bitCount_22 ?_
  refine lv_istore_n (lv' := [(0, .int (((x - (((x.toUInt32 >>> ((1 : Int32).toUInt32 &&& Int32.toUInt32 31)).toInt32) &&& 1431655765)) &&& 858993459) + ((((x - (((x.toUInt32 >>> ((1 : Int32).toUInt32 &&& Int32.toUInt32 31)).toInt32) &&& 1431655765)).toUInt32 >>> ((2 : Int32).toUInt32 &&& Int32.toUInt32 31)).toInt32) &&& 858993459)))]) hx hb dJI_bitCount_23 rfl hl (by decide) rfl (fun ls hl => ?_)
  refine lv_iload_n hx hb dJI_bitCount_24 rfl (lv_at hl 0 rfl) ?_
  refine lv_iload_n hx hb dJI_bitCount_25 rfl (lv_at hl 0 rfl) ?_
  refine lv_iconst (v := 4) hx hb dJI_bitCount_26 (by decide) ?_
  refine lv_iushr (v := ((((x - (((x.toUInt32 >>> ((1 : Int32).toUInt32 &&& Int32.toUInt32 31)).toInt32) &&& 1431655765)) &&& 858993459) + ((((x - (((x.toUInt32 >>> ((1 : Int32).toUInt32 &&& Int32.toUInt32 31)).toInt32) &&& 1431655765)).toUInt32 >>> ((2 : Int32).toUInt32 &&& Int32.toUInt32 31)).toInt32) &&& 858993459)).toUInt32 >>> ((4 : Int32).toUInt32 &&& Int32.toUInt32 31)).toInt32) hx hb dJI_bitCount_27 rfl ?_
  refine lv_iadd hx hb dJI_bitCount_28 ?_
  refine lv_ldcw (v := 252645135) hx hb hown (ht 276 _ rfl) dJI_bitCount_29 ?_
  refine lv_iand hx hb dJI_bitCount_32 ?_
  refine lv_istore_n (lv' := [(0, .int (((((x - (((x.toUInt32 >>> ((1 : Int32).toUInt32 &&& Int32.toUInt32 31)).toInt32) &&& 1431655765)) &&& 858993459) + ((((x - (((x.toUInt32 >>> ((1 : Int32).toUInt32 &&& Int32.toUInt32 31)).toInt32) &&& 1431655765)).toUInt32 >>> ((2 : Int32).toUInt32 &&& Int32.toUInt32 31)).toInt32) &&& 858993459)) + (((((x - (((x.toUInt32 >>> ((1 : Int32).toUInt32 &&& Int32.toUInt32 31)).toInt32) &&& 1431655765)) &&& 858993459) + ((((x - (((x.toUInt32 >>> ((1 : Int32).toUInt32 &&& Int32.toUInt32 31)).toInt32) &&& 1431655765)).toUInt32 >>> ((2 : Int32).toUInt32 &&& Int32.toUInt32 31)).toInt32) &&& 858993459)).toUInt32 >>> ((4 : Int32).toUInt32 &&& Int32.toUInt32 31)).toInt32)) &&& 252645135))]) hx hb dJI_bitCount_33 rfl hl (by decide) rfl (fun ls hl => ?_)
  refine lv_iload_n hx hb dJI_bitCount_34 rfl (lv_at hl 0 rfl) ?_
  refine lv_iload_n hx hb dJI_bitCount_35 rfl (lv_at hl 0 rfl) ?_
  refine lv_bipush (v := 8) hx hb dJI_bitCount_36 (by decide) ?_
  refine lv_iushr (v := ((((((x - (((x.toUInt32 >>> ((1 : Int32).toUInt32 &&& Int32.toUInt32 31)).toInt32) &&& 1431655765)) &&& 858993459) + ((((x - (((x.toUInt32 >>> ((1 : Int32).toUInt32 &&& Int32.toUInt32 31)).toInt32) &&& 1431655765)).toUInt32 >>> ((2 : Int32).toUInt32 &&& Int32.toUInt32 31)).toInt32) &&& 858993459)) + (((((x - (((x.toUInt32 >>> ((1 : Int32).toUInt32 &&& Int32.toUInt32 31)).toInt32) &&& 1431655765)) &&& 858993459) + ((((x - (((x.toUInt32 >>> ((1 : Int32).toUInt32 &&& Int32.toUInt32 31)).toInt32) &&& 1431655765)).toUInt32 >>> ((2 : Int32).toUInt32 &&& Int32.toUInt32 31)).toInt32) &&& 858993459)).toUInt32 >>> ((4 : Int32).toUInt32 &&& Int32.toUInt32 31)).toInt32)) &&& 252645135).toUInt32 >>> ((8 : Int32).toUInt32 &&& Int32.toUInt32 31)).toInt32) hx hb dJI_bitCount_38 rfl ?_
  refine lv_iadd hx hb dJI_bitCount_39 ?_
  refine lv_istore_n (lv' := [(0, .int ((((((x - (((x.toUInt32 >>> ((1 : Int32).toUInt32 &&& Int32.toUInt32 31)).toInt32) &&& 1431655765)) &&& 858993459) + ((((x - (((x.toUInt32 >>> ((1 : Int32).toUInt32 &&& Int32.toUInt32 31)).toInt32) &&& 1431655765)).toUInt32 >>> ((2 : Int32).toUInt32 &&& Int32.toUInt32 31)).toInt32) &&& 858993459)) + (((((x - (((x.toUInt32 >>> ((1 : Int32).toUInt32 &&& Int32.toUInt32 31)).toInt32) &&& 1431655765)) &&& 858993459) + ((((x - (((x.toUInt32 >>> ((1 : Int32).toUInt32 &&& Int32.toUInt32 31)).toInt32) &&& 1431655765)).toUInt32 >>> ((2 : Int32).toUInt32 &&& Int32.toUInt32 31)).toInt32) &&& 858993459)).toUInt32 >>> ((4 : Int32).toUInt32 &&& Int32.toUInt32 31)).toInt32)) &&& 252645135) + (((((((x - (((x.toUInt32 >>> ((1 : Int32).toUInt32 &&& Int32.toUInt32 31)).toInt32) &&& 1431655765)) &&& 858993459) + ((((x - (((x.toUInt32 >>> ((1 : Int32).toUInt32 &&& Int32.toUInt32 31)).toInt32) &&& 1431655765)).toUInt32 >>> ((2 : Int32).toUInt32 &&& Int32.toUInt32 31)).toInt32) &&& 858993459)) + (((((x - (((x.toUInt32 >>> ((1 : Int32).toUInt32 &&& Int32.toUInt32 31)).toInt32) &&& 1431655765)) &&& 858993459) + ((((x - (((x.toUInt32 >>> ((1 : Int32).toUInt32 &&& Int32.toUInt32 31)).toInt32) &&& 1431655765)).toUInt32 >>> ((2 : Int32).toUInt32 &&& Int32.toUInt32 31)).toInt32) &&& 858993459)).toUInt32 >>> ((4 : Int32).toUInt32 &&& Int32.toUInt32 31)).toInt32)) &&& 252645135).toUInt32 >>> ((8 : Int32).toUInt32 &&& Int32.toUInt32 31)).toInt32)))]) hx hb dJI_bitCount_40 rfl hl (by decide) rfl (fun ls hl => ?_)
  refine lv_iload_n hx hb dJI_bitCount_41 rfl (lv_at hl 0 rfl) ?_
  refine lv_iload_n hx hb dJI_bitCount_42 rfl (lv_at hl 0 rfl) ?_
  refine lv_bipush (v := 16) hx hb dJI_bitCount_43 (by decide) ?_
  refine lv_iushr (v := (((((((x - (((x.toUInt32 >>> ((1 : Int32).toUInt32 &&& Int32.toUInt32 31)).toInt32) &&& 1431655765)) &&& 858993459) + ((((x - (((x.toUInt32 >>> ((1 : Int32).toUInt32 &&& Int32.toUInt32 31)).toInt32) &&& 1431655765)).toUInt32 >>> ((2 : Int32).toUInt32 &&& Int32.toUInt32 31)).toInt32) &&& 858993459)) + (((((x - (((x.toUInt32 >>> ((1 : Int32).toUInt32 &&& Int32.toUInt32 31)).toInt32) &&& 1431655765)) &&& 858993459) + ((((x - (((x.toUInt32 >>> ((1 : Int32).toUInt32 &&& Int32.toUInt32 31)).toInt32) &&& 1431655765)).toUInt32 >>> ((2 : Int32).toUInt32 &&& Int32.toUInt32 31)).toInt32) &&& 858993459)).toUInt32 >>> ((4 : Int32).toUInt32 &&& Int32.toUInt32 31)).toInt32)) &&& 252645135) + (((((((x - (((x.toUInt32 >>> ((1 : Int32).toUInt32 &&& Int32.toUInt32 31)).toInt32) &&& 1431655765)) &&& 858993459) + ((((x - (((x.toUInt32 >>> ((1 : Int32).toUInt32 &&& Int32.toUInt32 31)).toInt32) &&& 1431655765)).toUInt32 >>> ((2 : Int32).toUInt32 &&& Int32.toUInt32 31)).toInt32) &&& 858993459)) + (((((x - (((x.toUInt32 >>> ((1 : Int32).toUInt32 &&& Int32.toUInt32 31)).toInt32) &&& 1431655765)) &&& 858993459) + ((((x - (((x.toUInt32 >>> ((1 : Int32).toUInt32 &&& Int32.toUInt32 31)).toInt32) &&& 1431655765)).toUInt32 >>> ((2 : Int32).toUInt32 &&& Int32.toUInt32 31)).toInt32) &&& 858993459)).toUInt32 >>> ((4 : Int32).toUInt32 &&& Int32.toUInt32 31)).toInt32)) &&& 252645135).toUInt32 >>> ((8 : Int32).toUInt32 &&& Int32.toUInt32 31)).toInt32)).toUInt32 >>> ((16 : Int32).toUInt32 &&& Int32.toUInt32 31)).toInt32) hx hb dJI_bitCount_45 rfl ?_
  refine lv_iadd hx hb dJI_bitCount_46 ?_
  refine lv_istore_n (lv' := [(0, .int (((((((x - (((x.toUInt32 >>> ((1 : Int32).toUInt32 &&& Int32.toUInt32 31)).toInt32) &&& 1431655765)) &&& 858993459) + ((((x - (((x.toUInt32 >>> ((1 : Int32).toUInt32 &&& Int32.toUInt32 31)).toInt32) &&& 1431655765)).toUInt32 >>> ((2 : Int32).toUInt32 &&& Int32.toUInt32 31)).toInt32) &&& 858993459)) + (((((x - (((x.toUInt32 >>> ((1 : Int32).toUInt32 &&& Int32.toUInt32 31)).toInt32) &&& 1431655765)) &&& 858993459) + ((((x - (((x.toUInt32 >>> ((1 : Int32).toUInt32 &&& Int32.toUInt32 31)).toInt32) &&& 1431655765)).toUInt32 >>> ((2 : Int32).toUInt32 &&& Int32.toUInt32 31)).toInt32) &&& 858993459)).toUInt32 >>> ((4 : Int32).toUInt32 &&& Int32.toUInt32 31)).toInt32)) &&& 252645135) + (((((((x - (((x.toUInt32 >>> ((1 : Int32).toUInt32 &&& Int32.toUInt32 31)).toInt32) &&& 1431655765)) &&& 858993459) + ((((x - (((x.toUInt32 >>> ((1 : Int32).toUInt32 &&& Int32.toUInt32 31)).toInt32) &&& 1431655765)).toUInt32 >>> ((2 : Int32).toUInt32 &&& Int32.toUInt32 31)).toInt32) &&& 858993459)) + (((((x - (((x.toUInt32 >>> ((1 : Int32).toUInt32 &&& Int32.toUInt32 31)).toInt32) &&& 1431655765)) &&& 858993459) + ((((x - (((x.toUInt32 >>> ((1 : Int32).toUInt32 &&& Int32.toUInt32 31)).toInt32) &&& 1431655765)).toUInt32 >>> ((2 : Int32).toUInt32 &&& Int32.toUInt32 31)).toInt32) &&& 858993459)).toUInt32 >>> ((4 : Int32).toUInt32 &&& Int32.toUInt32 31)).toInt32)) &&& 252645135).toUInt32 >>> ((8 : Int32).toUInt32 &&& Int32.toUInt32 31)).toInt32)) + ((((((((x - (((x.toUInt32 >>> ((1 : Int32).toUInt32 &&& Int32.toUInt32 31)).toInt32) &&& 1431655765)) &&& 858993459) + ((((x - (((x.toUInt32 >>> ((1 : Int32).toUInt32 &&& Int32.toUInt32 31)).toInt32) &&& 1431655765)).toUInt32 >>> ((2 : Int32).toUInt32 &&& Int32.toUInt32 31)).toInt32) &&& 858993459)) + (((((x - (((x.toUInt32 >>> ((1 : Int32).toUInt32 &&& Int32.toUInt32 31)).toInt32) &&& 1431655765)) &&& 858993459) + ((((x - (((x.toUInt32 >>> ((1 : Int32).toUInt32 &&& Int32.toUInt32 31)).toInt32) &&& 1431655765)).toUInt32 >>> ((2 : Int32).toUInt32 &&& Int32.toUInt32 31)).toInt32) &&& 858993459)).toUInt32 >>> ((4 : Int32).toUInt32 &&& Int32.toUInt32 31)).toInt32)) &&& 252645135) + (((((((x - (((x.toUInt32 >>> ((1 : Int32).toUInt32 &&& Int32.toUInt32 31)).toInt32) &&& 1431655765)) &&& 858993459) + ((((x - (((x.toUInt32 >>> ((1 : Int32).toUInt32 &&& Int32.toUInt32 31)).toInt32) &&& 1431655765)).toUInt32 >>> ((2 : Int32).toUInt32 &&& Int32.toUInt32 31)).toInt32) &&& 858993459)) + (((((x - (((x.toUInt32 >>> ((1 : Int32).toUInt32 &&& Int32.toUInt32 31)).toInt32) &&& 1431655765)) &&& 858993459) + ((((x - (((x.toUInt32 >>> ((1 : Int32).toUInt32 &&& Int32.toUInt32 31)).toInt32) &&& 1431655765)).toUInt32 >>> ((2 : Int32).toUInt32 &&& Int32.toUInt32 31)).toInt32) &&& 858993459)).toUInt32 >>> ((4 : Int32).toUInt32 &&& Int32.toUInt32 31)).toInt32)) &&& 252645135).toUInt32 >>> ((8 : Int32).toUInt32 &&& Int32.toUInt32 31)).toInt32)).toUInt32 >>> ((16 : Int32).toUInt32 &&& Int32.toUInt32 31)).toInt32)))]) hx hb dJI_bitCount_47 rfl hl (by decide) rfl (fun ls hl => ?_)
  refine lv_iload_n hx hb dJI_bitCount_48 rfl (lv_at hl 0 rfl) ?_
  refine lv_bipush (v := 63) hx hb dJI_bitCount_49 (by decide) ?_
  refine lv_iand hx hb dJI_bitCount_51 ?_
  exact am_iretR hx hb hr hlocks (by rfl) dJI_bitCount_52
set_option maxHeartbeats 4000000 in
set_option maxRecDepth 100000 in
theorem c_X1_hasAct (l : Launch) (D : va_G) (ad : Nat → Nat) (cI cL : ClassId) (fi : Nat → Int32) (fl : Nat → Int64) (ai : Nat → Nat → Int32) (al : Nat → Nat → Int64) (x : Int32) : Met l yX1_hasAct wsX1_hasAct (am_rm 0 0) (va_Pc [.ref (ad 1), .int x] (am_R nwL vwCl D (ac_w ad cI cL fi fl ai al) [(cI, .int), (cL, .long)])) (vp_Si (fun r => r = ac_hasAct (fi 0) x)) 0 0 am_No := by
  refine am_startR (cc := cX1_hasAct) (maxL := 2) (ret := (some .boolean)) (by decide) rfl (Nat.le_of_ble_eq_true rfl) [(0, .ref (ad 1)), (1, .int x)] rfl ?_
  intro p e s m below meth c ls hx hb hr hml hown hts hlocks hP hK hN hl
  have hown : s.vm.findClass RX1 = some m.cls := hown
  have ht := am_ht hts
  have hin_X1 : ∀ w ∈ u_ws RX1 TX1 14, w ∈ wsX1_hasAct := fun w h => List.mem_cons_of_mem _ (am_inX1 w h)
  have hf_54 := ht 56 (.fieldLink RX1 54 "ApartCost$Product" "acts" "I") rfl
  refine lv_iload_n hx hb dX1_hasAct_0 rfl (lv_at hl 1 rfl) ?_
  refine lv_if_lt (tgt := 16) hx hb dX1_hasAct_1 (by decide) (fun c_1 => ?_) (fun c_1 => ?_)
  · skip
    refine lv_iconst (v := 0) hx hb dX1_hasAct_16 (by decide) ?_
    exact am_zretR hx hb hr hlocks (Or.inl rfl) (by first | rfl | (simp only [ac_hasAct, c_1, if_true, if_false, eq_self, not_true_eq_false, not_false_eq_true, ite_true, ite_false, ↓reduceIte]; done) | (simp [ac_hasAct, c_1]; done)) dX1_hasAct_17
  · skip
    refine lv_iload_n hx hb dX1_hasAct_4 rfl (lv_at hl 1 rfl) ?_
    refine lv_aload_n hx hb dX1_hasAct_5 rfl (lv_at hl 0 rfl) ?_
    refine va_get (D := D) (ci := 1) (v := .int (fi 0)) (C := RX1) (T := TX1) (N := 14) hx hb hts hin_X1 hown hK hP 1 rfl rfl 0 (by decide) hf_54 (fun _ h9 => h9) rfl dX1_hasAct_6 ?_
    refine lv_icmp_ge (tgt := 16) hx hb dX1_hasAct_9 (by decide) (fun c_9 => ?_) (fun c_9 => ?_)
    · skip
      refine lv_iconst (v := 0) hx hb dX1_hasAct_16 (by decide) ?_
      exact am_zretR hx hb hr hlocks (Or.inl rfl) (by first | rfl | (simp only [ac_hasAct, c_1, c_9, if_true, if_false, eq_self, not_true_eq_false, not_false_eq_true, ite_true, ite_false, ↓reduceIte]; done) | (simp [ac_hasAct, c_1, c_9]; done)) dX1_hasAct_17
    · skip
      refine lv_iconst (v := 1) hx hb dX1_hasAct_12 (by decide) ?_
      refine lv_goto (tgt := 17) hx hb dX1_hasAct_13 (by decide) ?_
      exact am_zretR hx hb hr hlocks (Or.inr rfl) (by first | rfl | (simp only [ac_hasAct, c_1, c_9, if_true, if_false, eq_self, not_true_eq_false, not_false_eq_true, ite_true, ite_false, ↓reduceIte]; done) | (simp [ac_hasAct, c_1, c_9]; done)) dX1_hasAct_17

set_option maxHeartbeats 4000000 in
set_option maxRecDepth 100000 in
theorem c_X1_allActs (l : Launch) (D : va_G) (ad : Nat → Nat) (cI cL : ClassId) (fi : Nat → Int32) (fl : Nat → Int64) (ai : Nat → Nat → Int32) (al : Nat → Nat → Int64) : Met l yX1_allActs wsX1_allActs (am_rm 0 0) (va_Pc [.ref (ad 1)] (am_R nwL vwCl D (ac_w ad cI cL fi fl ai al) [(cI, .int), (cL, .long)])) (vp_Si (fun r => r = ac_all (fi 0))) 0 0 am_No := by
  refine am_startR (cc := cX1_allActs) (maxL := 1) (ret := (some .int)) (by decide) rfl (Nat.le_of_ble_eq_true rfl) [(0, .ref (ad 1))] rfl ?_
  intro p e s m below meth c ls hx hb hr hml hown hts hlocks hP hK hN hl
  have hown : s.vm.findClass RX1 = some m.cls := hown
  have ht := am_ht hts
  have hin_X1 : ∀ w ∈ u_ws RX1 TX1 14, w ∈ wsX1_allActs := fun w h => List.mem_cons_of_mem _ (am_inX1 w h)
  have hf_54 := ht 56 (.fieldLink RX1 54 "ApartCost$Product" "acts" "I") rfl
  refine lv_iconst (v := 1) hx hb dX1_allActs_0 (by decide) ?_
  refine lv_aload_n hx hb dX1_allActs_1 rfl (lv_at hl 0 rfl) ?_
  refine va_get (D := D) (ci := 1) (v := .int (fi 0)) (C := RX1) (T := TX1) (N := 14) hx hb hts hin_X1 hown hK hP 1 rfl rfl 0 (by decide) hf_54 (fun _ h9 => h9) rfl dX1_allActs_2 ?_
  refine lv_ishl hx hb dX1_allActs_5 ?_
  refine lv_iconst (v := 1) hx hb dX1_allActs_6 (by decide) ?_
  refine lv_isub hx hb dX1_allActs_7 ?_
  exact am_iretR hx hb hr hlocks (by first | rfl | (simp only [ac_all, if_true, if_false, eq_self, not_true_eq_false, not_false_eq_true, ite_true, ite_false, ↓reduceIte]; done) | (simp [ac_all]; done)) dX1_allActs_8

set_option maxHeartbeats 4000000 in
set_option maxRecDepth 100000 in
theorem c_X1_placeOfRest (l : Launch) (D : va_G) (ad : Nat → Nat) (cI cL : ClassId) (fi : Nat → Int32) (fl : Nat → Int64) (ai : Nat → Nat → Int32) (al : Nat → Nat → Int64) (x : Int32) (nr : Nat) (hnr : fi 2 = nI nr) (hnrl : nr ≤ 16) : Met l yX1_placeOfRest wsX1_placeOfRest (am_rm 0 0) (va_Pc [.ref (ad 1), .int x] (am_R nwL vwCl D (ac_w ad cI cL fi fl ai al) [(cI, .int), (cL, .long)])) (vp_Si (fun r => r = nI (ac_place (ai 14) x nr 0))) 0 0 am_No := by
  refine am_startR (cc := cX1_placeOfRest) (maxL := 3) (ret := (some .int)) (by decide) rfl (Nat.le_of_ble_eq_true rfl) [(0, .ref (ad 1)), (1, .int x)] rfl ?_
  intro p e s m below meth c ls hx hb hr hml hown hts hlocks hP hK hN hl
  have hown : s.vm.findClass RX1 = some m.cls := hown
  have ht := am_ht hts
  have hin_X1 : ∀ w ∈ u_ws RX1 TX1 14, w ∈ wsX1_placeOfRest := fun w h => List.mem_cons_of_mem _ (am_inX1 w h)
  have hf_40 := ht 81 (.fieldLink RX1 40 "ApartCost$Product" "restParts" "[I") rfl
  have hf_66 := ht 79 (.fieldLink RX1 66 "ApartCost$Product" "rests" "I") rfl
  refine lv_iconst (v := 0) hx hb dX1_placeOfRest_0 (by decide) ?_
  refine lv_istore_n (lv' := [(2, .int 0), (0, .ref (ad 1)), (1, .int x)]) hx hb dX1_placeOfRest_1 rfl hl (by decide) rfl (fun ls hl => ?_)
  refine am_loopR (σ := Nat) (fun q n9 ls => n9 = nr - q ∧ q ≤ nr ∧ ac_place (ai 14) x nr 0 = ac_place (ai 14) x (nr - q) q ∧ lv_has ls 3 [(0, .ref (ad 1)), (1, .int x), (2, .int (nI q))]) ?_ 0 (nr - 0) ls ⟨rfl, (by omega), rfl, lv_sub hl [1, 2, 0] rfl⟩
  rintro k n9 ls ⟨hn_2, hk, hm, hl⟩ ih_2
  refine lv_iload_n hx hb dX1_placeOfRest_2 rfl (lv_at hl 2 rfl) ?_
  refine lv_aload_n hx hb dX1_placeOfRest_3 rfl (lv_at hl 0 rfl) ?_
  refine va_get (D := D) (ci := 1) (v := .int (fi 2)) (C := RX1) (T := TX1) (N := 14) hx hb hts hin_X1 hown hK hP 1 rfl rfl 11 (by decide) hf_66 (fun _ h9 => h9) rfl dX1_placeOfRest_4 ?_
  refine lv_icmp_ge (tgt := 28) hx hb dX1_placeOfRest_7 (by decide) (fun c_7 => ?_) (fun c_7 => ?_)
  · skip
    have hke_7 : nr ≤ k := (am_ge hnr (by omega) (by omega)).mp c_7
    have hkq_7 : nr = k := by omega
    subst hkq_7
    refine lv_aload_n hx hb dX1_placeOfRest_28 rfl (lv_at hl 0 rfl) ?_
    refine va_get (D := D) (ci := 1) (v := .int (fi 2)) (C := RX1) (T := TX1) (N := 14) hx hb hts hin_X1 hown hK hP 1 rfl rfl 11 (by decide) hf_66 (fun _ h9 => h9) rfl dX1_placeOfRest_29 ?_
    exact am_iretR hx hb hr hlocks (by rw [hm, hnr, Nat.sub_self, ac_place]) dX1_placeOfRest_32
  · skip
    have hkl_7 : k < nr := Nat.lt_of_not_le (fun z => c_7 ((am_ge hnr (by omega) (by omega)).mpr z))
    refine lv_aload_n hx hb dX1_placeOfRest_10 rfl (lv_at hl 0 rfl) ?_
    refine va_get (D := D) (ci := 1) (v := .ref (ad 14)) (C := RX1) (T := TX1) (N := 14) hx hb hts hin_X1 hown hK hP 1 rfl rfl 12 (by decide) hf_40 (fun _ h9 => h9) rfl dX1_placeOfRest_11 ?_
    refine lv_iload_n hx hb dX1_placeOfRest_14 rfl (lv_at hl 2 rfl) ?_
    refine am_iald hx hb hK hP 14 0 rfl rfl k rfl (by omega) (by decide) dX1_placeOfRest_15 ?_
    refine lv_iload_n hx hb dX1_placeOfRest_16 rfl (lv_at hl 1 rfl) ?_
    refine lv_icmp_ne (tgt := 22) hx hb dX1_placeOfRest_17 (by decide) (fun c_17 => ?_) (fun c_17 => ?_)
    · skip
      refine lv_iinc (v := nI (k + 1)) (lv' := [(2, .int (nI (k + 1))), (0, .ref (ad 1)), (1, .int x)]) hx hb dX1_placeOfRest_22 hl (k := 2) rfl (nI_1 k) (by decide) rfl (fun ls hl => ?_)
      refine lv_goto (tgt := 2) hx hb dX1_placeOfRest_25 (by decide) ?_
      refine ih_2 (k + 1) (nr - (k + 1)) ls (by omega) ⟨rfl, (by omega), (by rw [hm, show nr - k = (nr - (k + 1)) + 1 by omega, ac_place, if_neg c_17]), ?_⟩
      exact lv_sub hl [1, 2, 0] rfl
    · skip
      refine lv_iload_n hx hb dX1_placeOfRest_20 rfl (lv_at hl 2 rfl) ?_
      exact am_iretR hx hb hr hlocks (by rw [hm, show nr - k = (nr - (k + 1)) + 1 by omega, ac_place, if_pos c_17]) dX1_placeOfRest_21

set_option maxHeartbeats 4000000 in
set_option maxRecDepth 100000 in
theorem c_X1_restWorth (l : Launch) (D : va_G) (ad : Nat → Nat) (cI cL : ClassId) (fi : Nat → Int32) (fl : Nat → Int64) (ai : Nat → Nat → Int32) (al : Nat → Nat → Int64) (x : Int32) (nr : Nat) (hnr : fi 2 = nI nr) (hnrl : nr ≤ 16) : Met l yX1_restWorth wsX1_restWorth (am_rm 1 22) (va_Pc [.ref (ad 1), .int x] (am_R nwL vwCl D (ac_w ad cI cL fi fl ai al) [(cI, .int), (cL, .long)])) (vp_Sl (fun r => r = ac_restW (ai 14) (al 15) nr x)) 0 0 am_No := by
  refine am_startR (cc := cX1_restWorth) (maxL := 3) (ret := (some .long)) (by decide) rfl (Nat.le_of_ble_eq_true rfl) [(0, .ref (ad 1)), (1, .int x)] rfl ?_
  intro p e s m below meth c ls hx hb hr hml hown hts hlocks hP hK hN hl
  have hown : s.vm.findClass RX1 = some m.cls := hown
  have ht := am_ht hts
  have hin_X1 : ∀ w ∈ u_ws RX1 TX1 14, w ∈ wsX1_restWorth := fun w h => List.mem_cons_of_mem _ (am_inX1 w h)
  have hf_43 := ht 82 (.fieldLink RX1 43 "ApartCost$Product" "restCents" "[J") rfl
  have hf_66 := ht 79 (.fieldLink RX1 66 "ApartCost$Product" "rests" "I") rfl
  have hpb := (ac_place_le (ai 14) x nr 0).2
  refine lv_aload_n hx hb dX1_restWorth_0 rfl (lv_at hl 0 rfl) ?_
  refine lv_iload_n hx hb dX1_restWorth_1 rfl (lv_at hl 1 rfl) ?_
  refine am_callRi (W.runV (As := [.int x]) (rest := []) ⟨hx, hb, hml, hown, hts⟩ (c_X1_placeOfRest l D ad cI cL fi fl ai al x nr hnr hnrl) (cwV 1 hts (am_gV (am_in 239 rfl) (am_in 240 rfl) (am_in 0 rfl) (am_in 30 rfl) (am_in 241 rfl)) rfl rfl rfl (by decide +kernel) ⟨Nat.le_of_ble_eq_true rfl, Nat.le_of_ble_eq_true rfl⟩) (am_preVR 1 1 rfl rfl rfl hP hK hN) rfl rfl hl.1 rfl (lv_room (Nat.le_of_ble_eq_true rfl)) dX1_restWorth_2 ⟨Nat.zero_le _, Nat.zero_le _⟩) ?_
  refine lv_istore_n (lv' := [(2, .int (nI (ac_place (ai 14) x nr 0))), (0, .ref (ad 1)), (1, .int x)]) hx hb dX1_restWorth_5 rfl hl (by decide) rfl (fun ls hl => ?_)
  refine lv_iload_n hx hb dX1_restWorth_6 rfl (lv_at hl 0 rfl) ?_
  refine lv_aload_n hx hb dX1_restWorth_7 rfl (lv_at hl 1 rfl) ?_
  refine va_get (D := D) (ci := 1) (v := .int (fi 2)) (C := RX1) (T := TX1) (N := 14) hx hb hts hin_X1 hown hK hP 1 rfl rfl 11 (by decide) hf_66 (fun _ h9 => h9) rfl dX1_restWorth_8 ?_
  refine lv_icmp_ge (tgt := 23) hx hb dX1_restWorth_11 (by decide) (fun c_11 => ?_) (fun c_11 => ?_)
  · skip
    have hpg : nr ≤ ac_place (ai 14) x nr 0 := (am_ge hnr (by omega) (by omega)).mp c_11
    refine lv_lconst (v := 0) hx hb dX1_restWorth_23 (by decide) ?_
    exact am_lretR hx hb hr hlocks (by rw [ac_restW, if_neg (Nat.not_lt.mpr hpg)]) dX1_restWorth_24
  · skip
    have hpl : ac_place (ai 14) x nr 0 < nr := Nat.lt_of_not_le (fun z => c_11 ((am_ge hnr (by omega) (by omega)).mpr z))
    refine lv_aload_n hx hb dX1_restWorth_14 rfl (lv_at hl 1 rfl) ?_
    refine va_get (D := D) (ci := 1) (v := .ref (ad 15)) (C := RX1) (T := TX1) (N := 14) hx hb hts hin_X1 hown hK hP 1 rfl rfl 13 (by decide) hf_43 (fun _ h9 => h9) rfl dX1_restWorth_15 ?_
    refine lv_iload_n hx hb dX1_restWorth_18 rfl (lv_at hl 0 rfl) ?_
    refine am_lald hx hb hK hP 15 1 rfl rfl (ac_place (ai 14) x nr 0) rfl (by omega) (by decide) dX1_restWorth_19 ?_
    refine lv_goto (tgt := 24) hx hb dX1_restWorth_20 (by decide) ?_
    exact am_lretR hx hb hr hlocks (by rw [ac_restW, if_pos hpl]) dX1_restWorth_24

set_option maxHeartbeats 4000000 in
set_option maxRecDepth 100000 in
theorem c_X1_valueOf (l : Launch) (D : va_G) (ad : Nat → Nat) (cI cL : ClassId) (fi : Nat → Int32) (fl : Nat → Int64) (ai : Nat → Nat → Int32) (al : Nat → Nat → Int64) (a : Nat) (ha : a < 12) : Met l yX1_valueOf wsX1_valueOf (am_rm 0 0) (va_Pc [.ref (ad 1), .int (nI a)] (am_R nwL vwCl D (ac_w ad cI cL fi fl ai al) [(cI, .int), (cL, .long)])) (vp_Sl (fun r => r = (al 12) a * (al 13) a)) 0 0 am_No := by
  refine am_startR (cc := cX1_valueOf) (maxL := 2) (ret := (some .long)) (by decide) rfl (Nat.le_of_ble_eq_true rfl) [(0, .ref (ad 1)), (1, .int (nI a))] rfl ?_
  intro p e s m below meth c ls hx hb hr hml hown hts hlocks hP hK hN hl
  have hown : s.vm.findClass RX1 = some m.cls := hown
  have ht := am_ht hts
  have hin_X1 : ∀ w ∈ u_ws RX1 TX1 14, w ∈ wsX1_valueOf := fun w h => List.mem_cons_of_mem _ (am_inX1 w h)
  have hf_34 := ht 74 (.fieldLink RX1 34 "ApartCost$Product" "worths" "[J") rfl
  have hf_37 := ht 77 (.fieldLink RX1 37 "ApartCost$Product" "shares" "[J") rfl
  refine lv_aload_n hx hb dX1_valueOf_0 rfl (lv_at hl 0 rfl) ?_
  refine va_get (D := D) (ci := 1) (v := .ref (ad 12)) (C := RX1) (T := TX1) (N := 14) hx hb hts hin_X1 hown hK hP 1 rfl rfl 9 (by decide) hf_34 (fun _ h9 => h9) rfl dX1_valueOf_1 ?_
  refine lv_iload_n hx hb dX1_valueOf_4 rfl (lv_at hl 1 rfl) ?_
  refine am_lald hx hb hK hP 12 1 rfl rfl a rfl (by omega) (by decide) dX1_valueOf_5 ?_
  refine lv_aload_n hx hb dX1_valueOf_6 rfl (lv_at hl 0 rfl) ?_
  refine va_get (D := D) (ci := 1) (v := .ref (ad 13)) (C := RX1) (T := TX1) (N := 14) hx hb hts hin_X1 hown hK hP 1 rfl rfl 10 (by decide) hf_37 (fun _ h9 => h9) rfl dX1_valueOf_7 ?_
  refine lv_iload_n hx hb dX1_valueOf_10 rfl (lv_at hl 1 rfl) ?_
  refine am_lald hx hb hK hP 13 1 rfl rfl a rfl (by omega) (by decide) dX1_valueOf_11 ?_
  refine lv_lmul hx hb dX1_valueOf_12 ?_
  exact am_lretR hx hb hr hlocks (by rfl) dX1_valueOf_13

set_option maxHeartbeats 4000000 in
set_option maxRecDepth 100000 in
theorem c_X1_freedBy (l : Launch) (D : va_G) (ad : Nat → Nat) (cI cL : ClassId) (fi : Nat → Int32) (fl : Nat → Int64) (ai : Nat → Nat → Int32) (al : Nat → Nat → Int64) (x : Int32) (na : Nat) (hna : fi 0 = nI na) (hnl : na ≤ 10) : Met l yX1_freedBy wsX1_freedBy (am_rm 1 21) (va_Pc [.ref (ad 1), .int x] (am_R nwL vwCl D (ac_w ad cI cL fi fl ai al) [(cI, .int), (cL, .long)])) (vp_Si (fun r => r = ac_freed (ai 5) x na)) 0 0 am_No := by
  refine am_startR (cc := cX1_freedBy) (maxL := 4) (ret := (some .int)) (by decide) rfl (Nat.le_of_ble_eq_true rfl) [(0, .ref (ad 1)), (1, .int x)] rfl ?_
  intro p e s m below meth c ls hx hb hr hml hown hts hlocks hP hK hN hl
  have hown : s.vm.findClass RX1 = some m.cls := hown
  have ht := am_ht hts
  have hin_X1 : ∀ w ∈ u_ws RX1 TX1 14, w ∈ wsX1_freedBy := fun w h => List.mem_cons_of_mem _ (am_inX1 w h)
  have hf_54 := ht 56 (.fieldLink RX1 54 "ApartCost$Product" "acts" "I") rfl
  have hf_9 := ht 60 (.fieldLink RX1 9 "ApartCost$Product" "frees" "[I") rfl
  refine lv_iconst (v := 0) hx hb dX1_freedBy_0 (by decide) ?_
  refine lv_istore_n (lv' := [(2, .int 0), (0, .ref (ad 1)), (1, .int x)]) hx hb dX1_freedBy_1 rfl hl (by decide) rfl (fun ls hl => ?_)
  refine lv_iconst (v := 0) hx hb dX1_freedBy_2 (by decide) ?_
  refine lv_istore_n (lv' := [(3, .int 0), (2, .int 0), (0, .ref (ad 1)), (1, .int x)]) hx hb dX1_freedBy_3 rfl hl (by decide) rfl (fun ls hl => ?_)
  refine am_loopR (σ := Nat) (fun q n9 ls => n9 = na - q ∧ q ≤ na ∧ lv_has ls 4 [(0, .ref (ad 1)), (1, .int x), (2, .int (ac_freed (ai 5) x q)), (3, .int (nI q))]) ?_ 0 (na - 0) ls ⟨rfl, (by omega), lv_sub hl [2, 3, 1, 0] rfl⟩
  rintro k n9 ls ⟨hn_4, hk, hl⟩ ih_4
  refine lv_iload_n hx hb dX1_freedBy_4 rfl (lv_at hl 3 rfl) ?_
  refine lv_aload_n hx hb dX1_freedBy_5 rfl (lv_at hl 0 rfl) ?_
  refine va_get (D := D) (ci := 1) (v := .int (fi 0)) (C := RX1) (T := TX1) (N := 14) hx hb hts hin_X1 hown hK hP 1 rfl rfl 0 (by decide) hf_54 (fun _ h9 => h9) rfl dX1_freedBy_6 ?_
  refine lv_icmp_ge (tgt := 47) hx hb dX1_freedBy_9 (by decide) (fun c_9 => ?_) (fun c_9 => ?_)
  · skip
    have hke_9 : na ≤ k := (am_ge hna (by omega) (by omega)).mp c_9
    have hkq_9 : na = k := by omega
    subst hkq_9
    refine lv_iload_n hx hb dX1_freedBy_47 rfl (lv_at hl 2 rfl) ?_
    exact am_iretR hx hb hr hlocks (by first | rfl | (simp only [c_9, if_true, if_false, eq_self, not_true_eq_false, not_false_eq_true, ite_true, ite_false, ↓reduceIte]; done) | (simp [c_9]; done)) dX1_freedBy_48
  · skip
    have hkl_9 : k < na := Nat.lt_of_not_le (fun z => c_9 ((am_ge hna (by omega) (by omega)).mpr z))
    refine lv_iload_n hx hb dX1_freedBy_12 rfl (lv_at hl 1 rfl) ?_
    refine lv_iload_n hx hb dX1_freedBy_13 rfl (lv_at hl 3 rfl) ?_
    refine am_callRi (va_Run.run (va_runSN (As := [.int x, .int (nI k)]) (rest := []) ⟨hx, hb, hml, hown, hts⟩ (c_X0_has l D _ _ x (nI k)) ⟨va_cnB 2 hts (am_gN (am_in 206 rfl)) rfl rfl rfl (am_nw_at hN 1 rfl) (ht 29 _ rfl) (by decide +kernel) ⟨Nat.le_of_ble_eq_true rfl, Nat.le_of_ble_eq_true rfl⟩, (ht 205 _ rfl), trivial⟩ (am_preSR hP hK hN) rfl rfl hl.1 rfl (lv_room (Nat.le_of_ble_eq_true rfl)) dX1_freedBy_14 ⟨Nat.zero_le _, Nat.zero_le _⟩)) ?_
    refine lv_if_eq (tgt := 41) hx hb dX1_freedBy_17 (by decide) (fun c_17 => ?_) (fun c_17 => ?_)
    · skip
      refine lv_iinc (v := nI (k + 1)) (lv' := [(3, .int (nI (k + 1))), (0, .ref (ad 1)), (1, .int x), (2, .int (ac_freed (ai 5) x k))]) hx hb dX1_freedBy_41 hl (k := 3) rfl (nI_1 k) (by decide) rfl (fun ls hl => ?_)
      refine lv_goto (tgt := 4) hx hb dX1_freedBy_44 (by decide) ?_
      have e_4_0 : ac_freed (ai 5) x (k + 1) = ac_freed (ai 5) x k := by first | rfl | (simp only [ac_freed, c_9, c_17, if_true, if_false, eq_self, not_true_eq_false, not_false_eq_true, ite_true, ite_false, ↓reduceIte]; done) | (simp [ac_freed, c_9, c_17]; done)
      refine ih_4 (k + 1) (na - (k + 1)) ls (by omega) ⟨rfl, (by omega), ?_⟩
      try dsimp only
      rw [e_4_0]
      exact lv_sub hl [1, 2, 3, 0] rfl
    · skip
      refine lv_aload_n hx hb dX1_freedBy_20 rfl (lv_at hl 0 rfl) ?_
      refine va_get (D := D) (ci := 1) (v := .ref (ad 5)) (C := RX1) (T := TX1) (N := 14) hx hb hts hin_X1 hown hK hP 1 rfl rfl 1 (by decide) hf_9 (fun _ h9 => h9) rfl dX1_freedBy_21 ?_
      refine lv_iload_n hx hb dX1_freedBy_24 rfl (lv_at hl 3 rfl) ?_
      refine am_iald hx hb hK hP 5 0 rfl rfl k rfl (by omega) (by decide) dX1_freedBy_25 ?_
      refine lv_iconst (v := (-1)) hx hb dX1_freedBy_26 (by decide) ?_
      refine lv_icmp_eq (tgt := 41) hx hb dX1_freedBy_27 (by decide) (fun c_27 => ?_) (fun c_27 => ?_)
      · skip
        refine lv_iinc (v := nI (k + 1)) (lv' := [(3, .int (nI (k + 1))), (0, .ref (ad 1)), (1, .int x), (2, .int (ac_freed (ai 5) x k))]) hx hb dX1_freedBy_41 hl (k := 3) rfl (nI_1 k) (by decide) rfl (fun ls hl => ?_)
        refine lv_goto (tgt := 4) hx hb dX1_freedBy_44 (by decide) ?_
        have e_4_0 : ac_freed (ai 5) x (k + 1) = ac_freed (ai 5) x k := by first | rfl | (simp only [ac_freed, c_9, c_17, c_27, if_true, if_false, eq_self, not_true_eq_false, not_false_eq_true, ite_true, ite_false, ↓reduceIte]; done) | (simp [ac_freed, c_9, c_17, c_27]; done)
        refine ih_4 (k + 1) (na - (k + 1)) ls (by omega) ⟨rfl, (by omega), ?_⟩
        try dsimp only
        rw [e_4_0]
        exact lv_sub hl [1, 2, 3, 0] rfl
      · skip
        refine lv_iload_n hx hb dX1_freedBy_30 rfl (lv_at hl 2 rfl) ?_
        refine lv_iconst (v := 1) hx hb dX1_freedBy_31 (by decide) ?_
        refine lv_aload_n hx hb dX1_freedBy_32 rfl (lv_at hl 0 rfl) ?_
        refine va_get (D := D) (ci := 1) (v := .ref (ad 5)) (C := RX1) (T := TX1) (N := 14) hx hb hts hin_X1 hown hK hP 1 rfl rfl 1 (by decide) hf_9 (fun _ h9 => h9) rfl dX1_freedBy_33 ?_
        refine lv_iload_n hx hb dX1_freedBy_36 rfl (lv_at hl 3 rfl) ?_
        refine am_iald hx hb hK hP 5 0 rfl rfl k rfl (by omega) (by decide) dX1_freedBy_37 ?_
        refine lv_ishl hx hb dX1_freedBy_38 ?_
        refine lv_ior hx hb dX1_freedBy_39 ?_
        refine lv_istore_n (lv' := [(2, .int ((ac_freed (ai 5) x k) ||| ((1 : Int32) <<< (((ai 5) k) &&& 31)))), (0, .ref (ad 1)), (1, .int x), (3, .int (nI k))]) hx hb dX1_freedBy_40 rfl hl (by decide) rfl (fun ls hl => ?_)
        refine lv_iinc (v := nI (k + 1)) (lv' := [(3, .int (nI (k + 1))), (2, .int ((ac_freed (ai 5) x k) ||| ((1 : Int32) <<< (((ai 5) k) &&& 31)))), (0, .ref (ad 1)), (1, .int x)]) hx hb dX1_freedBy_41 hl (k := 3) rfl (nI_1 k) (by decide) rfl (fun ls hl => ?_)
        refine lv_goto (tgt := 4) hx hb dX1_freedBy_44 (by decide) ?_
        have e_4_0 : ac_freed (ai 5) x (k + 1) = (ac_freed (ai 5) x k) ||| ((1 : Int32) <<< (((ai 5) k) &&& 31)) := by first | rfl | (simp only [ac_freed, c_9, c_17, c_27, if_true, if_false, eq_self, not_true_eq_false, not_false_eq_true, ite_true, ite_false, ↓reduceIte]; done) | (simp [ac_freed, c_9, c_17, c_27]; done)
        refine ih_4 (k + 1) (na - (k + 1)) ls (by omega) ⟨rfl, (by omega), ?_⟩
        try dsimp only
        rw [e_4_0]
        exact lv_sub hl [2, 3, 1, 0] rfl

set_option maxHeartbeats 4000000 in
set_option maxRecDepth 100000 in
theorem c_X1_wholeBy (l : Launch) (D : va_G) (ad : Nat → Nat) (cI cL : ClassId) (fi : Nat → Int32) (fl : Nat → Int64) (ai : Nat → Nat → Int32) (al : Nat → Nat → Int64) (x : Int32) (na : Nat) (hna : fi 0 = nI na) (hnl : na ≤ 10) : Met l yX1_wholeBy wsX1_wholeBy (am_rm 2 44) (va_Pc [.ref (ad 1), .int x] (am_R nwL vwCl D (ac_w ad cI cL fi fl ai al) [(cI, .int), (cL, .long)])) (vp_Si (fun r => r = ac_whole (ai 5) (fi 1) na x)) 0 0 am_No := by
  refine am_startR (cc := cX1_wholeBy) (maxL := 2) (ret := (some .int)) (by decide) rfl (Nat.le_of_ble_eq_true rfl) [(0, .ref (ad 1)), (1, .int x)] rfl ?_
  intro p e s m below meth c ls hx hb hr hml hown hts hlocks hP hK hN hl
  have hown : s.vm.findClass RX1 = some m.cls := hown
  have ht := am_ht hts
  have hin_X1 : ∀ w ∈ u_ws RX1 TX1 14, w ∈ wsX1_wholeBy := fun w h => List.mem_cons_of_mem _ (am_inX1 w h)
  have hf_72 := ht 69 (.fieldLink RX1 72 "ApartCost$Product" "breaking" "I") rfl
  refine lv_aload_n hx hb dX1_wholeBy_0 rfl (lv_at hl 0 rfl) ?_
  refine lv_iload_n hx hb dX1_wholeBy_1 rfl (lv_at hl 1 rfl) ?_
  refine am_callRi (W.runV (As := [.int x]) (rest := []) ⟨hx, hb, hml, hown, hts⟩ (c_X1_freedBy l D ad cI cL fi fl ai al x na hna hnl) (cwV 1 hts (am_gV (am_in 320 rfl) (am_in 321 rfl) (am_in 322 rfl) (am_in 30 rfl) (am_in 323 rfl)) rfl rfl rfl (by decide +kernel) ⟨Nat.le_of_ble_eq_true rfl, Nat.le_of_ble_eq_true rfl⟩) (am_preVR 1 1 rfl rfl rfl hP hK hN) rfl rfl hl.1 rfl (lv_room (Nat.le_of_ble_eq_true rfl)) dX1_wholeBy_2 ⟨Nat.zero_le _, Nat.zero_le _⟩) ?_
  refine lv_aload_n hx hb dX1_wholeBy_5 rfl (lv_at hl 0 rfl) ?_
  refine lv_iload_n hx hb dX1_wholeBy_6 rfl (lv_at hl 1 rfl) ?_
  refine lv_aload_n hx hb dX1_wholeBy_7 rfl (lv_at hl 0 rfl) ?_
  refine va_get (D := D) (ci := 1) (v := .int (fi 1)) (C := RX1) (T := TX1) (N := 14) hx hb hts hin_X1 hown hK hP 1 rfl rfl 6 (by decide) hf_72 (fun _ h9 => h9) rfl dX1_wholeBy_8 ?_
  refine lv_iand hx hb dX1_wholeBy_11 ?_
  refine am_callRi (W.runV (As := [.int (x &&& (fi 1))]) (rest := [.int (ac_freed (ai 5) x na)]) ⟨hx, hb, hml, hown, hts⟩ (c_X1_freedBy l D ad cI cL fi fl ai al (x &&& (fi 1)) na hna hnl) (cwV 1 hts (am_gV (am_in 320 rfl) (am_in 321 rfl) (am_in 322 rfl) (am_in 30 rfl) (am_in 323 rfl)) rfl rfl rfl (by decide +kernel) ⟨Nat.le_of_ble_eq_true rfl, Nat.le_of_ble_eq_true rfl⟩) (am_preVR 1 1 rfl rfl rfl hP hK hN) rfl rfl hl.1 rfl (lv_room (Nat.le_of_ble_eq_true rfl)) dX1_wholeBy_12 ⟨Nat.zero_le _, Nat.zero_le _⟩) ?_
  refine lv_iconst (v := (-1)) hx hb dX1_wholeBy_15 (by decide) ?_
  refine lv_ixor hx hb dX1_wholeBy_16 ?_
  refine lv_iand hx hb dX1_wholeBy_17 ?_
  exact am_iretR hx hb hr hlocks (by first | rfl | (simp only [ac_whole, if_true, if_false, eq_self, not_true_eq_false, not_false_eq_true, ite_true, ite_false, ↓reduceIte]; done) | (simp [ac_whole]; done)) dX1_wholeBy_18

set_option maxHeartbeats 4000000 in
set_option maxRecDepth 100000 in
theorem c_X1_centsOfStep (l : Launch) (D : va_G) (ad : Nat → Nat) (cI cL : ClassId) (fi : Nat → Int32) (fl : Nat → Int64) (ai : Nat → Nat → Int32) (al : Nat → Nat → Int64) (j : Nat) (b : Nat) (na : Nat) (hna : fi 0 = nI na) (hnl : na ≤ 10) (hto : ∀ a, a < na → ∃ t, t < 6 ∧ (ai 6) a = nI t) (hsi : ∀ a, a < na → ∃ t, t < 6 ∧ (ai 7) a = nI t) (hj : j ≤ na) (hb2 : b < na) : Met l yX1_centsOfStep wsX1_centsOfStep (am_rm 0 0) (va_Pc [.ref (ad 1), .int (ac_la j), .int (nI b)] (am_R nwL vwCl D (ac_w ad cI cL fi fl ai al) [(cI, .int), (cL, .long)])) (vp_Sl (fun r => r = ac_cents (ai 6) (ai 7) (al 8) (al 10) (al 11) j b)) 0 0 am_No := by
  refine am_startR (cc := cX1_centsOfStep) (maxL := 7) (ret := (some .long)) (by decide) rfl (Nat.le_of_ble_eq_true rfl) [(0, .ref (ad 1)), (1, .int (ac_la j)), (2, .int (nI b))] rfl ?_
  intro p e s m below meth c ls hx hb hr hml hown hts hlocks hP hK hN hl
  have hown : s.vm.findClass RX1 = some m.cls := hown
  have ht := am_ht hts
  have hin_X1 : ∀ w ∈ u_ws RX1 TX1 14, w ∈ wsX1_centsOfStep := fun w h => List.mem_cons_of_mem _ (am_inX1 w h)
  have hf_15 := ht 61 (.fieldLink RX1 15 "ApartCost$Product" "tools" "[I") rfl
  have hf_18 := ht 62 (.fieldLink RX1 18 "ApartCost$Product" "sides" "[I") rfl
  have hf_21 := ht 63 (.fieldLink RX1 21 "ApartCost$Product" "cents" "[J") rfl
  have hf_28 := ht 70 (.fieldLink RX1 28 "ApartCost$Product" "changes" "[J") rfl
  have hf_31 := ht 72 (.fieldLink RX1 31 "ApartCost$Product" "turns" "[J") rfl
  refine lv_iload_n hx hb dX1_centsOfStep_0 rfl (lv_at hl 1 rfl) ?_
  refine lv_iconst (v := (-1)) hx hb dX1_centsOfStep_1 (by decide) ?_
  refine lv_icmp_ne (tgt := 12) hx hb dX1_centsOfStep_2 (by decide) (fun c_2 => ?_) (fun c_2 => ?_)
  · skip
    obtain ⟨a, rfl⟩ : ∃ z, j = z + 1 := by cases j with | zero => exact absurd rfl c_2 | succ z => exact ⟨z, rfl⟩
    have hl : lv_has ls 7 [(0, .ref (ad 1)), (1, .int (nI a)), (2, .int (nI b))] := hl
    refine lv_aload_n hx hb dX1_centsOfStep_12 rfl (lv_at hl 0 rfl) ?_
    refine va_get (D := D) (ci := 1) (v := .ref (ad 10)) (C := RX1) (T := TX1) (N := 14) hx hb hts hin_X1 hown hK hP 1 rfl rfl 7 (by decide) hf_28 (fun _ h9 => h9) rfl dX1_centsOfStep_13 ?_
    refine lv_aload_n hx hb dX1_centsOfStep_16 rfl (lv_at hl 0 rfl) ?_
    refine va_get (D := D) (ci := 1) (v := .ref (ad 6)) (C := RX1) (T := TX1) (N := 14) hx hb hts hin_X1 hown hK hP 1 rfl rfl 2 (by decide) hf_15 (fun _ h9 => h9) rfl dX1_centsOfStep_17 ?_
    refine lv_iload_n hx hb dX1_centsOfStep_20 rfl (lv_at hl 1 rfl) ?_
    refine am_iald hx hb hK hP 6 0 rfl rfl a rfl (by omega) (by decide) dX1_centsOfStep_21 ?_
    refine lv_bipush (v := 6) hx hb dX1_centsOfStep_22 (by decide) ?_
    refine lv_imul hx hb dX1_centsOfStep_24 ?_
    refine lv_aload_n hx hb dX1_centsOfStep_25 rfl (lv_at hl 0 rfl) ?_
    refine va_get (D := D) (ci := 1) (v := .ref (ad 6)) (C := RX1) (T := TX1) (N := 14) hx hb hts hin_X1 hown hK hP 1 rfl rfl 2 (by decide) hf_15 (fun _ h9 => h9) rfl dX1_centsOfStep_26 ?_
    refine lv_iload_n hx hb dX1_centsOfStep_29 rfl (lv_at hl 2 rfl) ?_
    refine am_iald hx hb hK hP 6 0 rfl rfl b rfl (by omega) (by decide) dX1_centsOfStep_30 ?_
    refine lv_iadd hx hb dX1_centsOfStep_31 ?_
    refine am_lald hx hb hK hP 10 1 rfl rfl (((ai 6) a * 6 + (ai 6) b).toNatClampNeg) (am_ix6 (hto a (by omega)) (hto b (by omega))).1 (am_ix6 (hto a (by omega)) (hto b (by omega))).2 (by decide) dX1_centsOfStep_32 ?_
    refine lv_lstore_n (lv' := [(3, .long ((al 10) (((ai 6) a * 6 + (ai 6) b).toNatClampNeg))), (0, .ref (ad 1)), (1, .int (nI a)), (2, .int (nI b))]) hx hb dX1_centsOfStep_33 rfl hl (by decide) rfl (fun ls hl => ?_)
    refine lv_aload_n hx hb dX1_centsOfStep_34 rfl (lv_at hl 1 rfl) ?_
    refine va_get (D := D) (ci := 1) (v := .ref (ad 11)) (C := RX1) (T := TX1) (N := 14) hx hb hts hin_X1 hown hK hP 1 rfl rfl 8 (by decide) hf_31 (fun _ h9 => h9) rfl dX1_centsOfStep_35 ?_
    refine lv_aload_n hx hb dX1_centsOfStep_38 rfl (lv_at hl 1 rfl) ?_
    refine va_get (D := D) (ci := 1) (v := .ref (ad 7)) (C := RX1) (T := TX1) (N := 14) hx hb hts hin_X1 hown hK hP 1 rfl rfl 3 (by decide) hf_18 (fun _ h9 => h9) rfl dX1_centsOfStep_39 ?_
    refine lv_iload_n hx hb dX1_centsOfStep_42 rfl (lv_at hl 2 rfl) ?_
    refine am_iald hx hb hK hP 7 0 rfl rfl a rfl (by omega) (by decide) dX1_centsOfStep_43 ?_
    refine lv_bipush (v := 6) hx hb dX1_centsOfStep_44 (by decide) ?_
    refine lv_imul hx hb dX1_centsOfStep_46 ?_
    refine lv_aload_n hx hb dX1_centsOfStep_47 rfl (lv_at hl 1 rfl) ?_
    refine va_get (D := D) (ci := 1) (v := .ref (ad 7)) (C := RX1) (T := TX1) (N := 14) hx hb hts hin_X1 hown hK hP 1 rfl rfl 3 (by decide) hf_18 (fun _ h9 => h9) rfl dX1_centsOfStep_48 ?_
    refine lv_iload_n hx hb dX1_centsOfStep_51 rfl (lv_at hl 3 rfl) ?_
    refine am_iald hx hb hK hP 7 0 rfl rfl b rfl (by omega) (by decide) dX1_centsOfStep_52 ?_
    refine lv_iadd hx hb dX1_centsOfStep_53 ?_
    refine am_lald hx hb hK hP 11 1 rfl rfl (((ai 7) a * 6 + (ai 7) b).toNatClampNeg) (am_ix6 (hsi a (by omega)) (hsi b (by omega))).1 (am_ix6 (hsi a (by omega)) (hsi b (by omega))).2 (by decide) dX1_centsOfStep_54 ?_
    refine lv_lstore (lv' := [(5, .long ((al 11) (((ai 7) a * 6 + (ai 7) b).toNatClampNeg))), (3, .long ((al 10) (((ai 6) a * 6 + (ai 6) b).toNatClampNeg))), (0, .ref (ad 1)), (1, .int (nI a)), (2, .int (nI b))]) hx hb dX1_centsOfStep_55 hl (by decide) rfl (fun ls hl => ?_)
    refine lv_aload_n hx hb dX1_centsOfStep_57 rfl (lv_at hl 2 rfl) ?_
    refine va_get (D := D) (ci := 1) (v := .ref (ad 8)) (C := RX1) (T := TX1) (N := 14) hx hb hts hin_X1 hown hK hP 1 rfl rfl 4 (by decide) hf_21 (fun _ h9 => h9) rfl dX1_centsOfStep_58 ?_
    refine lv_iload_n hx hb dX1_centsOfStep_61 rfl (lv_at hl 4 rfl) ?_
    refine am_lald hx hb hK hP 8 1 rfl rfl b rfl (by omega) (by decide) dX1_centsOfStep_62 ?_
    refine lv_lload_n hx hb dX1_centsOfStep_63 rfl (lv_at hl 1 rfl) ?_
    refine lv_ladd hx hb dX1_centsOfStep_64 ?_
    refine lv_lload hx hb dX1_centsOfStep_65 (lv_at hl 0 rfl) ?_
    refine lv_ladd hx hb dX1_centsOfStep_67 ?_
    exact am_lretR hx hb hr hlocks (by first | rfl | (simp only [c_2, if_true, if_false, eq_self, not_true_eq_false, not_false_eq_true, ite_true, ite_false, ↓reduceIte]; done) | (simp [c_2]; done)) dX1_centsOfStep_68
  · skip
    obtain rfl : j = 0 := by cases j with | zero => rfl | succ z => exact absurd c_2 (ac_la_ne z (by omega))
    have hl : lv_has ls 7 [(0, .ref (ad 1)), (1, .int (-1)), (2, .int (nI b))] := hl
    refine lv_aload_n hx hb dX1_centsOfStep_5 rfl (lv_at hl 0 rfl) ?_
    refine va_get (D := D) (ci := 1) (v := .ref (ad 8)) (C := RX1) (T := TX1) (N := 14) hx hb hts hin_X1 hown hK hP 1 rfl rfl 4 (by decide) hf_21 (fun _ h9 => h9) rfl dX1_centsOfStep_6 ?_
    refine lv_iload_n hx hb dX1_centsOfStep_9 rfl (lv_at hl 2 rfl) ?_
    refine am_lald hx hb hK hP 8 1 rfl rfl b rfl (by omega) (by decide) dX1_centsOfStep_10 ?_
    exact am_lretR hx hb hr hlocks (by first | rfl | (simp only [c_2, if_true, if_false, eq_self, not_true_eq_false, not_false_eq_true, ite_true, ite_false, ↓reduceIte]; done) | (simp [c_2]; done)) dX1_centsOfStep_11

set_option maxHeartbeats 4000000 in
set_option maxRecDepth 100000 in
theorem c_X1_neededBy (l : Launch) (D : va_G) (ad : Nat → Nat) (cI cL : ClassId) (fi : Nat → Int32) (fl : Nat → Int64) (ai : Nat → Nat → Int32) (al : Nat → Nat → Int64) (x : Int32) (na : Nat) (hna : fi 0 = nI na) (hnl : na ≤ 10) : Met l yX1_neededBy wsX1_neededBy (am_rm 1 21) (va_Pc [.ref (ad 1), .int x] (am_R nwL vwCl D (ac_w ad cI cL fi fl ai al) [(cI, .int), (cL, .long)])) (vp_Si (fun r => r = ac_needed (ai 9) x na)) 0 0 am_No := by
  refine am_startR (cc := cX1_neededBy) (maxL := 4) (ret := (some .int)) (by decide) rfl (Nat.le_of_ble_eq_true rfl) [(0, .ref (ad 1)), (1, .int x)] rfl ?_
  intro p e s m below meth c ls hx hb hr hml hown hts hlocks hP hK hN hl
  have hown : s.vm.findClass RX1 = some m.cls := hown
  have ht := am_ht hts
  have hin_X1 : ∀ w ∈ u_ws RX1 TX1 14, w ∈ wsX1_neededBy := fun w h => List.mem_cons_of_mem _ (am_inX1 w h)
  have hf_25 := ht 65 (.fieldLink RX1 25 "ApartCost$Product" "needs" "[I") rfl
  have hf_54 := ht 56 (.fieldLink RX1 54 "ApartCost$Product" "acts" "I") rfl
  refine lv_iconst (v := 0) hx hb dX1_neededBy_0 (by decide) ?_
  refine lv_istore_n (lv' := [(2, .int 0), (0, .ref (ad 1)), (1, .int x)]) hx hb dX1_neededBy_1 rfl hl (by decide) rfl (fun ls hl => ?_)
  refine lv_iconst (v := 0) hx hb dX1_neededBy_2 (by decide) ?_
  refine lv_istore_n (lv' := [(3, .int 0), (2, .int 0), (0, .ref (ad 1)), (1, .int x)]) hx hb dX1_neededBy_3 rfl hl (by decide) rfl (fun ls hl => ?_)
  refine am_loopR (σ := Nat) (fun q n9 ls => n9 = na - q ∧ q ≤ na ∧ lv_has ls 4 [(0, .ref (ad 1)), (1, .int x), (2, .int (ac_needed (ai 9) x q)), (3, .int (nI q))]) ?_ 0 (na - 0) ls ⟨rfl, (by omega), lv_sub hl [2, 3, 1, 0] rfl⟩
  rintro k n9 ls ⟨hn_4, hk, hl⟩ ih_4
  refine lv_iload_n hx hb dX1_neededBy_4 rfl (lv_at hl 3 rfl) ?_
  refine lv_aload_n hx hb dX1_neededBy_5 rfl (lv_at hl 0 rfl) ?_
  refine va_get (D := D) (ci := 1) (v := .int (fi 0)) (C := RX1) (T := TX1) (N := 14) hx hb hts hin_X1 hown hK hP 1 rfl rfl 0 (by decide) hf_54 (fun _ h9 => h9) rfl dX1_neededBy_6 ?_
  refine lv_icmp_ge (tgt := 35) hx hb dX1_neededBy_9 (by decide) (fun c_9 => ?_) (fun c_9 => ?_)
  · skip
    have hke_9 : na ≤ k := (am_ge hna (by omega) (by omega)).mp c_9
    have hkq_9 : na = k := by omega
    subst hkq_9
    refine lv_iload_n hx hb dX1_neededBy_35 rfl (lv_at hl 2 rfl) ?_
    exact am_iretR hx hb hr hlocks (by first | rfl | (simp only [c_9, if_true, if_false, eq_self, not_true_eq_false, not_false_eq_true, ite_true, ite_false, ↓reduceIte]; done) | (simp [c_9]; done)) dX1_neededBy_36
  · skip
    have hkl_9 : k < na := Nat.lt_of_not_le (fun z => c_9 ((am_ge hna (by omega) (by omega)).mpr z))
    refine lv_iload_n hx hb dX1_neededBy_12 rfl (lv_at hl 1 rfl) ?_
    refine lv_iload_n hx hb dX1_neededBy_13 rfl (lv_at hl 3 rfl) ?_
    refine am_callRi (va_Run.run (va_runSN (As := [.int x, .int (nI k)]) (rest := []) ⟨hx, hb, hml, hown, hts⟩ (c_X0_has l D _ _ x (nI k)) ⟨va_cnB 2 hts (am_gN (am_in 206 rfl)) rfl rfl rfl (am_nw_at hN 1 rfl) (ht 29 _ rfl) (by decide +kernel) ⟨Nat.le_of_ble_eq_true rfl, Nat.le_of_ble_eq_true rfl⟩, (ht 205 _ rfl), trivial⟩ (am_preSR hP hK hN) rfl rfl hl.1 rfl (lv_room (Nat.le_of_ble_eq_true rfl)) dX1_neededBy_14 ⟨Nat.zero_le _, Nat.zero_le _⟩)) ?_
    refine lv_if_eq (tgt := 29) hx hb dX1_neededBy_17 (by decide) (fun c_17 => ?_) (fun c_17 => ?_)
    · skip
      refine lv_iinc (v := nI (k + 1)) (lv' := [(3, .int (nI (k + 1))), (0, .ref (ad 1)), (1, .int x), (2, .int (ac_needed (ai 9) x k))]) hx hb dX1_neededBy_29 hl (k := 3) rfl (nI_1 k) (by decide) rfl (fun ls hl => ?_)
      refine lv_goto (tgt := 4) hx hb dX1_neededBy_32 (by decide) ?_
      have e_4_0 : ac_needed (ai 9) x (k + 1) = ac_needed (ai 9) x k := by first | rfl | (simp only [ac_needed, c_9, c_17, if_true, if_false, eq_self, not_true_eq_false, not_false_eq_true, ite_true, ite_false, ↓reduceIte]; done) | (simp [ac_needed, c_9, c_17]; done)
      refine ih_4 (k + 1) (na - (k + 1)) ls (by omega) ⟨rfl, (by omega), ?_⟩
      try dsimp only
      rw [e_4_0]
      exact lv_sub hl [1, 2, 3, 0] rfl
    · skip
      refine lv_iload_n hx hb dX1_neededBy_20 rfl (lv_at hl 2 rfl) ?_
      refine lv_aload_n hx hb dX1_neededBy_21 rfl (lv_at hl 0 rfl) ?_
      refine va_get (D := D) (ci := 1) (v := .ref (ad 9)) (C := RX1) (T := TX1) (N := 14) hx hb hts hin_X1 hown hK hP 1 rfl rfl 5 (by decide) hf_25 (fun _ h9 => h9) rfl dX1_neededBy_22 ?_
      refine lv_iload_n hx hb dX1_neededBy_25 rfl (lv_at hl 3 rfl) ?_
      refine am_iald hx hb hK hP 9 0 rfl rfl k rfl (by omega) (by decide) dX1_neededBy_26 ?_
      refine lv_ior hx hb dX1_neededBy_27 ?_
      refine lv_istore_n (lv' := [(2, .int ((ac_needed (ai 9) x k) ||| ((ai 9) k))), (0, .ref (ad 1)), (1, .int x), (3, .int (nI k))]) hx hb dX1_neededBy_28 rfl hl (by decide) rfl (fun ls hl => ?_)
      refine lv_iinc (v := nI (k + 1)) (lv' := [(3, .int (nI (k + 1))), (2, .int ((ac_needed (ai 9) x k) ||| ((ai 9) k))), (0, .ref (ad 1)), (1, .int x)]) hx hb dX1_neededBy_29 hl (k := 3) rfl (nI_1 k) (by decide) rfl (fun ls hl => ?_)
      refine lv_goto (tgt := 4) hx hb dX1_neededBy_32 (by decide) ?_
      have e_4_0 : ac_needed (ai 9) x (k + 1) = (ac_needed (ai 9) x k) ||| ((ai 9) k) := by first | rfl | (simp only [ac_needed, c_9, c_17, if_true, if_false, eq_self, not_true_eq_false, not_false_eq_true, ite_true, ite_false, ↓reduceIte]; done) | (simp [ac_needed, c_9, c_17]; done)
      refine ih_4 (k + 1) (na - (k + 1)) ls (by omega) ⟨rfl, (by omega), ?_⟩
      try dsimp only
      rw [e_4_0]
      exact lv_sub hl [2, 3, 1, 0] rfl

set_option maxHeartbeats 4000000 in
set_option maxRecDepth 100000 in
theorem c_X1_lastsOf (l : Launch) (D : va_G) (ad : Nat → Nat) (cI cL : ClassId) (fi : Nat → Int32) (fl : Nat → Int64) (ai : Nat → Nat → Int32) (al : Nat → Nat → Int64) (x : Int32) (na : Nat) (hna : fi 0 = nI na) (hnl : na ≤ 10) : Met l yX1_lastsOf wsX1_lastsOf (am_rm 2 44) (va_Pc [.ref (ad 1), .int x] (am_R nwL vwCl D (ac_w ad cI cL fi fl ai al) [(cI, .int), (cL, .long)])) (vp_Si (fun r => r = ac_lasts (ai 9) na x)) 0 0 am_No := by
  refine am_startR (cc := cX1_lastsOf) (maxL := 3) (ret := (some .int)) (by decide) rfl (Nat.le_of_ble_eq_true rfl) [(0, .ref (ad 1)), (1, .int x)] rfl ?_
  intro p e s m below meth c ls hx hb hr hml hown hts hlocks hP hK hN hl
  have hown : s.vm.findClass RX1 = some m.cls := hown
  have ht := am_ht hts
  refine lv_aload_n hx hb dX1_lastsOf_0 rfl (lv_at hl 0 rfl) ?_
  refine lv_iload_n hx hb dX1_lastsOf_1 rfl (lv_at hl 1 rfl) ?_
  refine am_callRi (W.runV (As := [.int x]) (rest := []) ⟨hx, hb, hml, hown, hts⟩ (c_X1_neededBy l D ad cI cL fi fl ai al x na hna hnl) (cwV 1 hts (am_gV (am_in 268 rfl) (am_in 269 rfl) (am_in 1 rfl) (am_in 30 rfl) (am_in 270 rfl)) rfl rfl rfl (by decide +kernel) ⟨Nat.le_of_ble_eq_true rfl, Nat.le_of_ble_eq_true rfl⟩) (am_preVR 1 1 rfl rfl rfl hP hK hN) rfl rfl hl.1 rfl (lv_room (Nat.le_of_ble_eq_true rfl)) dX1_lastsOf_2 ⟨Nat.zero_le _, Nat.zero_le _⟩) ?_
  refine lv_istore_n (lv' := [(2, .int (ac_needed (ai 9) x na)), (0, .ref (ad 1)), (1, .int x)]) hx hb dX1_lastsOf_5 rfl hl (by decide) rfl (fun ls hl => ?_)
  refine lv_iload_n hx hb dX1_lastsOf_6 rfl (lv_at hl 0 rfl) ?_
  refine lv_iload_n hx hb dX1_lastsOf_7 rfl (lv_at hl 2 rfl) ?_
  refine lv_iconst (v := (-1)) hx hb dX1_lastsOf_8 (by decide) ?_
  refine lv_ixor hx hb dX1_lastsOf_9 ?_
  refine lv_iand hx hb dX1_lastsOf_10 ?_
  refine lv_if_ne (tgt := 22) hx hb dX1_lastsOf_11 (by decide) (fun c_11 => ?_) (fun c_11 => ?_)
  · skip
    refine lv_iconst (v := 0) hx hb dX1_lastsOf_22 (by decide) ?_
    exact am_iretR hx hb hr hlocks (by first | rfl | (simp only [ac_lasts, c_11, if_true, if_false, eq_self, not_true_eq_false, not_false_eq_true, ite_true, ite_false, ↓reduceIte]; done) | (simp [ac_lasts, c_11]; done)) dX1_lastsOf_23
  · skip
    refine lv_iload_n hx hb dX1_lastsOf_14 rfl (lv_at hl 2 rfl) ?_
    refine lv_iload_n hx hb dX1_lastsOf_15 rfl (lv_at hl 0 rfl) ?_
    refine lv_iconst (v := (-1)) hx hb dX1_lastsOf_16 (by decide) ?_
    refine lv_ixor hx hb dX1_lastsOf_17 ?_
    refine lv_iand hx hb dX1_lastsOf_18 ?_
    refine lv_goto (tgt := 23) hx hb dX1_lastsOf_19 (by decide) ?_
    exact am_iretR hx hb hr hlocks (by first | rfl | (simp only [ac_lasts, c_11, if_true, if_false, eq_self, not_true_eq_false, not_false_eq_true, ite_true, ite_false, ↓reduceIte]; done) | (simp [ac_lasts, c_11]; done)) dX1_lastsOf_23

set_option maxHeartbeats 4000000 in
set_option maxRecDepth 100000 in
theorem c_X1_nextsOf (l : Launch) (D : va_G) (ad : Nat → Nat) (cI cL : ClassId) (fi : Nat → Int32) (fl : Nat → Int64) (ai : Nat → Nat → Int32) (al : Nat → Nat → Int64) (x : Int32) (na : Nat) (hna : fi 0 = nI na) (hnl : na ≤ 10) : Met l yX1_nextsOf wsX1_nextsOf (am_rm 1 21) (va_Pc [.ref (ad 1), .int x] (am_R nwL vwCl D (ac_w ad cI cL fi fl ai al) [(cI, .int), (cL, .long)])) (vp_Si (fun r => r = ac_nexts (ai 9) x na)) 0 0 am_No := by
  refine am_startR (cc := cX1_nextsOf) (maxL := 4) (ret := (some .int)) (by decide) rfl (Nat.le_of_ble_eq_true rfl) [(0, .ref (ad 1)), (1, .int x)] rfl ?_
  intro p e s m below meth c ls hx hb hr hml hown hts hlocks hP hK hN hl
  have hown : s.vm.findClass RX1 = some m.cls := hown
  have ht := am_ht hts
  have hin_X1 : ∀ w ∈ u_ws RX1 TX1 14, w ∈ wsX1_nextsOf := fun w h => List.mem_cons_of_mem _ (am_inX1 w h)
  have hf_25 := ht 65 (.fieldLink RX1 25 "ApartCost$Product" "needs" "[I") rfl
  have hf_54 := ht 56 (.fieldLink RX1 54 "ApartCost$Product" "acts" "I") rfl
  refine lv_iconst (v := 0) hx hb dX1_nextsOf_0 (by decide) ?_
  refine lv_istore_n (lv' := [(2, .int 0), (0, .ref (ad 1)), (1, .int x)]) hx hb dX1_nextsOf_1 rfl hl (by decide) rfl (fun ls hl => ?_)
  refine lv_iconst (v := 0) hx hb dX1_nextsOf_2 (by decide) ?_
  refine lv_istore_n (lv' := [(3, .int 0), (2, .int 0), (0, .ref (ad 1)), (1, .int x)]) hx hb dX1_nextsOf_3 rfl hl (by decide) rfl (fun ls hl => ?_)
  refine am_loopR (σ := Nat) (fun q n9 ls => n9 = na - q ∧ q ≤ na ∧ lv_has ls 4 [(0, .ref (ad 1)), (1, .int x), (2, .int (ac_nexts (ai 9) x q)), (3, .int (nI q))]) ?_ 0 (na - 0) ls ⟨rfl, (by omega), lv_sub hl [2, 3, 1, 0] rfl⟩
  rintro k n9 ls ⟨hn_4, hk, hl⟩ ih_4
  refine lv_iload_n hx hb dX1_nextsOf_4 rfl (lv_at hl 3 rfl) ?_
  refine lv_aload_n hx hb dX1_nextsOf_5 rfl (lv_at hl 0 rfl) ?_
  refine va_get (D := D) (ci := 1) (v := .int (fi 0)) (C := RX1) (T := TX1) (N := 14) hx hb hts hin_X1 hown hK hP 1 rfl rfl 0 (by decide) hf_54 (fun _ h9 => h9) rfl dX1_nextsOf_6 ?_
  refine lv_icmp_ge (tgt := 45) hx hb dX1_nextsOf_9 (by decide) (fun c_9 => ?_) (fun c_9 => ?_)
  · skip
    have hke_9 : na ≤ k := (am_ge hna (by omega) (by omega)).mp c_9
    have hkq_9 : na = k := by omega
    subst hkq_9
    refine lv_iload_n hx hb dX1_nextsOf_45 rfl (lv_at hl 2 rfl) ?_
    exact am_iretR hx hb hr hlocks (by first | rfl | (simp only [c_9, if_true, if_false, eq_self, not_true_eq_false, not_false_eq_true, ite_true, ite_false, ↓reduceIte]; done) | (simp [c_9]; done)) dX1_nextsOf_46
  · skip
    have hkl_9 : k < na := Nat.lt_of_not_le (fun z => c_9 ((am_ge hna (by omega) (by omega)).mpr z))
    refine lv_iload_n hx hb dX1_nextsOf_12 rfl (lv_at hl 1 rfl) ?_
    refine lv_iload_n hx hb dX1_nextsOf_13 rfl (lv_at hl 3 rfl) ?_
    refine am_callRi (va_Run.run (va_runSN (As := [.int x, .int (nI k)]) (rest := []) ⟨hx, hb, hml, hown, hts⟩ (c_X0_has l D _ _ x (nI k)) ⟨va_cnB 2 hts (am_gN (am_in 206 rfl)) rfl rfl rfl (am_nw_at hN 1 rfl) (ht 29 _ rfl) (by decide +kernel) ⟨Nat.le_of_ble_eq_true rfl, Nat.le_of_ble_eq_true rfl⟩, (ht 205 _ rfl), trivial⟩ (am_preSR hP hK hN) rfl rfl hl.1 rfl (lv_room (Nat.le_of_ble_eq_true rfl)) dX1_nextsOf_14 ⟨Nat.zero_le _, Nat.zero_le _⟩)) ?_
    refine lv_if_ne (tgt := 39) hx hb dX1_nextsOf_17 (by decide) (fun c_17 => ?_) (fun c_17 => ?_)
    · skip
      refine lv_iinc (v := nI (k + 1)) (lv' := [(3, .int (nI (k + 1))), (0, .ref (ad 1)), (1, .int x), (2, .int (ac_nexts (ai 9) x k))]) hx hb dX1_nextsOf_39 hl (k := 3) rfl (nI_1 k) (by decide) rfl (fun ls hl => ?_)
      refine lv_goto (tgt := 4) hx hb dX1_nextsOf_42 (by decide) ?_
      have e_4_0 : ac_nexts (ai 9) x (k + 1) = ac_nexts (ai 9) x k := by first | rfl | (simp only [ac_nexts, c_9, c_17, if_true, if_false, eq_self, not_true_eq_false, not_false_eq_true, ite_true, ite_false, ↓reduceIte]; done) | (simp [ac_nexts, c_9, c_17]; done)
      refine ih_4 (k + 1) (na - (k + 1)) ls (by omega) ⟨rfl, (by omega), ?_⟩
      try dsimp only
      rw [e_4_0]
      exact lv_sub hl [1, 2, 3, 0] rfl
    · skip
      refine lv_aload_n hx hb dX1_nextsOf_20 rfl (lv_at hl 0 rfl) ?_
      refine va_get (D := D) (ci := 1) (v := .ref (ad 9)) (C := RX1) (T := TX1) (N := 14) hx hb hts hin_X1 hown hK hP 1 rfl rfl 5 (by decide) hf_25 (fun _ h9 => h9) rfl dX1_nextsOf_21 ?_
      refine lv_iload_n hx hb dX1_nextsOf_24 rfl (lv_at hl 3 rfl) ?_
      refine am_iald hx hb hK hP 9 0 rfl rfl k rfl (by omega) (by decide) dX1_nextsOf_25 ?_
      refine lv_iload_n hx hb dX1_nextsOf_26 rfl (lv_at hl 1 rfl) ?_
      refine lv_iconst (v := (-1)) hx hb dX1_nextsOf_27 (by decide) ?_
      refine lv_ixor hx hb dX1_nextsOf_28 ?_
      refine lv_iand hx hb dX1_nextsOf_29 ?_
      refine lv_if_ne (tgt := 39) hx hb dX1_nextsOf_30 (by decide) (fun c_30 => ?_) (fun c_30 => ?_)
      · skip
        refine lv_iinc (v := nI (k + 1)) (lv' := [(3, .int (nI (k + 1))), (0, .ref (ad 1)), (1, .int x), (2, .int (ac_nexts (ai 9) x k))]) hx hb dX1_nextsOf_39 hl (k := 3) rfl (nI_1 k) (by decide) rfl (fun ls hl => ?_)
        refine lv_goto (tgt := 4) hx hb dX1_nextsOf_42 (by decide) ?_
        have e_4_0 : ac_nexts (ai 9) x (k + 1) = ac_nexts (ai 9) x k := by first | rfl | (simp only [ac_nexts, c_9, c_17, c_30, if_true, if_false, eq_self, not_true_eq_false, not_false_eq_true, ite_true, ite_false, ↓reduceIte]; done) | (simp [ac_nexts, c_9, c_17, c_30]; done)
        refine ih_4 (k + 1) (na - (k + 1)) ls (by omega) ⟨rfl, (by omega), ?_⟩
        try dsimp only
        rw [e_4_0]
        exact lv_sub hl [1, 2, 3, 0] rfl
      · skip
        refine lv_iload_n hx hb dX1_nextsOf_33 rfl (lv_at hl 2 rfl) ?_
        refine lv_iconst (v := 1) hx hb dX1_nextsOf_34 (by decide) ?_
        refine lv_iload_n hx hb dX1_nextsOf_35 rfl (lv_at hl 3 rfl) ?_
        refine lv_ishl hx hb dX1_nextsOf_36 ?_
        refine lv_ior hx hb dX1_nextsOf_37 ?_
        refine lv_istore_n (lv' := [(2, .int ((ac_nexts (ai 9) x k) ||| ((1 : Int32) <<< ((nI k) &&& 31)))), (0, .ref (ad 1)), (1, .int x), (3, .int (nI k))]) hx hb dX1_nextsOf_38 rfl hl (by decide) rfl (fun ls hl => ?_)
        refine lv_iinc (v := nI (k + 1)) (lv' := [(3, .int (nI (k + 1))), (2, .int ((ac_nexts (ai 9) x k) ||| ((1 : Int32) <<< ((nI k) &&& 31)))), (0, .ref (ad 1)), (1, .int x)]) hx hb dX1_nextsOf_39 hl (k := 3) rfl (nI_1 k) (by decide) rfl (fun ls hl => ?_)
        refine lv_goto (tgt := 4) hx hb dX1_nextsOf_42 (by decide) ?_
        have e_4_0 : ac_nexts (ai 9) x (k + 1) = (ac_nexts (ai 9) x k) ||| ((1 : Int32) <<< ((nI k) &&& 31)) := by first | rfl | (simp only [ac_nexts, c_9, c_17, c_30, if_true, if_false, eq_self, not_true_eq_false, not_false_eq_true, ite_true, ite_false, ↓reduceIte]; done) | (simp [ac_nexts, c_9, c_17, c_30]; done)
        refine ih_4 (k + 1) (na - (k + 1)) ls (by omega) ⟨rfl, (by omega), ?_⟩
        try dsimp only
        rw [e_4_0]
        exact lv_sub hl [2, 3, 1, 0] rfl

set_option maxHeartbeats 4000000 in
set_option maxRecDepth 100000 in
theorem c_X1_countStates (l : Launch) (D : va_G) (ad : Nat → Nat) (cI cL : ClassId) (fi : Nat → Int32) (fl : Nat → Int64) (ai : Nat → Nat → Int32) (al : Nat → Nat → Int64) (na : Nat) (hna : fi 0 = nI na) (hnl : na ≤ 10) : Met l yX1_countStates wsX1_countStates (am_rm 3 66) (va_Pc [.ref (ad 1)] (am_R nwL vwCl D (ac_w ad cI cL fi fl ai al) [(cI, .int), (cL, .long)])) (vp_Sl (fun r => r = ac_count (ai 9) na (2 ^ na - 1))) 0 0 am_No := by
  refine am_startR (cc := cX1_countStates) (maxL := 4) (ret := (some .long)) (by decide) rfl (Nat.le_of_ble_eq_true rfl) [(0, .ref (ad 1))] rfl ?_
  intro p e s m below meth c ls hx hb hr hml hown hts hlocks hP hK hN hl
  have hown : s.vm.findClass RX1 = some m.cls := hown
  have ht := am_ht hts
  have hp2 := am_p2 hnl
  refine lv_lconst (v := 1) hx hb dX1_countStates_0 (by decide) ?_
  refine lv_lstore_n (lv' := [(1, .long 1), (0, .ref (ad 1))]) hx hb dX1_countStates_1 rfl hl (by decide) rfl (fun ls hl => ?_)
  refine lv_iconst (v := 1) hx hb dX1_countStates_2 (by decide) ?_
  refine lv_istore_n (lv' := [(3, .int 1), (1, .long 1), (0, .ref (ad 1))]) hx hb dX1_countStates_3 rfl hl (by decide) rfl (fun ls hl => ?_)
  refine am_loopR (σ := Nat) (fun q n9 ls => n9 = 2 ^ na - 1 - q ∧ q ≤ 2 ^ na - 1 ∧ lv_has ls 4 [(0, .ref (ad 1)), (1, .long (ac_count (ai 9) na q)), (3, .int (nI (q + 1)))]) ?_ 0 (2 ^ na - 1 - 0) ls ⟨rfl, (by omega), lv_sub hl [2, 1, 0] rfl⟩
  rintro k n9 ls ⟨hn_4, hk, hl⟩ ih_4
  refine lv_iload_n hx hb dX1_countStates_4 rfl (lv_at hl 2 rfl) ?_
  refine lv_aload_n hx hb dX1_countStates_5 rfl (lv_at hl 0 rfl) ?_
  refine am_callRi (W.runV (As := []) (rest := [.int (nI (k + 1))]) ⟨hx, hb, hml, hown, hts⟩ (c_X1_allActs l D ad cI cL fi fl ai al) (cwV 0 hts (am_gV (am_in 260 rfl) (am_in 261 rfl) (am_in 262 rfl) (am_in 30 rfl) (am_in 263 rfl)) rfl rfl rfl (by decide +kernel) ⟨Nat.le_of_ble_eq_true rfl, Nat.le_of_ble_eq_true rfl⟩) (am_preVR 1 1 rfl rfl rfl hP hK hN) rfl rfl hl.1 rfl (lv_room (Nat.le_of_ble_eq_true rfl)) dX1_countStates_6 ⟨Nat.zero_le _, Nat.zero_le _⟩) ?_
  refine am_topi (am_all hna hnl) ?_
  refine lv_icmp_gt (tgt := 30) hx hb dX1_countStates_9 (by decide) (fun c_9 => ?_) (fun c_9 => ?_)
  · skip
    have hkq : 2 ^ na - 1 = k := by have := (am_gt (rfl : nI (2 ^ na - 1) = nI (2 ^ na - 1)) (by omega) (by omega)).mp c_9; omega
    subst hkq
    refine lv_lload_n hx hb dX1_countStates_30 rfl (lv_at hl 1 rfl) ?_
    exact am_lretR hx hb hr hlocks (by first | rfl | (simp only [c_9, if_true, if_false, eq_self, not_true_eq_false, not_false_eq_true, ite_true, ite_false, ↓reduceIte]; done) | (simp [c_9]; done)) dX1_countStates_31
  · skip
    have hkl : k + 1 ≤ 2 ^ na - 1 := Nat.le_of_not_lt (fun z => c_9 ((am_gt (rfl : nI (2 ^ na - 1) = nI (2 ^ na - 1)) (by omega) (by omega)).mpr z))
    refine lv_lload_n hx hb dX1_countStates_12 rfl (lv_at hl 1 rfl) ?_
    refine lv_aload_n hx hb dX1_countStates_13 rfl (lv_at hl 0 rfl) ?_
    refine lv_iload_n hx hb dX1_countStates_14 rfl (lv_at hl 2 rfl) ?_
    refine am_callRi (W.runV (As := [.int (nI (k + 1))]) (rest := [.long (ac_count (ai 9) na k)]) ⟨hx, hb, hml, hown, hts⟩ (c_X1_lastsOf l D ad cI cL fi fl ai al (nI (k + 1)) na hna hnl) (cwV 1 hts (am_gV (am_in 264 rfl) (am_in 265 rfl) (am_in 266 rfl) (am_in 30 rfl) (am_in 267 rfl)) rfl rfl rfl (by decide +kernel) ⟨Nat.le_of_ble_eq_true rfl, Nat.le_of_ble_eq_true rfl⟩) (am_preVR 1 1 rfl rfl rfl hP hK hN) rfl rfl hl.1 rfl (lv_room (Nat.le_of_ble_eq_true rfl)) dX1_countStates_15 ⟨Nat.zero_le _, Nat.zero_le _⟩) ?_
    refine am_callRi (W.runS (As := [.int (ac_lasts (ai 9) na (nI (k + 1)))]) (rest := [.long (ac_count (ai 9) na k)]) ⟨hx, hb, hml, hown, hts⟩ (c_JI_bitCount l D _ _ (ac_lasts (ai 9) na (nI (k + 1)))) (va_cwS 1 hts (am_gS (am_in 271 rfl) (am_in 272 rfl) (am_in 36 rfl) (am_in 273 rfl)) rfl rfl rfl (by decide +kernel) ⟨Nat.le_of_ble_eq_true rfl, Nat.le_of_ble_eq_true rfl⟩) (am_preSR hP hK hN) rfl rfl hl.1 rfl (lv_room (Nat.le_of_ble_eq_true rfl)) dX1_countStates_18 ⟨Nat.zero_le _, Nat.zero_le _⟩) ?_
    refine lv_i2l (v := (ac_bc (ac_lasts (ai 9) na (nI (k + 1)))).toInt64) hx hb dX1_countStates_21 rfl ?_
    refine lv_ladd hx hb dX1_countStates_22 ?_
    refine lv_lstore_n (lv' := [(1, .long ((ac_count (ai 9) na k) + ((ac_bc (ac_lasts (ai 9) na (nI (k + 1)))).toInt64))), (0, .ref (ad 1)), (3, .int (nI (k + 1)))]) hx hb dX1_countStates_23 rfl hl (by decide) rfl (fun ls hl => ?_)
    refine lv_iinc (v := nI ((k + 1) + 1)) (lv' := [(3, .int (nI ((k + 1) + 1))), (1, .long ((ac_count (ai 9) na k) + ((ac_bc (ac_lasts (ai 9) na (nI (k + 1)))).toInt64))), (0, .ref (ad 1))]) hx hb dX1_countStates_24 hl (k := 2) rfl (nI_1 (k + 1)) (by decide) rfl (fun ls hl => ?_)
    refine lv_goto (tgt := 4) hx hb dX1_countStates_27 (by decide) ?_
    have e_4_0 : ac_count (ai 9) na (k + 1) = (ac_count (ai 9) na k) + ((ac_bc (ac_lasts (ai 9) na (nI (k + 1)))).toInt64) := by first | rfl | (simp only [ac_count, c_9, if_true, if_false, eq_self, not_true_eq_false, not_false_eq_true, ite_true, ite_false, ↓reduceIte]; done) | (simp [ac_count, c_9]; done)
    refine ih_4 (k + 1) (2 ^ na - 1 - (k + 1)) ls (by omega) ⟨rfl, (by omega), ?_⟩
    try dsimp only
    rw [e_4_0]
    exact lv_sub hl [2, 1, 0] rfl
set_option maxHeartbeats 4000000 in
set_option maxRecDepth 100000 in
theorem c_X2_stepPlace (l : Launch) (D : va_G) (w : va_W) (tys : List (ClassId × FieldType)) (j : Nat) (b : Nat) (hj : j ≤ 10) (hb2 : b < 10) : Met l yX2_stepPlace wsX2_stepPlace (am_rm 0 0) (va_Pc [.int (ac_la j), .int (nI b)] (am_R nwL vwCl D w tys)) (vp_Si (fun r => r = nI (ac_pl j b))) 0 0 am_No := by
  refine am_startR (cc := cX2_stepPlace) (maxL := 2) (ret := (some .int)) (by decide) rfl (Nat.le_of_ble_eq_true rfl) [(0, .int (ac_la j)), (1, .int (nI b))] rfl ?_
  intro p e s m below meth c ls hx hb hr hml hown hts hlocks hP hK hN hl
  have hown : s.vm.findClass RX2 = some m.cls := hown
  have ht := am_ht hts
  refine lv_iload_n hx hb dX2_stepPlace_0 rfl (lv_at hl 0 rfl) ?_
  refine lv_iconst (v := (-1)) hx hb dX2_stepPlace_1 (by decide) ?_
  refine lv_icmp_ne (tgt := 10) hx hb dX2_stepPlace_2 (by decide) (fun c_2 => ?_) (fun c_2 => ?_)
  · skip
    obtain ⟨a, rfl⟩ : ∃ z, j = z + 1 := by cases j with | zero => exact absurd rfl c_2 | succ z => exact ⟨z, rfl⟩
    have hl : lv_has ls 2 [(0, .int (nI a)), (1, .int (nI b))] := hl
    refine lv_iload_n hx hb dX2_stepPlace_10 rfl (lv_at hl 0 rfl) ?_
    refine lv_bipush (v := 10) hx hb dX2_stepPlace_11 (by decide) ?_
    refine lv_imul hx hb dX2_stepPlace_13 ?_
    refine lv_iload_n hx hb dX2_stepPlace_14 rfl (lv_at hl 1 rfl) ?_
    refine lv_iadd hx hb dX2_stepPlace_15 ?_
    exact am_iretR hx hb hr hlocks (ac_pl_eq1 a b) dX2_stepPlace_16
  · skip
    obtain rfl : j = 0 := by cases j with | zero => rfl | succ z => exact absurd c_2 (ac_la_ne z (by omega))
    have hl : lv_has ls 2 [(0, .int (-1)), (1, .int (nI b))] := hl
    refine lv_bipush (v := 10) hx hb dX2_stepPlace_5 (by decide) ?_
    refine lv_goto (tgt := 11) hx hb dX2_stepPlace_7 (by decide) ?_
    refine lv_bipush (v := 10) hx hb dX2_stepPlace_11 (by decide) ?_
    refine lv_imul hx hb dX2_stepPlace_13 ?_
    refine lv_iload_n hx hb dX2_stepPlace_14 rfl (lv_at hl 1 rfl) ?_
    refine lv_iadd hx hb dX2_stepPlace_15 ?_
    exact am_iretR hx hb hr hlocks (ac_pl_eq0 b) dX2_stepPlace_16

set_option maxHeartbeats 4000000 in
set_option maxRecDepth 100000 in
theorem c_X2_mostBy (l : Launch) (D : va_G) (ad : Nat → Nat) (cI cL : ClassId) (fi : Nat → Int32) (fl : Nat → Int64) (ai : Nat → Nat → Int32) (al : Nat → Nat → Int64) (j : Nat) (sn : Nat) (b : Nat) (hj : j ≤ 10) (hsn : sn < 1024) (hb2 : b < 10) : Met l yX2_mostBy wsX2_mostBy (am_rm 1 21) (va_Pc [.ref (ad 2), .int (ac_la j), .int (nI sn), .int (nI b)] (am_R nwL vwCl D (ac_w ad cI cL fi fl ai al) [(cI, .int), (cL, .long)])) (vp_Sl (fun r => r = ac_mby (al 18) (al 17) j sn b)) 0 0 am_No := by
  refine am_startR (cc := cX2_mostBy) (maxL := 4) (ret := (some .long)) (by decide) rfl (Nat.le_of_ble_eq_true rfl) [(0, .ref (ad 2)), (1, .int (ac_la j)), (2, .int (nI sn)), (3, .int (nI b))] rfl ?_
  intro p e s m below meth c ls hx hb hr hml hown hts hlocks hP hK hN hl
  have hown : s.vm.findClass RX2 = some m.cls := hown
  have ht := am_ht hts
  have hin_X2 : ∀ w ∈ u_ws RX2 TX2 4, w ∈ wsX2_mostBy := fun w h => List.mem_cons_of_mem _ (am_inX2 w h)
  have hf_15 := ht 110 (.fieldLink RX2 15 "ApartCost$Planner" "steps" "[J") rfl
  have hf_18 := ht 111 (.fieldLink RX2 18 "ApartCost$Planner" "most" "[J") rfl
  refine lv_aload_n hx hb dX2_mostBy_0 rfl (lv_at hl 0 rfl) ?_
  refine va_get (D := D) (ci := 2) (v := .ref (ad 18)) (C := RX2) (T := TX2) (N := 4) hx hb hts hin_X2 hown hK hP 2 rfl rfl 3 (by decide) hf_18 (fun _ h9 => h9) rfl dX2_mostBy_1 ?_
  refine lv_iload_n hx hb dX2_mostBy_4 rfl (lv_at hl 2 rfl) ?_
  refine lv_iconst (v := 1) hx hb dX2_mostBy_5 (by decide) ?_
  refine lv_iload_n hx hb dX2_mostBy_6 rfl (lv_at hl 3 rfl) ?_
  refine lv_ishl hx hb dX2_mostBy_7 ?_
  refine lv_ior hx hb dX2_mostBy_8 ?_
  refine lv_bipush (v := 10) hx hb dX2_mostBy_9 (by decide) ?_
  refine lv_imul hx hb dX2_mostBy_11 ?_
  refine lv_iload_n hx hb dX2_mostBy_12 rfl (lv_at hl 3 rfl) ?_
  refine lv_iadd hx hb dX2_mostBy_13 ?_
  refine am_lald hx hb hK hP 18 1 rfl rfl ((sn ||| 2 ^ b) * 10 + b) (am_six (by omega)) (by have := am_or_lt hsn hb2; omega) (by decide) dX2_mostBy_14 ?_
  refine lv_aload_n hx hb dX2_mostBy_15 rfl (lv_at hl 0 rfl) ?_
  refine va_get (D := D) (ci := 2) (v := .ref (ad 17)) (C := RX2) (T := TX2) (N := 4) hx hb hts hin_X2 hown hK hP 2 rfl rfl 2 (by decide) hf_15 (fun _ h9 => h9) rfl dX2_mostBy_16 ?_
  refine lv_iload_n hx hb dX2_mostBy_19 rfl (lv_at hl 1 rfl) ?_
  refine lv_iload_n hx hb dX2_mostBy_20 rfl (lv_at hl 3 rfl) ?_
  refine am_callRi (W.runS (As := [.int (ac_la j), .int (nI b)]) (rest := [.ref (ad 17), .long ((al 18) ((sn ||| 2 ^ b) * 10 + b))]) ⟨hx, hb, hml, hown, hts⟩ (c_X2_stepPlace l D _ _ j b hj hb2) (va_cwS 2 hts (am_gS (am_in 296 rfl) (am_in 297 rfl) (am_in 32 rfl) (am_in 298 rfl)) rfl rfl rfl (by decide +kernel) ⟨Nat.le_of_ble_eq_true rfl, Nat.le_of_ble_eq_true rfl⟩) (am_preSR hP hK hN) rfl rfl hl.1 rfl (lv_room (Nat.le_of_ble_eq_true rfl)) dX2_mostBy_21 ⟨Nat.zero_le _, Nat.zero_le _⟩) ?_
  refine am_lald hx hb hK hP 17 1 rfl rfl (ac_pl j b) rfl (ac_pl_lt hj hb2) (by decide) dX2_mostBy_24 ?_
  refine lv_lsub hx hb dX2_mostBy_25 ?_
  exact am_lretR hx hb hr hlocks rfl dX2_mostBy_26

set_option maxHeartbeats 4000000 in
set_option maxRecDepth 100000 in
theorem c_X2_mostFrom (l : Launch) (D : va_G) (ad : Nat → Nat) (cI cL : ClassId) (fi : Nat → Int32) (fl : Nat → Int64) (ai : Nat → Nat → Int32) (al : Nat → Nat → Int64) (j : Nat) (sn : Nat) (nx : Int32) (ed : Int64) (na : Nat) (hna : fi 0 = nI na) (hnl : na ≤ 10) (hj : j ≤ 10) (hsn : sn < 1024) : Met l yX2_mostFrom wsX2_mostFrom (am_rm 2 44) (va_Pc [.ref (ad 2), .int (ac_la j), .int (nI sn), .int nx, .long ed] (am_R nwL vwCl D (ac_w ad cI cL fi fl ai al) [(cI, .int), (cL, .long)])) (vp_Sl (fun r => r = ac_mfrom (al 18) (al 17) j sn nx ed na)) 0 0 am_No := by
  refine am_startR (cc := cX2_mostFrom) (maxL := 9) (ret := (some .long)) (by decide) rfl (Nat.le_of_ble_eq_true rfl) [(0, .ref (ad 2)), (1, .int (ac_la j)), (2, .int (nI sn)), (3, .int nx), (4, .long ed)] rfl ?_
  intro p e s m below meth c ls hx hb hr hml hown hts hlocks hP hK hN hl
  have hown : s.vm.findClass RX2 = some m.cls := hown
  have ht := am_ht hts
  have hin_X2 : ∀ w ∈ u_ws RX2 TX2 4, w ∈ wsX2_mostFrom := fun w h => List.mem_cons_of_mem _ (am_inX2 w h)
  have hin_X1 : ∀ w ∈ u_ws RX1 TX1 14, w ∈ wsX2_mostFrom := fun w h => List.mem_cons_of_mem _ (am_inX1 w h)
  have hf_21 := ht 106 (.fieldLink RX2 21 "ApartCost$Planner" "product" "LApartCost$Product;") rfl
  have hf_56 := ht 59 (.fieldLink RX2 56 "ApartCost$Product" "acts" "I") rfl
  refine lv_lload hx hb dX2_mostFrom_0 (lv_at hl 4 rfl) ?_
  refine lv_lstore (lv' := [(6, .long ed), (0, .ref (ad 2)), (1, .int (ac_la j)), (2, .int (nI sn)), (3, .int nx), (4, .long ed)]) hx hb dX2_mostFrom_2 hl (by decide) rfl (fun ls hl => ?_)
  refine lv_iconst (v := 0) hx hb dX2_mostFrom_4 (by decide) ?_
  refine lv_istore (lv' := [(8, .int 0), (6, .long ed), (0, .ref (ad 2)), (1, .int (ac_la j)), (2, .int (nI sn)), (3, .int nx), (4, .long ed)]) hx hb dX2_mostFrom_5 hl (by decide) rfl (fun ls hl => ?_)
  refine am_loopR (σ := Nat) (fun q n9 ls => n9 = na - q ∧ q ≤ na ∧ lv_has ls 9 [(0, .ref (ad 2)), (1, .int (ac_la j)), (2, .int (nI sn)), (3, .int nx), (4, .long ed), (6, .long (ac_mfrom (al 18) (al 17) j sn nx ed q)), (8, .int (nI q))]) ?_ 0 (na - 0) ls ⟨rfl, (by omega), lv_sub hl [2, 3, 4, 5, 6, 1, 0] rfl⟩
  rintro k n9 ls ⟨hn_7, hk, hl⟩ ih_7
  refine lv_iload hx hb dX2_mostFrom_7 (lv_at hl 6 rfl) ?_
  refine lv_aload_n hx hb dX2_mostFrom_9 rfl (lv_at hl 0 rfl) ?_
  refine va_get (D := D) (ci := 2) (v := .ref (ad 1)) (C := RX2) (T := TX2) (N := 4) hx hb hts hin_X2 hown hK hP 2 rfl rfl 0 (by decide) hf_21 (fun _ h9 => h9) rfl dX2_mostFrom_10 ?_
  refine va_get (D := D) (ci := 1) (v := .int (fi 0)) (C := RX1) (T := TX1) (N := 14) hx hb hts hin_X1 hown hK hP 1 rfl rfl 0 (by decide) hf_56 (fun _ h9 => h9) rfl dX2_mostFrom_13 ?_
  refine lv_icmp_ge (tgt := 49) hx hb dX2_mostFrom_16 (by decide) (fun c_16 => ?_) (fun c_16 => ?_)
  · skip
    have hke_16 : na ≤ k := (am_ge hna (by omega) (by omega)).mp c_16
    have hkq_16 : na = k := by omega
    subst hkq_16
    refine lv_lload hx hb dX2_mostFrom_49 (lv_at hl 5 rfl) ?_
    exact am_lretR hx hb hr hlocks (by first | rfl | (simp only [c_16, if_true, if_false, eq_self, not_true_eq_false, not_false_eq_true, ite_true, ite_false, ↓reduceIte]; done) | (simp [c_16]; done)) dX2_mostFrom_51
  · skip
    have hkl_16 : k < na := Nat.lt_of_not_le (fun z => c_16 ((am_ge hna (by omega) (by omega)).mpr z))
    refine lv_iload_n hx hb dX2_mostFrom_19 rfl (lv_at hl 3 rfl) ?_
    refine lv_iload hx hb dX2_mostFrom_20 (lv_at hl 6 rfl) ?_
    refine am_callRi (va_Run.run (va_runSN (As := [.int nx, .int (nI k)]) (rest := []) ⟨hx, hb, hml, hown, hts⟩ (c_X0_has l D _ _ nx (nI k)) ⟨va_cnB 2 hts (am_gN (am_in 206 rfl)) rfl rfl rfl (am_nw_at hN 2 rfl) (ht 29 _ rfl) (by decide +kernel) ⟨Nat.le_of_ble_eq_true rfl, Nat.le_of_ble_eq_true rfl⟩, (ht 205 _ rfl), trivial⟩ (am_preSR hP hK hN) rfl rfl hl.1 rfl (lv_room (Nat.le_of_ble_eq_true rfl)) dX2_mostFrom_22 ⟨Nat.zero_le _, Nat.zero_le _⟩)) ?_
    refine lv_if_eq (tgt := 43) hx hb dX2_mostFrom_25 (by decide) (fun c_25 => ?_) (fun c_25 => ?_)
    · skip
      refine lv_iinc (v := nI (k + 1)) (lv' := [(8, .int (nI (k + 1))), (0, .ref (ad 2)), (1, .int (ac_la j)), (2, .int (nI sn)), (3, .int nx), (4, .long ed), (6, .long (ac_mfrom (al 18) (al 17) j sn nx ed k))]) hx hb dX2_mostFrom_43 hl (k := 6) rfl (nI_1 k) (by decide) rfl (fun ls hl => ?_)
      refine lv_goto (tgt := 7) hx hb dX2_mostFrom_46 (by decide) ?_
      have e_7_0 : ac_mfrom (al 18) (al 17) j sn nx ed (k + 1) = ac_mfrom (al 18) (al 17) j sn nx ed k := by first | rfl | (simp only [ac_mfrom, c_16, c_25, if_true, if_false, eq_self, not_true_eq_false, not_false_eq_true, ite_true, ite_false, ↓reduceIte]; done) | (simp [ac_mfrom, c_16, c_25]; done)
      refine ih_7 (k + 1) (na - (k + 1)) ls (by omega) ⟨rfl, (by omega), ?_⟩
      try dsimp only
      rw [e_7_0]
      exact lv_sub hl [1, 2, 3, 4, 5, 6, 0] rfl
    · skip
      refine lv_lload hx hb dX2_mostFrom_28 (lv_at hl 5 rfl) ?_
      refine lv_aload_n hx hb dX2_mostFrom_30 rfl (lv_at hl 0 rfl) ?_
      refine lv_iload_n hx hb dX2_mostFrom_31 rfl (lv_at hl 1 rfl) ?_
      refine lv_iload_n hx hb dX2_mostFrom_32 rfl (lv_at hl 2 rfl) ?_
      refine lv_iload hx hb dX2_mostFrom_33 (lv_at hl 6 rfl) ?_
      refine am_callRl (W.runV (As := [.int (ac_la j), .int (nI sn), .int (nI k)]) (rest := [.long (ac_mfrom (al 18) (al 17) j sn nx ed k)]) ⟨hx, hb, hml, hown, hts⟩ (c_X2_mostBy l D ad cI cL fi fl ai al j sn k hj hsn (by omega)) (cwV 3 hts (am_gV (am_in 332 rfl) (am_in 333 rfl) (am_in 6 rfl) (am_in 32 rfl) (am_in 334 rfl)) rfl rfl rfl (by decide +kernel) ⟨Nat.le_of_ble_eq_true rfl, Nat.le_of_ble_eq_true rfl⟩) (am_preVR 2 2 rfl rfl rfl hP hK hN) rfl rfl hl.1 rfl (lv_room (Nat.le_of_ble_eq_true rfl)) dX2_mostFrom_35 ⟨Nat.zero_le _, Nat.zero_le _⟩) ?_
      refine va_mmax_long hx hb (hml.trans hl.1.symm) hown (ht 335 _ rfl) (ht 336 _ rfl) (ht 37 _ rfl) (ht 337 _ rfl) (Nat.le_of_ble_eq_true rfl) (Nat.le_of_ble_eq_true rfl) (Nat.zero_le _) (Nat.zero_le _) dX2_mostFrom_38 ?_
      refine am_topl (y := ac_max (ac_mfrom (al 18) (al 17) j sn nx ed k) (ac_mby (al 18) (al 17) j sn k)) rfl ?_
      refine lv_lstore (lv' := [(6, .long (ac_max (ac_mfrom (al 18) (al 17) j sn nx ed k) (ac_mby (al 18) (al 17) j sn k))), (0, .ref (ad 2)), (1, .int (ac_la j)), (2, .int (nI sn)), (3, .int nx), (4, .long ed), (8, .int (nI k))]) hx hb dX2_mostFrom_41 hl (by decide) rfl (fun ls hl => ?_)
      refine lv_iinc (v := nI (k + 1)) (lv' := [(8, .int (nI (k + 1))), (6, .long (ac_max (ac_mfrom (al 18) (al 17) j sn nx ed k) (ac_mby (al 18) (al 17) j sn k))), (0, .ref (ad 2)), (1, .int (ac_la j)), (2, .int (nI sn)), (3, .int nx), (4, .long ed)]) hx hb dX2_mostFrom_43 hl (k := 6) rfl (nI_1 k) (by decide) rfl (fun ls hl => ?_)
      refine lv_goto (tgt := 7) hx hb dX2_mostFrom_46 (by decide) ?_
      have e_7_0 : ac_mfrom (al 18) (al 17) j sn nx ed (k + 1) = ac_max (ac_mfrom (al 18) (al 17) j sn nx ed k) (ac_mby (al 18) (al 17) j sn k) := by first | rfl | (simp only [ac_mfrom, c_16, c_25, if_true, if_false, eq_self, not_true_eq_false, not_false_eq_true, ite_true, ite_false, ↓reduceIte]; done) | (simp [ac_mfrom, c_16, c_25]; done)
      refine ih_7 (k + 1) (na - (k + 1)) ls (by omega) ⟨rfl, (by omega), ?_⟩
      try dsimp only
      rw [e_7_0]
      exact lv_sub hl [2, 3, 4, 5, 6, 1, 0] rfl

set_option maxHeartbeats 4000000 in
set_option maxRecDepth 100000 in
theorem c_X2_endOf (l : Launch) (D : va_G) (ad : Nat → Nat) (cI cL : ClassId) (fi : Nat → Int32) (fl : Nat → Int64) (ai : Nat → Nat → Int32) (al : Nat → Nat → Int64) (x : Int32) (na : Nat) (nr : Nat) (hna : fi 0 = nI na) (hnl : na ≤ 10) (hnr : fi 2 = nI nr) (hnrl : nr ≤ 16) : Met l yX2_endOf wsX2_endOf (am_rm 3 65) (va_Pc [.ref (ad 2), .int x] (am_R nwL vwCl D (ac_w ad cI cL fi fl ai al) [(cI, .int), (cL, .long)])) (vp_Sl (fun r => r = ac_end (ai 5) (ai 14) (al 15) (al 16) (fi 1) na nr x)) 0 0 am_No := by
  refine am_startR (cc := cX2_endOf) (maxL := 6) (ret := (some .long)) (by decide) rfl (Nat.le_of_ble_eq_true rfl) [(0, .ref (ad 2)), (1, .int x)] rfl ?_
  intro p e s m below meth c ls hx hb hr hml hown hts hlocks hP hK hN hl
  have hown : s.vm.findClass RX2 = some m.cls := hown
  have ht := am_ht hts
  have hin_X2 : ∀ w ∈ u_ws RX2 TX2 4, w ∈ wsX2_endOf := fun w h => List.mem_cons_of_mem _ (am_inX2 w h)
  have hf_21 := ht 106 (.fieldLink RX2 21 "ApartCost$Planner" "product" "LApartCost$Product;") rfl
  have hf_9 := ht 108 (.fieldLink RX2 9 "ApartCost$Planner" "values" "[J") rfl
  refine lv_aload_n hx hb dX2_endOf_0 rfl (lv_at hl 0 rfl) ?_
  refine va_get (D := D) (ci := 2) (v := .ref (ad 1)) (C := RX2) (T := TX2) (N := 4) hx hb hts hin_X2 hown hK hP 2 rfl rfl 0 (by decide) hf_21 (fun _ h9 => h9) rfl dX2_endOf_1 ?_
  refine lv_iload_n hx hb dX2_endOf_4 rfl (lv_at hl 1 rfl) ?_
  refine am_callRi (W.runV (As := [.int x]) (rest := []) ⟨hx, hb, hml, hown, hts⟩ (c_X1_wholeBy l D ad cI cL fi fl ai al x na hna hnl) (cwV 1 hts (am_gV (am_in 316 rfl) (am_in 317 rfl) (am_in 318 rfl) (am_in 30 rfl) (am_in 319 rfl)) rfl rfl rfl (by decide +kernel) ⟨Nat.le_of_ble_eq_true rfl, Nat.le_of_ble_eq_true rfl⟩) (am_preVR 1 1 rfl rfl rfl hP hK hN) rfl rfl hl.1 rfl (lv_room (Nat.le_of_ble_eq_true rfl)) dX2_endOf_5 ⟨Nat.zero_le _, Nat.zero_le _⟩) ?_
  refine lv_istore_n (lv' := [(2, .int (ac_whole (ai 5) (fi 1) na x)), (0, .ref (ad 2)), (1, .int x)]) hx hb dX2_endOf_8 rfl hl (by decide) rfl (fun ls hl => ?_)
  refine lv_aload_n hx hb dX2_endOf_9 rfl (lv_at hl 1 rfl) ?_
  refine va_get (D := D) (ci := 2) (v := .ref (ad 1)) (C := RX2) (T := TX2) (N := 4) hx hb hts hin_X2 hown hK hP 2 rfl rfl 0 (by decide) hf_21 (fun _ h9 => h9) rfl dX2_endOf_10 ?_
  refine lv_sipush (v := 4095) hx hb dX2_endOf_13 (by decide) ?_
  refine lv_aload_n hx hb dX2_endOf_16 rfl (lv_at hl 1 rfl) ?_
  refine va_get (D := D) (ci := 2) (v := .ref (ad 1)) (C := RX2) (T := TX2) (N := 4) hx hb hts hin_X2 hown hK hP 2 rfl rfl 0 (by decide) hf_21 (fun _ h9 => h9) rfl dX2_endOf_17 ?_
  refine lv_iload_n hx hb dX2_endOf_20 rfl (lv_at hl 2 rfl) ?_
  refine am_callRi (W.runV (As := [.int x]) (rest := [.int 4095, .ref (ad 1)]) ⟨hx, hb, hml, hown, hts⟩ (c_X1_freedBy l D ad cI cL fi fl ai al x na hna hnl) (cwV 1 hts (am_gV (am_in 324 rfl) (am_in 321 rfl) (am_in 322 rfl) (am_in 30 rfl) (am_in 323 rfl)) rfl rfl rfl (by decide +kernel) ⟨Nat.le_of_ble_eq_true rfl, Nat.le_of_ble_eq_true rfl⟩) (am_preVR 1 1 rfl rfl rfl hP hK hN) rfl rfl hl.1 rfl (lv_room (Nat.le_of_ble_eq_true rfl)) dX2_endOf_21 ⟨Nat.zero_le _, Nat.zero_le _⟩) ?_
  refine lv_iconst (v := (-1)) hx hb dX2_endOf_24 (by decide) ?_
  refine lv_ixor hx hb dX2_endOf_25 ?_
  refine lv_iand hx hb dX2_endOf_26 ?_
  refine am_callRl (W.runV (As := [.int (4095 &&& ((ac_freed (ai 5) x na) ^^^ (-1)))]) (rest := []) ⟨hx, hb, hml, hown, hts⟩ (c_X1_restWorth l D ad cI cL fi fl ai al (4095 &&& ((ac_freed (ai 5) x na) ^^^ (-1))) nr hnr hnrl) (cwV 1 hts (am_gV (am_in 325 rfl) (am_in 326 rfl) (am_in 327 rfl) (am_in 30 rfl) (am_in 328 rfl)) rfl rfl rfl (by decide +kernel) ⟨Nat.le_of_ble_eq_true rfl, Nat.le_of_ble_eq_true rfl⟩) (am_preVR 1 1 rfl rfl rfl hP hK hN) rfl rfl hl.1 rfl (lv_room (Nat.le_of_ble_eq_true rfl)) dX2_endOf_27 ⟨Nat.zero_le _, Nat.zero_le _⟩) ?_
  refine lv_ldc2 (v := 27720) hx hb hown (ht 303 _ rfl) dX2_endOf_30 ?_
  refine lv_lmul hx hb dX2_endOf_33 ?_
  refine lv_lstore_n (lv' := [(3, .long ((ac_restW (ai 14) (al 15) nr (4095 &&& ((ac_freed (ai 5) x na) ^^^ (-1)))) * 27720)), (2, .int (ac_whole (ai 5) (fi 1) na x)), (0, .ref (ad 2)), (1, .int x)]) hx hb dX2_endOf_34 rfl hl (by decide) rfl (fun ls hl => ?_)
  refine lv_iconst (v := 0) hx hb dX2_endOf_35 (by decide) ?_
  refine lv_istore (lv' := [(5, .int 0), (3, .long ((ac_restW (ai 14) (al 15) nr (4095 &&& ((ac_freed (ai 5) x na) ^^^ (-1)))) * 27720)), (2, .int (ac_whole (ai 5) (fi 1) na x)), (0, .ref (ad 2)), (1, .int x)]) hx hb dX2_endOf_36 hl (by decide) rfl (fun ls hl => ?_)
  refine am_loopR (σ := Nat) (fun q n9 ls => n9 = 12 - q ∧ q ≤ 12 ∧ lv_has ls 6 [(0, .ref (ad 2)), (1, .int x), (2, .int (ac_whole (ai 5) (fi 1) na x)), (3, .long (ac_endl (al 16) (ac_whole (ai 5) (fi 1) na x) (ac_restW (ai 14) (al 15) nr (4095 &&& (ac_freed (ai 5) x na ^^^ (-1))) * 27720) q)), (5, .int (nI q))]) ?_ 0 (12 - 0) ls ⟨rfl, (by omega), lv_sub hl [3, 4, 2, 1, 0] rfl⟩
  rintro k n9 ls ⟨hn_38, hk, hl⟩ ih_38
  refine lv_iload hx hb dX2_endOf_38 (lv_at hl 4 rfl) ?_
  refine lv_bipush (v := 12) hx hb dX2_endOf_40 (by decide) ?_
  refine lv_icmp_ge (tgt := 70) hx hb dX2_endOf_42 (by decide) (fun c_42 => ?_) (fun c_42 => ?_)
  · skip
    have hke_42 : 12 ≤ k := (am_ge (rfl : (12 : Int32) = nI 12) (by decide) (by omega)).mp c_42
    have hkq_42 : k = 12 := by omega
    subst hkq_42
    refine lv_lload_n hx hb dX2_endOf_70 rfl (lv_at hl 3 rfl) ?_
    exact am_lretR hx hb hr hlocks (by first | rfl | (simp only [ac_end, c_42, if_true, if_false, eq_self, not_true_eq_false, not_false_eq_true, ite_true, ite_false, ↓reduceIte]; done) | (simp [ac_end, c_42]; done)) dX2_endOf_71
  · skip
    have hkl_42 : k < 12 := Nat.lt_of_not_le (fun z => c_42 ((am_ge (rfl : (12 : Int32) = nI 12) (by decide) (by omega)).mpr z))
    refine lv_iload_n hx hb dX2_endOf_45 rfl (lv_at hl 2 rfl) ?_
    refine lv_iload hx hb dX2_endOf_46 (lv_at hl 4 rfl) ?_
    refine am_callRi (va_Run.run (va_runSN (As := [.int (ac_whole (ai 5) (fi 1) na x), .int (nI k)]) (rest := []) ⟨hx, hb, hml, hown, hts⟩ (c_X0_has l D _ _ (ac_whole (ai 5) (fi 1) na x) (nI k)) ⟨va_cnB 2 hts (am_gN (am_in 206 rfl)) rfl rfl rfl (am_nw_at hN 2 rfl) (ht 29 _ rfl) (by decide +kernel) ⟨Nat.le_of_ble_eq_true rfl, Nat.le_of_ble_eq_true rfl⟩, (ht 205 _ rfl), trivial⟩ (am_preSR hP hK hN) rfl rfl hl.1 rfl (lv_room (Nat.le_of_ble_eq_true rfl)) dX2_endOf_48 ⟨Nat.zero_le _, Nat.zero_le _⟩)) ?_
    refine lv_if_eq (tgt := 64) hx hb dX2_endOf_51 (by decide) (fun c_51 => ?_) (fun c_51 => ?_)
    · skip
      refine lv_iinc (v := nI (k + 1)) (lv' := [(5, .int (nI (k + 1))), (0, .ref (ad 2)), (1, .int x), (2, .int (ac_whole (ai 5) (fi 1) na x)), (3, .long (ac_endl (al 16) (ac_whole (ai 5) (fi 1) na x) (ac_restW (ai 14) (al 15) nr (4095 &&& (ac_freed (ai 5) x na ^^^ (-1))) * 27720) k))]) hx hb dX2_endOf_64 hl (k := 4) rfl (nI_1 k) (by decide) rfl (fun ls hl => ?_)
      refine lv_goto (tgt := 38) hx hb dX2_endOf_67 (by decide) ?_
      have e_38_0 : ac_endl (al 16) (ac_whole (ai 5) (fi 1) na x) (ac_restW (ai 14) (al 15) nr (4095 &&& (ac_freed (ai 5) x na ^^^ (-1))) * 27720) (k + 1) = ac_endl (al 16) (ac_whole (ai 5) (fi 1) na x) (ac_restW (ai 14) (al 15) nr (4095 &&& (ac_freed (ai 5) x na ^^^ (-1))) * 27720) k := by first | rfl | (simp only [ac_endl, c_42, c_51, if_true, if_false, eq_self, not_true_eq_false, not_false_eq_true, ite_true, ite_false, ↓reduceIte]; done) | (simp [ac_endl, c_42, c_51]; done)
      refine ih_38 (k + 1) (12 - (k + 1)) ls (by omega) ⟨rfl, (by omega), ?_⟩
      try dsimp only
      rw [e_38_0]
      exact lv_sub hl [1, 2, 3, 4, 0] rfl
    · skip
      refine lv_lload_n hx hb dX2_endOf_54 rfl (lv_at hl 3 rfl) ?_
      refine lv_aload_n hx hb dX2_endOf_55 rfl (lv_at hl 0 rfl) ?_
      refine va_get (D := D) (ci := 2) (v := .ref (ad 16)) (C := RX2) (T := TX2) (N := 4) hx hb hts hin_X2 hown hK hP 2 rfl rfl 1 (by decide) hf_9 (fun _ h9 => h9) rfl dX2_endOf_56 ?_
      refine lv_iload hx hb dX2_endOf_59 (lv_at hl 4 rfl) ?_
      refine am_lald hx hb hK hP 16 1 rfl rfl k rfl (by omega) (by decide) dX2_endOf_61 ?_
      refine lv_ladd hx hb dX2_endOf_62 ?_
      refine lv_lstore_n (lv' := [(3, .long ((ac_endl (al 16) (ac_whole (ai 5) (fi 1) na x) (ac_restW (ai 14) (al 15) nr (4095 &&& (ac_freed (ai 5) x na ^^^ (-1))) * 27720) k) + ((al 16) k))), (0, .ref (ad 2)), (1, .int x), (2, .int (ac_whole (ai 5) (fi 1) na x)), (5, .int (nI k))]) hx hb dX2_endOf_63 rfl hl (by decide) rfl (fun ls hl => ?_)
      refine lv_iinc (v := nI (k + 1)) (lv' := [(5, .int (nI (k + 1))), (3, .long ((ac_endl (al 16) (ac_whole (ai 5) (fi 1) na x) (ac_restW (ai 14) (al 15) nr (4095 &&& (ac_freed (ai 5) x na ^^^ (-1))) * 27720) k) + ((al 16) k))), (0, .ref (ad 2)), (1, .int x), (2, .int (ac_whole (ai 5) (fi 1) na x))]) hx hb dX2_endOf_64 hl (k := 4) rfl (nI_1 k) (by decide) rfl (fun ls hl => ?_)
      refine lv_goto (tgt := 38) hx hb dX2_endOf_67 (by decide) ?_
      have e_38_0 : ac_endl (al 16) (ac_whole (ai 5) (fi 1) na x) (ac_restW (ai 14) (al 15) nr (4095 &&& (ac_freed (ai 5) x na ^^^ (-1))) * 27720) (k + 1) = (ac_endl (al 16) (ac_whole (ai 5) (fi 1) na x) (ac_restW (ai 14) (al 15) nr (4095 &&& (ac_freed (ai 5) x na ^^^ (-1))) * 27720) k) + ((al 16) k) := by first | rfl | (simp only [ac_endl, c_42, c_51, if_true, if_false, eq_self, not_true_eq_false, not_false_eq_true, ite_true, ite_false, ↓reduceIte]; done) | (simp [ac_endl, c_42, c_51]; done)
      refine ih_38 (k + 1) (12 - (k + 1)) ls (by omega) ⟨rfl, (by omega), ?_⟩
      try dsimp only
      rw [e_38_0]
      exact lv_sub hl [2, 3, 4, 1, 0] rfl

set_option maxHeartbeats 4000000 in
set_option maxRecDepth 100000 in
theorem c_X2_bestNext (l : Launch) (D : va_G) (ad : Nat → Nat) (cI cL : ClassId) (fi : Nat → Int32) (fl : Nat → Int64) (ai : Nat → Nat → Int32) (al : Nat → Nat → Int64) (sn : Nat) (j : Nat) (na : Nat) (nr : Nat) (hna : fi 0 = nI na) (hnl : na ≤ 10) (hnr : fi 2 = nI nr) (hnrl : nr ≤ 16) (hj : j ≤ 10) (hsn : sn < 1024) : Met l yX2_bestNext wsX2_bestNext (am_rm 4 90) (va_Pc [.ref (ad 2), .int (nI sn), .int (ac_la j)] (am_R nwL vwCl D (ac_w ad cI cL fi fl ai al) [(cI, .int), (cL, .long)])) (vp_Si (fun r => r = ac_la (ac_bn (ai 5) (ai 14) (ai 9) (al 15) (al 16) (al 17) (al 18) (fi 1) na nr sn j))) 0 0 am_No := by
  refine am_startR (cc := cX2_bestNext) (maxL := 9) (ret := (some .int)) (by decide) rfl (Nat.le_of_ble_eq_true rfl) [(0, .ref (ad 2)), (1, .int (nI sn)), (2, .int (ac_la j))] rfl ?_
  intro p e s m below meth c ls hx hb hr hml hown hts hlocks hP hK hN hl
  have hown : s.vm.findClass RX2 = some m.cls := hown
  have ht := am_ht hts
  have hin_X2 : ∀ w ∈ u_ws RX2 TX2 4, w ∈ wsX2_bestNext := fun w h => List.mem_cons_of_mem _ (am_inX2 w h)
  have hin_X1 : ∀ w ∈ u_ws RX1 TX1 14, w ∈ wsX2_bestNext := fun w h => List.mem_cons_of_mem _ (am_inX1 w h)
  have hf_21 := ht 106 (.fieldLink RX2 21 "ApartCost$Planner" "product" "LApartCost$Product;") rfl
  have hf_56 := ht 59 (.fieldLink RX2 56 "ApartCost$Product" "acts" "I") rfl
  refine lv_aload_n hx hb dX2_bestNext_0 rfl (lv_at hl 0 rfl) ?_
  refine va_get (D := D) (ci := 2) (v := .ref (ad 1)) (C := RX2) (T := TX2) (N := 4) hx hb hts hin_X2 hown hK hP 2 rfl rfl 0 (by decide) hf_21 (fun _ h9 => h9) rfl dX2_bestNext_1 ?_
  refine lv_iload_n hx hb dX2_bestNext_4 rfl (lv_at hl 1 rfl) ?_
  refine am_callRi (W.runV (As := [.int (nI sn)]) (rest := []) ⟨hx, hb, hml, hown, hts⟩ (c_X1_nextsOf l D ad cI cL fi fl ai al (nI sn) na hna hnl) (cwV 1 hts (am_gV (am_in 309 rfl) (am_in 310 rfl) (am_in 311 rfl) (am_in 30 rfl) (am_in 312 rfl)) rfl rfl rfl (by decide +kernel) ⟨Nat.le_of_ble_eq_true rfl, Nat.le_of_ble_eq_true rfl⟩) (am_preVR 1 1 rfl rfl rfl hP hK hN) rfl rfl hl.1 rfl (lv_room (Nat.le_of_ble_eq_true rfl)) dX2_bestNext_5 ⟨Nat.zero_le _, Nat.zero_le _⟩) ?_
  refine lv_istore_n (lv' := [(3, .int (ac_nexts (ai 9) (nI sn) na)), (0, .ref (ad 2)), (1, .int (nI sn)), (2, .int (ac_la j))]) hx hb dX2_bestNext_8 rfl hl (by decide) rfl (fun ls hl => ?_)
  refine lv_aload_n hx hb dX2_bestNext_9 rfl (lv_at hl 1 rfl) ?_
  refine lv_iload_n hx hb dX2_bestNext_10 rfl (lv_at hl 2 rfl) ?_
  refine am_callRl (W.runV (As := [.int (nI sn)]) (rest := []) ⟨hx, hb, hml, hown, hts⟩ (c_X2_endOf l D ad cI cL fi fl ai al (nI sn) na nr hna hnl hnr hnrl) (cwV 1 hts (am_gV (am_in 313 rfl) (am_in 314 rfl) (am_in 4 rfl) (am_in 32 rfl) (am_in 315 rfl)) rfl rfl rfl (by decide +kernel) ⟨Nat.le_of_ble_eq_true rfl, Nat.le_of_ble_eq_true rfl⟩) (am_preVR 2 2 rfl rfl rfl hP hK hN) rfl rfl hl.1 rfl (lv_room (Nat.le_of_ble_eq_true rfl)) dX2_bestNext_11 ⟨Nat.zero_le _, Nat.zero_le _⟩) ?_
  refine lv_lstore (lv' := [(4, .long (ac_end (ai 5) (ai 14) (al 15) (al 16) (fi 1) na nr (nI sn))), (3, .int (ac_nexts (ai 9) (nI sn) na)), (0, .ref (ad 2)), (1, .int (nI sn)), (2, .int (ac_la j))]) hx hb dX2_bestNext_14 hl (by decide) rfl (fun ls hl => ?_)
  refine lv_aload_n hx hb dX2_bestNext_16 rfl (lv_at hl 2 rfl) ?_
  refine lv_iload_n hx hb dX2_bestNext_17 rfl (lv_at hl 4 rfl) ?_
  refine lv_iload_n hx hb dX2_bestNext_18 rfl (lv_at hl 3 rfl) ?_
  refine lv_iload_n hx hb dX2_bestNext_19 rfl (lv_at hl 1 rfl) ?_
  refine lv_lload hx hb dX2_bestNext_20 (lv_at hl 0 rfl) ?_
  refine am_callRl (W.runV (As := [.int (ac_la j), .int (nI sn), .int (ac_nexts (ai 9) (nI sn) na), .long (ac_end (ai 5) (ai 14) (al 15) (al 16) (fi 1) na nr (nI sn))]) (rest := []) ⟨hx, hb, hml, hown, hts⟩ (c_X2_mostFrom l D ad cI cL fi fl ai al j sn (ac_nexts (ai 9) (nI sn) na) (ac_end (ai 5) (ai 14) (al 15) (al 16) (fi 1) na nr (nI sn)) na hna hnl hj hsn) (cwV 4 hts (am_gV (am_in 329 rfl) (am_in 330 rfl) (am_in 5 rfl) (am_in 32 rfl) (am_in 331 rfl)) rfl rfl rfl (by decide +kernel) ⟨Nat.le_of_ble_eq_true rfl, Nat.le_of_ble_eq_true rfl⟩) (am_preVR 2 2 rfl rfl rfl hP hK hN) rfl rfl hl.1 rfl (lv_room (Nat.le_of_ble_eq_true rfl)) dX2_bestNext_22 ⟨Nat.zero_le _, Nat.zero_le _⟩) ?_
  refine lv_lstore (lv' := [(6, .long (ac_mfrom (al 18) (al 17) j sn (ac_nexts (ai 9) (nI sn) na) (ac_end (ai 5) (ai 14) (al 15) (al 16) (fi 1) na nr (nI sn)) na)), (4, .long (ac_end (ai 5) (ai 14) (al 15) (al 16) (fi 1) na nr (nI sn))), (3, .int (ac_nexts (ai 9) (nI sn) na)), (0, .ref (ad 2)), (1, .int (nI sn)), (2, .int (ac_la j))]) hx hb dX2_bestNext_25 hl (by decide) rfl (fun ls hl => ?_)
  refine lv_lload hx hb dX2_bestNext_27 (lv_at hl 0 rfl) ?_
  refine lv_lload hx hb dX2_bestNext_29 (lv_at hl 1 rfl) ?_
  refine W.lcmp hx hb dX2_bestNext_31 ?_
  refine lv_if_ne (tgt := 37) hx hb dX2_bestNext_32 (by decide) (fun c_32 => ?_) (fun c_32 => ?_)
  · skip
    have c_32 : ¬ (ac_mfrom (al 18) (al 17) j sn (ac_nexts (ai 9) (nI sn) na) (ac_end (ai 5) (ai 14) (al 15) (al 16) (fi 1) na nr (nI sn)) na) = (ac_end (ai 5) (ai 14) (al 15) (al 16) (fi 1) na nr (nI sn)) := (fun z => c_32 ((lg_cmp_eq _ _).mpr z))
    refine lv_iconst (v := 0) hx hb dX2_bestNext_37 (by decide) ?_
    refine lv_istore (lv' := [(8, .int 0), (6, .long (ac_mfrom (al 18) (al 17) j sn (ac_nexts (ai 9) (nI sn) na) (ac_end (ai 5) (ai 14) (al 15) (al 16) (fi 1) na nr (nI sn)) na)), (4, .long (ac_end (ai 5) (ai 14) (al 15) (al 16) (fi 1) na nr (nI sn))), (3, .int (ac_nexts (ai 9) (nI sn) na)), (0, .ref (ad 2)), (1, .int (nI sn)), (2, .int (ac_la j))]) hx hb dX2_bestNext_38 hl (by decide) rfl (fun ls hl => ?_)
    refine am_loopR (σ := Nat) (fun q n9 ls => n9 = na - q ∧ q ≤ na ∧ ac_bnl (al 18) (al 17) j sn (ac_nexts (ai 9) (nI sn) na) (ac_mfrom (al 18) (al 17) j sn (ac_nexts (ai 9) (nI sn) na) (ac_end (ai 5) (ai 14) (al 15) (al 16) (fi 1) na nr (nI sn)) na) na 0 = ac_bnl (al 18) (al 17) j sn (ac_nexts (ai 9) (nI sn) na) (ac_mfrom (al 18) (al 17) j sn (ac_nexts (ai 9) (nI sn) na) (ac_end (ai 5) (ai 14) (al 15) (al 16) (fi 1) na nr (nI sn)) na) (na - q) q ∧ lv_has ls 9 [(0, .ref (ad 2)), (1, .int (nI sn)), (2, .int (ac_la j)), (3, .int (ac_nexts (ai 9) (nI sn) na)), (4, .long (ac_end (ai 5) (ai 14) (al 15) (al 16) (fi 1) na nr (nI sn))), (6, .long (ac_mfrom (al 18) (al 17) j sn (ac_nexts (ai 9) (nI sn) na) (ac_end (ai 5) (ai 14) (al 15) (al 16) (fi 1) na nr (nI sn)) na)), (8, .int (nI q))]) ?_ 0 (na - 0) ls ⟨rfl, (by omega), rfl, lv_sub hl [4, 5, 6, 3, 2, 1, 0] rfl⟩
    rintro k n9 ls ⟨hn_40, hk, hm, hl⟩ ih_40
    refine lv_iload hx hb dX2_bestNext_40 (lv_at hl 6 rfl) ?_
    refine lv_aload_n hx hb dX2_bestNext_42 rfl (lv_at hl 0 rfl) ?_
    refine va_get (D := D) (ci := 2) (v := .ref (ad 1)) (C := RX2) (T := TX2) (N := 4) hx hb hts hin_X2 hown hK hP 2 rfl rfl 0 (by decide) hf_21 (fun _ h9 => h9) rfl dX2_bestNext_43 ?_
    refine va_get (D := D) (ci := 1) (v := .int (fi 0)) (C := RX1) (T := TX1) (N := 14) hx hb hts hin_X1 hown hK hP 1 rfl rfl 0 (by decide) hf_56 (fun _ h9 => h9) rfl dX2_bestNext_46 ?_
    refine lv_icmp_ge (tgt := 84) hx hb dX2_bestNext_49 (by decide) (fun c_49 => ?_) (fun c_49 => ?_)
    · skip
      have hke_49 : na ≤ k := (am_ge hna (by omega) (by omega)).mp c_49
      have hkq_49 : na = k := by omega
      subst hkq_49
      refine lv_iconst (v := (-1)) hx hb dX2_bestNext_84 (by decide) ?_
      exact am_iretR hx hb hr hlocks (by rw [ac_bn, if_neg c_32, hm, Nat.sub_self, ac_bnl]; rfl) dX2_bestNext_85
    · skip
      have hkl_49 : k < na := Nat.lt_of_not_le (fun z => c_49 ((am_ge hna (by omega) (by omega)).mpr z))
      refine lv_iload_n hx hb dX2_bestNext_52 rfl (lv_at hl 3 rfl) ?_
      refine lv_iload hx hb dX2_bestNext_53 (lv_at hl 6 rfl) ?_
      refine am_callRi (va_Run.run (va_runSN (As := [.int (ac_nexts (ai 9) (nI sn) na), .int (nI k)]) (rest := []) ⟨hx, hb, hml, hown, hts⟩ (c_X0_has l D _ _ (ac_nexts (ai 9) (nI sn) na) (nI k)) ⟨va_cnB 2 hts (am_gN (am_in 206 rfl)) rfl rfl rfl (am_nw_at hN 2 rfl) (ht 29 _ rfl) (by decide +kernel) ⟨Nat.le_of_ble_eq_true rfl, Nat.le_of_ble_eq_true rfl⟩, (ht 205 _ rfl), trivial⟩ (am_preSR hP hK hN) rfl rfl hl.1 rfl (lv_room (Nat.le_of_ble_eq_true rfl)) dX2_bestNext_55 ⟨Nat.zero_le _, Nat.zero_le _⟩)) ?_
      refine lv_if_eq (tgt := 78) hx hb dX2_bestNext_58 (by decide) (fun c_58 => ?_) (fun c_58 => ?_)
      · skip
        refine lv_iinc (v := nI (k + 1)) (lv' := [(8, .int (nI (k + 1))), (0, .ref (ad 2)), (1, .int (nI sn)), (2, .int (ac_la j)), (3, .int (ac_nexts (ai 9) (nI sn) na)), (4, .long (ac_end (ai 5) (ai 14) (al 15) (al 16) (fi 1) na nr (nI sn))), (6, .long (ac_mfrom (al 18) (al 17) j sn (ac_nexts (ai 9) (nI sn) na) (ac_end (ai 5) (ai 14) (al 15) (al 16) (fi 1) na nr (nI sn)) na))]) hx hb dX2_bestNext_78 hl (k := 6) rfl (nI_1 k) (by decide) rfl (fun ls hl => ?_)
        refine lv_goto (tgt := 40) hx hb dX2_bestNext_81 (by decide) ?_
        refine ih_40 (k + 1) (na - (k + 1)) ls (by omega) ⟨rfl, (by omega), (by rw [hm, show na - k = (na - (k + 1)) + 1 by omega, ac_bnl]; simp [c_49, c_58]), ?_⟩
        exact lv_sub hl [1, 2, 3, 4, 5, 6, 0] rfl
      · skip
        refine lv_aload_n hx hb dX2_bestNext_61 rfl (lv_at hl 0 rfl) ?_
        refine lv_iload_n hx hb dX2_bestNext_62 rfl (lv_at hl 2 rfl) ?_
        refine lv_iload_n hx hb dX2_bestNext_63 rfl (lv_at hl 1 rfl) ?_
        refine lv_iload hx hb dX2_bestNext_64 (lv_at hl 6 rfl) ?_
        refine am_callRl (W.runV (As := [.int (ac_la j), .int (nI sn), .int (nI k)]) (rest := []) ⟨hx, hb, hml, hown, hts⟩ (c_X2_mostBy l D ad cI cL fi fl ai al j sn k hj hsn (by omega)) (cwV 3 hts (am_gV (am_in 332 rfl) (am_in 333 rfl) (am_in 6 rfl) (am_in 32 rfl) (am_in 334 rfl)) rfl rfl rfl (by decide +kernel) ⟨Nat.le_of_ble_eq_true rfl, Nat.le_of_ble_eq_true rfl⟩) (am_preVR 2 2 rfl rfl rfl hP hK hN) rfl rfl hl.1 rfl (lv_room (Nat.le_of_ble_eq_true rfl)) dX2_bestNext_66 ⟨Nat.zero_le _, Nat.zero_le _⟩) ?_
        refine lv_lload hx hb dX2_bestNext_69 (lv_at hl 5 rfl) ?_
        refine W.lcmp hx hb dX2_bestNext_71 ?_
        refine lv_if_ne (tgt := 78) hx hb dX2_bestNext_72 (by decide) (fun c_72 => ?_) (fun c_72 => ?_)
        · skip
          have c_72 : ¬ (ac_mby (al 18) (al 17) j sn k) = (ac_mfrom (al 18) (al 17) j sn (ac_nexts (ai 9) (nI sn) na) (ac_end (ai 5) (ai 14) (al 15) (al 16) (fi 1) na nr (nI sn)) na) := (fun z => c_72 ((lg_cmp_eq _ _).mpr z))
          refine lv_iinc (v := nI (k + 1)) (lv' := [(8, .int (nI (k + 1))), (0, .ref (ad 2)), (1, .int (nI sn)), (2, .int (ac_la j)), (3, .int (ac_nexts (ai 9) (nI sn) na)), (4, .long (ac_end (ai 5) (ai 14) (al 15) (al 16) (fi 1) na nr (nI sn))), (6, .long (ac_mfrom (al 18) (al 17) j sn (ac_nexts (ai 9) (nI sn) na) (ac_end (ai 5) (ai 14) (al 15) (al 16) (fi 1) na nr (nI sn)) na))]) hx hb dX2_bestNext_78 hl (k := 6) rfl (nI_1 k) (by decide) rfl (fun ls hl => ?_)
          refine lv_goto (tgt := 40) hx hb dX2_bestNext_81 (by decide) ?_
          refine ih_40 (k + 1) (na - (k + 1)) ls (by omega) ⟨rfl, (by omega), (by rw [hm, show na - k = (na - (k + 1)) + 1 by omega, ac_bnl]; simp [c_49, c_58, c_72]), ?_⟩
          exact lv_sub hl [1, 2, 3, 4, 5, 6, 0] rfl
        · skip
          have c_72 : (ac_mby (al 18) (al 17) j sn k) = (ac_mfrom (al 18) (al 17) j sn (ac_nexts (ai 9) (nI sn) na) (ac_end (ai 5) (ai 14) (al 15) (al 16) (fi 1) na nr (nI sn)) na) := (lg_cmp_eq _ _).mp c_72
          refine lv_iload hx hb dX2_bestNext_75 (lv_at hl 6 rfl) ?_
          exact am_iretR hx hb hr hlocks (by rw [ac_bn, if_neg c_32, hm, show na - k = (na - (k + 1)) + 1 by omega, ac_bnl, if_neg c_58, if_pos c_72]; rfl) dX2_bestNext_77
  · skip
    have c_32 : (ac_mfrom (al 18) (al 17) j sn (ac_nexts (ai 9) (nI sn) na) (ac_end (ai 5) (ai 14) (al 15) (al 16) (fi 1) na nr (nI sn)) na) = (ac_end (ai 5) (ai 14) (al 15) (al 16) (fi 1) na nr (nI sn)) := (lg_cmp_eq _ _).mp c_32
    refine lv_iconst (v := (-1)) hx hb dX2_bestNext_35 (by decide) ?_
    exact am_iretR hx hb hr hlocks (by rw [ac_bn, if_pos c_32]; rfl) dX2_bestNext_36
set_option maxHeartbeats 4000000 in
set_option maxRecDepth 100000 in
theorem c_X1_addAct (l : Launch) (D : va_G) (ad : Nat → Nat) (cI cL : ClassId) (fi : Nat → Int32) (fl : Nat → Int64) (ai : Nat → Nat → Int32) (al : Nat → Nat → Int64) (A : Nat → Prop) (x : Int32) (t : Int32) (d : Int32) (z : Int64) (na : Nat) (hna : fi 0 = nI na) (hlt : na < 10) : Met l yX1_addAct wsX1_addAct (am_rm 0 0) (va_Pc [.ref (ad 1), .int x, .int t, .int d, .long z] (am_M nwL vwCl D A (ac_w ad cI cL fi fl ai al) [(cI, .int), (cL, .long)])) (am_Mi vwCl D (fi 0) (ac_w ad cI cL (upd fi 0 ((fi 0) + 1)) fl (va_up (va_up (va_up ai 5 (upd (ai 5) na x)) 6 (upd (ai 6) na t)) 7 (upd (ai 7) na d)) (va_up al 8 (vp_updL (al 8) na z))) A) 0 0 A := by
  refine am_startM (cc := cX1_addAct) (maxL := 7) (ret := (some .int)) (by decide) rfl (Nat.le_of_ble_eq_true rfl) [(0, .ref (ad 1)), (1, .int x), (2, .int t), (3, .int d), (4, .long z)] rfl ?_
  intro p e s m below meth c ls hx hb hr hml hown hts hlocks hK hN hD H locs hP hS hl
  have hown : s.vm.findClass RX1 = some m.cls := hown
  have ht := am_ht hts
  have hin_X1 : ∀ w ∈ u_ws RX1 TX1 14, w ∈ wsX1_addAct := fun w h => List.mem_cons_of_mem _ (am_inX1 w h)
  have hf_15 := ht 61 (.fieldLink RX1 15 "ApartCost$Product" "tools" "[I") rfl
  have hf_18 := ht 62 (.fieldLink RX1 18 "ApartCost$Product" "sides" "[I") rfl
  have hf_21 := ht 63 (.fieldLink RX1 21 "ApartCost$Product" "cents" "[J") rfl
  have hf_54 := ht 56 (.fieldLink RX1 54 "ApartCost$Product" "acts" "I") rfl
  have hf_9 := ht 60 (.fieldLink RX1 9 "ApartCost$Product" "frees" "[I") rfl
  refine lv_aload_n hx hb dX1_addAct_0 rfl (lv_at hl 0 rfl) ?_
  refine va_get (D := D) (ci := 1) (v := .int (fi 0)) (C := RX1) (T := TX1) (N := 14) hx hb hts hin_X1 hown hK hP 1 rfl rfl 0 (by decide) hf_54 (fun _ h9 => h9) rfl dX1_addAct_1 ?_
  refine lv_istore (lv' := [(6, .int (fi 0)), (0, .ref (ad 1)), (1, .int x), (2, .int t), (3, .int d), (4, .long z)]) hx hb dX1_addAct_4 hl (by decide) rfl (fun ls hl => ?_)
  refine lv_aload_n hx hb dX1_addAct_6 rfl (lv_at hl 1 rfl) ?_
  refine va_get (D := D) (ci := 1) (v := .ref (ad 5)) (C := RX1) (T := TX1) (N := 14) hx hb hts hin_X1 hown hK hP 1 rfl rfl 1 (by decide) hf_9 (fun _ h9 => h9) rfl dX1_addAct_7 ?_
  refine lv_iload hx hb dX1_addAct_10 (lv_at hl 0 rfl) ?_
  refine lv_iload_n hx hb dX1_addAct_12 rfl (lv_at hl 2 rfl) ?_
  refine am_iast hx hb hK hP hD hS 5 0 rfl rfl na hna (by omega) (by decide) (ac_w ad cI cL fi fl (va_up ai 5 (upd (ai 5) na x)) al) rfl dX1_addAct_13 (fun H locs hP hD hS => ?_)
  refine lv_aload_n hx hb dX1_addAct_14 rfl (lv_at hl 1 rfl) ?_
  refine va_get (D := D) (ci := 1) (v := .ref (ad 6)) (C := RX1) (T := TX1) (N := 14) hx hb hts hin_X1 hown hK hP 1 rfl rfl 2 (by decide) hf_15 (fun _ h9 => h9) rfl dX1_addAct_15 ?_
  refine lv_iload hx hb dX1_addAct_18 (lv_at hl 0 rfl) ?_
  refine lv_iload_n hx hb dX1_addAct_20 rfl (lv_at hl 3 rfl) ?_
  refine am_iast hx hb hK hP hD hS 6 0 rfl rfl na hna (by omega) (by decide) (ac_w ad cI cL fi fl (va_up (va_up ai 5 (upd (ai 5) na x)) 6 (upd (ai 6) na t)) al) rfl dX1_addAct_21 (fun H locs hP hD hS => ?_)
  refine lv_aload_n hx hb dX1_addAct_22 rfl (lv_at hl 1 rfl) ?_
  refine va_get (D := D) (ci := 1) (v := .ref (ad 7)) (C := RX1) (T := TX1) (N := 14) hx hb hts hin_X1 hown hK hP 1 rfl rfl 3 (by decide) hf_18 (fun _ h9 => h9) rfl dX1_addAct_23 ?_
  refine lv_iload hx hb dX1_addAct_26 (lv_at hl 0 rfl) ?_
  refine lv_iload_n hx hb dX1_addAct_28 rfl (lv_at hl 4 rfl) ?_
  refine am_iast hx hb hK hP hD hS 7 0 rfl rfl na hna (by omega) (by decide) (ac_w ad cI cL fi fl (va_up (va_up (va_up ai 5 (upd (ai 5) na x)) 6 (upd (ai 6) na t)) 7 (upd (ai 7) na d)) al) rfl dX1_addAct_29 (fun H locs hP hD hS => ?_)
  refine lv_aload_n hx hb dX1_addAct_30 rfl (lv_at hl 1 rfl) ?_
  refine va_get (D := D) (ci := 1) (v := .ref (ad 8)) (C := RX1) (T := TX1) (N := 14) hx hb hts hin_X1 hown hK hP 1 rfl rfl 4 (by decide) hf_21 (fun _ h9 => h9) rfl dX1_addAct_31 ?_
  refine lv_iload hx hb dX1_addAct_34 (lv_at hl 0 rfl) ?_
  refine lv_lload hx hb dX1_addAct_36 (lv_at hl 5 rfl) ?_
  refine am_last hx hb hK hP hD hS 8 1 rfl rfl na hna (by omega) (by decide) (ac_w ad cI cL fi fl (va_up (va_up (va_up ai 5 (upd (ai 5) na x)) 6 (upd (ai 6) na t)) 7 (upd (ai 7) na d)) (va_up al 8 (vp_updL (al 8) na z))) rfl dX1_addAct_38 (fun H locs hP hD hS => ?_)
  refine lv_aload_n hx hb dX1_addAct_39 rfl (lv_at hl 1 rfl) ?_
  refine lv_dup hx hb dX1_addAct_40 rfl ?_
  refine va_get (D := D) (ci := 1) (v := .int (fi 0)) (C := RX1) (T := TX1) (N := 14) hx hb hts hin_X1 hown hK hP 1 rfl rfl 0 (by decide) hf_54 (fun _ h9 => h9) rfl dX1_addAct_41 ?_
  refine lv_iconst (v := 1) hx hb dX1_addAct_44 (by decide) ?_
  refine lv_iadd hx hb dX1_addAct_45 ?_
  refine va_put (D := D) (ci := 1) (v := .int ((fi 0) + 1)) (ty := .int) (C := RX1) (T := TX1) (N := 14) hx hb hts hin_X1 tyX1 tyX1_ok nmX1 hown hK hP hD hS 1 rfl rfl 0 (by decide) hf_54 (fun _ h9 => h9) rfl (by decide +kernel) rfl rfl (Nat.le_of_ble_eq_true rfl) dX1_addAct_46 (fun H locs hP hD hS => ?_)
  have hP : va_P D vwCl (ac_w ad cI cL (upd fi 0 ((fi 0) + 1)) fl (va_up (va_up (va_up ai 5 (upd (ai 5) na x)) 6 (upd (ai 6) na t)) 7 (upd (ai 7) na d)) (va_up al 8 (vp_updL (al 8) na z))) H := hP
  have hD : va_D A (ac_w ad cI cL (upd fi 0 ((fi 0) + 1)) fl (va_up (va_up (va_up ai 5 (upd (ai 5) na x)) 6 (upd (ai 6) na t)) 7 (upd (ai 7) na d)) (va_up al 8 (vp_updL (al 8) na z))) := am_D hD rfl
  refine lv_iload hx hb dX1_addAct_49 (lv_at hl 0 rfl) ?_
  exact am_iretM hx hb hr hlocks hP hS (by rfl) dX1_addAct_51

set_option maxHeartbeats 4000000 in
set_option maxRecDepth 100000 in
theorem c_X1_addNeed (l : Launch) (D : va_G) (ad : Nat → Nat) (cI cL : ClassId) (fi : Nat → Int32) (fl : Nat → Int64) (ai : Nat → Nat → Int32) (al : Nat → Nat → Int64) (A : Nat → Prop) (a : Nat) (b : Nat) (na : Nat) (hna : fi 0 = nI na) (hnl : na ≤ 10) (ha : a < na) (hb2 : b < na) : Met l yX1_addNeed wsX1_addNeed (am_rm 1 21) (va_Pc [.ref (ad 1), .int (nI a), .int (nI b)] (am_M nwL vwCl D A (ac_w ad cI cL fi fl ai al) [(cI, .int), (cL, .long)])) (am_Mv vwCl D (ac_w ad cI cL fi fl (va_up ai 9 (ac_addNeed ((ai 9) a ||| ((1 : Int32) <<< (nI a &&& 31))) (nI b) (ai 9) na)) al) A) 0 0 A := by
  refine am_startM (cc := cX1_addNeed) (maxL := 5) (ret := none) (by decide) rfl (Nat.le_of_ble_eq_true rfl) [(0, .ref (ad 1)), (1, .int (nI a)), (2, .int (nI b))] rfl ?_
  intro p e s m below meth c ls hx hb hr hml hown hts hlocks hK hN hD H locs hP hS hl
  have hown : s.vm.findClass RX1 = some m.cls := hown
  have ht := am_ht hts
  have hin_X1 : ∀ w ∈ u_ws RX1 TX1 14, w ∈ wsX1_addNeed := fun w h => List.mem_cons_of_mem _ (am_inX1 w h)
  have hf_25 := ht 65 (.fieldLink RX1 25 "ApartCost$Product" "needs" "[I") rfl
  have hf_54 := ht 56 (.fieldLink RX1 54 "ApartCost$Product" "acts" "I") rfl
  refine lv_aload_n hx hb dX1_addNeed_0 rfl (lv_at hl 0 rfl) ?_
  refine va_get (D := D) (ci := 1) (v := .ref (ad 9)) (C := RX1) (T := TX1) (N := 14) hx hb hts hin_X1 hown hK hP 1 rfl rfl 5 (by decide) hf_25 (fun _ h9 => h9) rfl dX1_addNeed_1 ?_
  refine lv_iload_n hx hb dX1_addNeed_4 rfl (lv_at hl 1 rfl) ?_
  refine am_iald hx hb hK hP 9 0 rfl rfl a rfl (by omega) (by decide) dX1_addNeed_5 ?_
  refine lv_iconst (v := 1) hx hb dX1_addNeed_6 (by decide) ?_
  refine lv_iload_n hx hb dX1_addNeed_7 rfl (lv_at hl 1 rfl) ?_
  refine lv_ishl hx hb dX1_addNeed_8 ?_
  refine lv_ior hx hb dX1_addNeed_9 ?_
  refine lv_istore_n (lv' := [(3, .int (((ai 9) a) ||| ((1 : Int32) <<< ((nI a) &&& 31)))), (0, .ref (ad 1)), (1, .int (nI a)), (2, .int (nI b))]) hx hb dX1_addNeed_10 rfl hl (by decide) rfl (fun ls hl => ?_)
  refine lv_iconst (v := 0) hx hb dX1_addNeed_11 (by decide) ?_
  refine lv_istore (lv' := [(4, .int 0), (3, .int (((ai 9) a) ||| ((1 : Int32) <<< ((nI a) &&& 31)))), (0, .ref (ad 1)), (1, .int (nI a)), (2, .int (nI b))]) hx hb dX1_addNeed_12 hl (by decide) rfl (fun ls hl => ?_)
  refine am_loop (σ := Nat) (fun q n9 H locs ls => n9 = na - q ∧ q ≤ na ∧ va_P D vwCl (ac_w ad cI cL fi fl (va_up ai 9 (ac_addNeed ((ai 9) a ||| ((1 : Int32) <<< (nI a &&& 31))) (nI b) (ai 9) q)) al) H ∧ va_S A s.heap H locs ∧ lv_has ls 5 [(0, .ref (ad 1)), (1, .int (nI a)), (2, .int (nI b)), (3, .int (((ai 9) a) ||| ((1 : Int32) <<< ((nI a) &&& 31)))), (4, .int (nI q))]) ?_ 0 (na - 0) H locs ls ⟨rfl, (by omega), hP, hS, lv_sub hl [2, 3, 4, 1, 0] rfl⟩
  rintro k n9 H locs ls ⟨hn_14, hk, hP, hS, hl⟩ ih_14
  have hD : va_D A (ac_w ad cI cL fi fl (va_up ai 9 (ac_addNeed ((ai 9) a ||| ((1 : Int32) <<< (nI a &&& 31))) (nI b) (ai 9) k)) al) := am_D hD rfl
  refine lv_iload hx hb dX1_addNeed_14 (lv_at hl 4 rfl) ?_
  refine lv_aload_n hx hb dX1_addNeed_16 rfl (lv_at hl 0 rfl) ?_
  refine va_get (D := D) (ci := 1) (v := .int (fi 0)) (C := RX1) (T := TX1) (N := 14) hx hb hts hin_X1 hown hK hP 1 rfl rfl 0 (by decide) hf_54 (fun _ h9 => h9) rfl dX1_addNeed_17 ?_
  refine lv_icmp_ge (tgt := 60) hx hb dX1_addNeed_20 (by decide) (fun c_20 => ?_) (fun c_20 => ?_)
  · skip
    have hke_20 : na ≤ k := (am_ge hna (by omega) (by omega)).mp c_20
    have hkq_20 : na = k := by omega
    subst hkq_20
    exact am_vretM hx hb hr hlocks hP hS dX1_addNeed_60
  · skip
    have hkl_20 : k < na := Nat.lt_of_not_le (fun z => c_20 ((am_ge hna (by omega) (by omega)).mpr z))
    refine lv_iload hx hb dX1_addNeed_23 (lv_at hl 4 rfl) ?_
    refine lv_iload_n hx hb dX1_addNeed_25 rfl (lv_at hl 2 rfl) ?_
    refine lv_icmp_eq (tgt := 43) hx hb dX1_addNeed_26 (by decide) (fun c_26 => ?_) (fun c_26 => ?_)
    · skip
      refine lv_aload_n hx hb dX1_addNeed_43 rfl (lv_at hl 0 rfl) ?_
      refine va_get (D := D) (ci := 1) (v := .ref (ad 9)) (C := RX1) (T := TX1) (N := 14) hx hb hts hin_X1 hown hK hP 1 rfl rfl 5 (by decide) hf_25 (fun _ h9 => h9) rfl dX1_addNeed_44 ?_
      refine lv_iload hx hb dX1_addNeed_47 (lv_at hl 4 rfl) ?_
      refine lv_dup2_11 hx hb dX1_addNeed_49 rfl rfl ?_
      refine am_iald hx hb hK hP 9 0 rfl rfl k rfl (by omega) (by decide) dX1_addNeed_50 ?_
      refine lv_iload_n hx hb dX1_addNeed_51 rfl (lv_at hl 3 rfl) ?_
      refine lv_ior hx hb dX1_addNeed_52 ?_
      refine am_iast hx hb hK hP hD hS 9 0 rfl rfl k rfl (by omega) (by decide) (ac_w ad cI cL fi fl (va_up ai 9 (upd (ac_addNeed ((ai 9) a ||| ((1 : Int32) <<< (nI a &&& 31))) (nI b) (ai 9) k) k (((ac_addNeed ((ai 9) a ||| ((1 : Int32) <<< (nI a &&& 31))) (nI b) (ai 9) k) k) ||| (((ai 9) a) ||| ((1 : Int32) <<< ((nI a) &&& 31)))))) al) rfl dX1_addNeed_53 (fun H locs hP hD hS => ?_)
      refine lv_iinc (v := nI (k + 1)) (lv' := [(4, .int (nI (k + 1))), (0, .ref (ad 1)), (1, .int (nI a)), (2, .int (nI b)), (3, .int (((ai 9) a) ||| ((1 : Int32) <<< ((nI a) &&& 31))))]) hx hb dX1_addNeed_54 hl (k := 4) rfl (nI_1 k) (by decide) rfl (fun ls hl => ?_)
      refine lv_goto (tgt := 14) hx hb dX1_addNeed_57 (by decide) ?_
      have e_14_0 : (ac_addNeed ((ai 9) a ||| ((1 : Int32) <<< (nI a &&& 31))) (nI b) (ai 9) (k + 1)) = (upd (ac_addNeed ((ai 9) a ||| ((1 : Int32) <<< (nI a &&& 31))) (nI b) (ai 9) k) k (((ac_addNeed ((ai 9) a ||| ((1 : Int32) <<< (nI a &&& 31))) (nI b) (ai 9) k) k) ||| (((ai 9) a) ||| ((1 : Int32) <<< ((nI a) &&& 31))))) := by first | rfl | (simp only [ac_addNeed, c_20, c_26, if_true, if_false, eq_self, not_true_eq_false, not_false_eq_true, ite_true, ite_false, ↓reduceIte]; done) | (simp [ac_addNeed, c_20, c_26]; done)
      refine ih_14 (k + 1) (na - (k + 1)) H locs ls (by omega) ⟨rfl, (by omega), ?_, hS, ?_⟩
      · (try dsimp only); (try rw [e_14_0]); exact hP
      · (try dsimp only); (try rw [e_14_0]); exact lv_sub hl [1, 2, 3, 4, 0] rfl
    · skip
      refine lv_aload_n hx hb dX1_addNeed_29 rfl (lv_at hl 0 rfl) ?_
      refine va_get (D := D) (ci := 1) (v := .ref (ad 9)) (C := RX1) (T := TX1) (N := 14) hx hb hts hin_X1 hown hK hP 1 rfl rfl 5 (by decide) hf_25 (fun _ h9 => h9) rfl dX1_addNeed_30 ?_
      refine lv_iload hx hb dX1_addNeed_33 (lv_at hl 4 rfl) ?_
      refine am_iald hx hb hK hP 9 0 rfl rfl k rfl (by omega) (by decide) dX1_addNeed_35 ?_
      refine lv_iload_n hx hb dX1_addNeed_36 rfl (lv_at hl 2 rfl) ?_
      refine am_callRi (va_Run.run (va_runSN (As := [.int ((ac_addNeed ((ai 9) a ||| ((1 : Int32) <<< (nI a &&& 31))) (nI b) (ai 9) k) k), .int (nI b)]) (rest := []) ⟨hx, hb, hml, hown, hts⟩ (c_X0_has l D _ _ ((ac_addNeed ((ai 9) a ||| ((1 : Int32) <<< (nI a &&& 31))) (nI b) (ai 9) k) k) (nI b)) ⟨va_cnB 2 hts (am_gN (am_in 206 rfl)) rfl rfl rfl (am_nw_at hN 1 rfl) (ht 29 _ rfl) (by decide +kernel) ⟨Nat.le_of_ble_eq_true rfl, Nat.le_of_ble_eq_true rfl⟩, (ht 205 _ rfl), trivial⟩ (am_preSR hP hK hN) rfl rfl hl.1 rfl (lv_room (Nat.le_of_ble_eq_true rfl)) dX1_addNeed_37 ⟨Nat.zero_le _, Nat.zero_le _⟩)) ?_
      refine lv_if_eq (tgt := 54) hx hb dX1_addNeed_40 (by decide) (fun c_40 => ?_) (fun c_40 => ?_)
      · skip
        refine lv_iinc (v := nI (k + 1)) (lv' := [(4, .int (nI (k + 1))), (0, .ref (ad 1)), (1, .int (nI a)), (2, .int (nI b)), (3, .int (((ai 9) a) ||| ((1 : Int32) <<< ((nI a) &&& 31))))]) hx hb dX1_addNeed_54 hl (k := 4) rfl (nI_1 k) (by decide) rfl (fun ls hl => ?_)
        refine lv_goto (tgt := 14) hx hb dX1_addNeed_57 (by decide) ?_
        have e_14_0 : (ac_addNeed ((ai 9) a ||| ((1 : Int32) <<< (nI a &&& 31))) (nI b) (ai 9) (k + 1)) = (ac_addNeed ((ai 9) a ||| ((1 : Int32) <<< (nI a &&& 31))) (nI b) (ai 9) k) := by first | rfl | (simp only [ac_addNeed, c_20, c_26, c_40, if_true, if_false, eq_self, not_true_eq_false, not_false_eq_true, ite_true, ite_false, ↓reduceIte]; done) | (simp [ac_addNeed, c_20, c_26, c_40]; done)
        refine ih_14 (k + 1) (na - (k + 1)) H locs ls (by omega) ⟨rfl, (by omega), ?_, hS, ?_⟩
        · (try dsimp only); (try rw [e_14_0]); exact hP
        · (try dsimp only); (try rw [e_14_0]); exact lv_sub hl [1, 2, 3, 4, 0] rfl
      · skip
        refine lv_aload_n hx hb dX1_addNeed_43 rfl (lv_at hl 0 rfl) ?_
        refine va_get (D := D) (ci := 1) (v := .ref (ad 9)) (C := RX1) (T := TX1) (N := 14) hx hb hts hin_X1 hown hK hP 1 rfl rfl 5 (by decide) hf_25 (fun _ h9 => h9) rfl dX1_addNeed_44 ?_
        refine lv_iload hx hb dX1_addNeed_47 (lv_at hl 4 rfl) ?_
        refine lv_dup2_11 hx hb dX1_addNeed_49 rfl rfl ?_
        refine am_iald hx hb hK hP 9 0 rfl rfl k rfl (by omega) (by decide) dX1_addNeed_50 ?_
        refine lv_iload_n hx hb dX1_addNeed_51 rfl (lv_at hl 3 rfl) ?_
        refine lv_ior hx hb dX1_addNeed_52 ?_
        refine am_iast hx hb hK hP hD hS 9 0 rfl rfl k rfl (by omega) (by decide) (ac_w ad cI cL fi fl (va_up ai 9 (upd (ac_addNeed ((ai 9) a ||| ((1 : Int32) <<< (nI a &&& 31))) (nI b) (ai 9) k) k (((ac_addNeed ((ai 9) a ||| ((1 : Int32) <<< (nI a &&& 31))) (nI b) (ai 9) k) k) ||| (((ai 9) a) ||| ((1 : Int32) <<< ((nI a) &&& 31)))))) al) rfl dX1_addNeed_53 (fun H locs hP hD hS => ?_)
        refine lv_iinc (v := nI (k + 1)) (lv' := [(4, .int (nI (k + 1))), (0, .ref (ad 1)), (1, .int (nI a)), (2, .int (nI b)), (3, .int (((ai 9) a) ||| ((1 : Int32) <<< ((nI a) &&& 31))))]) hx hb dX1_addNeed_54 hl (k := 4) rfl (nI_1 k) (by decide) rfl (fun ls hl => ?_)
        refine lv_goto (tgt := 14) hx hb dX1_addNeed_57 (by decide) ?_
        have e_14_0 : (ac_addNeed ((ai 9) a ||| ((1 : Int32) <<< (nI a &&& 31))) (nI b) (ai 9) (k + 1)) = (upd (ac_addNeed ((ai 9) a ||| ((1 : Int32) <<< (nI a &&& 31))) (nI b) (ai 9) k) k (((ac_addNeed ((ai 9) a ||| ((1 : Int32) <<< (nI a &&& 31))) (nI b) (ai 9) k) k) ||| (((ai 9) a) ||| ((1 : Int32) <<< ((nI a) &&& 31))))) := by first | rfl | (simp only [ac_addNeed, c_20, c_26, c_40, if_true, if_false, eq_self, not_true_eq_false, not_false_eq_true, ite_true, ite_false, ↓reduceIte]; done) | (simp [ac_addNeed, c_20, c_26, c_40]; done)
        refine ih_14 (k + 1) (na - (k + 1)) H locs ls (by omega) ⟨rfl, (by omega), ?_, hS, ?_⟩
        · (try dsimp only); (try rw [e_14_0]); exact hP
        · (try dsimp only); (try rw [e_14_0]); exact lv_sub hl [1, 2, 3, 4, 0] rfl

set_option maxHeartbeats 4000000 in
set_option maxRecDepth 100000 in
theorem c_X1_tellRest (l : Launch) (D : va_G) (ad : Nat → Nat) (cI cL : ClassId) (fi : Nat → Int32) (fl : Nat → Int64) (ai : Nat → Nat → Int32) (al : Nat → Nat → Int64) (A : Nat → Prop) (x : Int32) (z : Int64) (nr : Nat) (hnr : fi 2 = nI nr) (hnrl : nr ≤ 16) : Met l yX1_tellRest wsX1_tellRest (am_rm 1 22) (va_Pc [.ref (ad 1), .int x, .long z] (am_M nwL vwCl D A (ac_w ad cI cL fi fl ai al) [(cI, .int), (cL, .long)])) (am_Mi vwCl D (if ac_place (ai 14) x nr 0 < 16 then 1 else 0) (ac_w ad cI cL (upd fi 2 (if ac_place (ai 14) x nr 0 < 16 then (if ac_place (ai 14) x nr 0 = nr then (fi 2) + 1 else (fi 2)) else (fi 2))) fl (va_up ai 14 (if ac_place (ai 14) x nr 0 < 16 then upd (ai 14) (ac_place (ai 14) x nr 0) x else (ai 14))) (va_up al 15 (if ac_place (ai 14) x nr 0 < 16 then vp_updL (al 15) (ac_place (ai 14) x nr 0) z else (al 15)))) A) 0 0 A := by
  refine am_startM (cc := cX1_tellRest) (maxL := 5) (ret := (some .boolean)) (by decide) rfl (Nat.le_of_ble_eq_true rfl) [(0, .ref (ad 1)), (1, .int x), (2, .long z)] rfl ?_
  intro p e s m below meth c ls hx hb hr hml hown hts hlocks hK hN hD H locs hP hS hl
  have hown : s.vm.findClass RX1 = some m.cls := hown
  have ht := am_ht hts
  have hin_X1 : ∀ w ∈ u_ws RX1 TX1 14, w ∈ wsX1_tellRest := fun w h => List.mem_cons_of_mem _ (am_inX1 w h)
  have hf_40 := ht 81 (.fieldLink RX1 40 "ApartCost$Product" "restParts" "[I") rfl
  have hf_43 := ht 82 (.fieldLink RX1 43 "ApartCost$Product" "restCents" "[J") rfl
  have hf_66 := ht 79 (.fieldLink RX1 66 "ApartCost$Product" "rests" "I") rfl
  have hpb := (ac_place_le (ai 14) x nr 0).2
  refine lv_aload_n hx hb dX1_tellRest_0 rfl (lv_at hl 0 rfl) ?_
  refine lv_iload_n hx hb dX1_tellRest_1 rfl (lv_at hl 1 rfl) ?_
  refine am_callRi (W.runV (As := [.int x]) (rest := []) ⟨hx, hb, hml, hown, hts⟩ (c_X1_placeOfRest l D ad cI cL fi fl ai al x nr hnr hnrl) (cwV 1 hts (am_gV (am_in 239 rfl) (am_in 240 rfl) (am_in 0 rfl) (am_in 30 rfl) (am_in 241 rfl)) rfl rfl rfl (by decide +kernel) ⟨Nat.le_of_ble_eq_true rfl, Nat.le_of_ble_eq_true rfl⟩) (am_preVR 1 1 rfl rfl rfl hP hK hN) rfl rfl hl.1 rfl (lv_room (Nat.le_of_ble_eq_true rfl)) dX1_tellRest_2 ⟨Nat.zero_le _, Nat.zero_le _⟩) ?_
  refine lv_istore (lv' := [(4, .int (nI (ac_place (ai 14) x nr 0))), (0, .ref (ad 1)), (1, .int x), (2, .long z)]) hx hb dX1_tellRest_5 hl (by decide) rfl (fun ls hl => ?_)
  refine lv_iload hx hb dX1_tellRest_7 (lv_at hl 0 rfl) ?_
  refine lv_bipush (v := 16) hx hb dX1_tellRest_9 (by decide) ?_
  refine lv_icmp_lt (tgt := 16) hx hb dX1_tellRest_11 (by decide) (fun c_11 => ?_) (fun c_11 => ?_)
  · skip
    have hpl : ac_place (ai 14) x nr 0 < 16 := (am_lt16 (by omega)).mp c_11
    refine lv_iload hx hb dX1_tellRest_16 (lv_at hl 0 rfl) ?_
    refine lv_aload_n hx hb dX1_tellRest_18 rfl (lv_at hl 1 rfl) ?_
    refine va_get (D := D) (ci := 1) (v := .int (fi 2)) (C := RX1) (T := TX1) (N := 14) hx hb hts hin_X1 hown hK hP 1 rfl rfl 11 (by decide) hf_66 (fun _ h9 => h9) rfl dX1_tellRest_19 ?_
    refine lv_icmp_ne (tgt := 35) hx hb dX1_tellRest_22 (by decide) (fun c_22 => ?_) (fun c_22 => ?_)
    · skip
      have hpe : ¬ ac_place (ai 14) x nr 0 = nr := fun z => c_22 (by rw [hnr, z])
      refine lv_aload_n hx hb dX1_tellRest_35 rfl (lv_at hl 1 rfl) ?_
      refine va_get (D := D) (ci := 1) (v := .ref (ad 14)) (C := RX1) (T := TX1) (N := 14) hx hb hts hin_X1 hown hK hP 1 rfl rfl 12 (by decide) hf_40 (fun _ h9 => h9) rfl dX1_tellRest_36 ?_
      refine lv_iload hx hb dX1_tellRest_39 (lv_at hl 0 rfl) ?_
      refine lv_iload_n hx hb dX1_tellRest_41 rfl (lv_at hl 2 rfl) ?_
      refine am_iast hx hb hK hP hD hS 14 0 rfl rfl (ac_place (ai 14) x nr 0) rfl (by omega) (by decide) (ac_w ad cI cL fi fl (va_up ai 14 (upd (ai 14) (ac_place (ai 14) x nr 0) x)) al) rfl dX1_tellRest_42 (fun H locs hP hD hS => ?_)
      refine lv_aload_n hx hb dX1_tellRest_43 rfl (lv_at hl 1 rfl) ?_
      refine va_get (D := D) (ci := 1) (v := .ref (ad 15)) (C := RX1) (T := TX1) (N := 14) hx hb hts hin_X1 hown hK hP 1 rfl rfl 13 (by decide) hf_43 (fun _ h9 => h9) rfl dX1_tellRest_44 ?_
      refine lv_iload hx hb dX1_tellRest_47 (lv_at hl 0 rfl) ?_
      refine lv_lload_n hx hb dX1_tellRest_49 rfl (lv_at hl 3 rfl) ?_
      refine am_last hx hb hK hP hD hS 15 1 rfl rfl (ac_place (ai 14) x nr 0) rfl (by omega) (by decide) (ac_w ad cI cL fi fl (va_up ai 14 (upd (ai 14) (ac_place (ai 14) x nr 0) x)) (va_up al 15 (vp_updL (al 15) (ac_place (ai 14) x nr 0) z))) rfl dX1_tellRest_50 (fun H locs hP hD hS => ?_)
      refine lv_iconst (v := 1) hx hb dX1_tellRest_51 (by decide) ?_
      exact am_zretM hx hb hr hlocks (Or.inr rfl) (by simp only [if_pos hpl, if_neg hpe]; exact hP) hS (by rw [if_pos hpl]) dX1_tellRest_52
    · skip
      have hpe : ac_place (ai 14) x nr 0 = nr := by have h := c_22; rw [hnr, nI_eq (by omega) (by omega)] at h; exact h
      refine lv_aload_n hx hb dX1_tellRest_25 rfl (lv_at hl 1 rfl) ?_
      refine lv_dup hx hb dX1_tellRest_26 rfl ?_
      refine va_get (D := D) (ci := 1) (v := .int (fi 2)) (C := RX1) (T := TX1) (N := 14) hx hb hts hin_X1 hown hK hP 1 rfl rfl 11 (by decide) hf_66 (fun _ h9 => h9) rfl dX1_tellRest_27 ?_
      refine lv_iconst (v := 1) hx hb dX1_tellRest_30 (by decide) ?_
      refine lv_iadd hx hb dX1_tellRest_31 ?_
      refine va_put (D := D) (ci := 1) (v := .int ((fi 2) + 1)) (ty := .int) (C := RX1) (T := TX1) (N := 14) hx hb hts hin_X1 tyX1 tyX1_ok nmX1 hown hK hP hD hS 1 rfl rfl 11 (by decide) hf_66 (fun _ h9 => h9) rfl (by decide +kernel) rfl rfl (Nat.le_of_ble_eq_true rfl) dX1_tellRest_32 (fun H locs hP hD hS => ?_)
      have hP : va_P D vwCl (ac_w ad cI cL (upd fi 2 ((fi 2) + 1)) fl ai al) H := hP
      have hD : va_D A (ac_w ad cI cL (upd fi 2 ((fi 2) + 1)) fl ai al) := am_D hD rfl
      refine lv_aload_n hx hb dX1_tellRest_35 rfl (lv_at hl 1 rfl) ?_
      refine va_get (D := D) (ci := 1) (v := .ref (ad 14)) (C := RX1) (T := TX1) (N := 14) hx hb hts hin_X1 hown hK hP 1 rfl rfl 12 (by decide) hf_40 (fun _ h9 => h9) rfl dX1_tellRest_36 ?_
      refine lv_iload hx hb dX1_tellRest_39 (lv_at hl 0 rfl) ?_
      refine lv_iload_n hx hb dX1_tellRest_41 rfl (lv_at hl 2 rfl) ?_
      refine am_iast hx hb hK hP hD hS 14 0 rfl rfl (ac_place (ai 14) x nr 0) rfl (by omega) (by decide) (ac_w ad cI cL (upd fi 2 ((fi 2) + 1)) fl (va_up ai 14 (upd (ai 14) (ac_place (ai 14) x nr 0) x)) al) rfl dX1_tellRest_42 (fun H locs hP hD hS => ?_)
      refine lv_aload_n hx hb dX1_tellRest_43 rfl (lv_at hl 1 rfl) ?_
      refine va_get (D := D) (ci := 1) (v := .ref (ad 15)) (C := RX1) (T := TX1) (N := 14) hx hb hts hin_X1 hown hK hP 1 rfl rfl 13 (by decide) hf_43 (fun _ h9 => h9) rfl dX1_tellRest_44 ?_
      refine lv_iload hx hb dX1_tellRest_47 (lv_at hl 0 rfl) ?_
      refine lv_lload_n hx hb dX1_tellRest_49 rfl (lv_at hl 3 rfl) ?_
      refine am_last hx hb hK hP hD hS 15 1 rfl rfl (ac_place (ai 14) x nr 0) rfl (by omega) (by decide) (ac_w ad cI cL (upd fi 2 ((fi 2) + 1)) fl (va_up ai 14 (upd (ai 14) (ac_place (ai 14) x nr 0) x)) (va_up al 15 (vp_updL (al 15) (ac_place (ai 14) x nr 0) z))) rfl dX1_tellRest_50 (fun H locs hP hD hS => ?_)
      refine lv_iconst (v := 1) hx hb dX1_tellRest_51 (by decide) ?_
      exact am_zretM hx hb hr hlocks (Or.inr rfl) (by simp only [if_pos hpl, if_pos hpe]; exact hP) hS (by rw [if_pos hpl]) dX1_tellRest_52
  · skip
    have hpl : ¬ ac_place (ai 14) x nr 0 < 16 := fun z => c_11 ((am_lt16 (by omega)).mpr z)
    refine lv_iconst (v := 0) hx hb dX1_tellRest_14 (by decide) ?_
    exact am_zretM hx hb hr hlocks (Or.inl rfl) (by simp only [if_neg hpl]; exact hP) hS (by rw [if_neg hpl]) dX1_tellRest_15

set_option maxHeartbeats 4000000 in
set_option maxRecDepth 100000 in
theorem c_X2_valueAsTold (l : Launch) (D : va_G) (ad : Nat → Nat) (cI cL : ClassId) (fi : Nat → Int32) (fl : Nat → Int64) (ai : Nat → Nat → Int32) (al : Nat → Nat → Int64) (A : Nat → Prop) : Met l yX2_valueAsTold wsX2_valueAsTold (am_rm 1 21) (va_Pc [.ref (ad 2)] (am_M nwL vwCl D A (ac_w ad cI cL fi fl ai al) [(cI, .int), (cL, .long)])) (am_Mv vwCl D (ac_w ad cI cL fi fl ai (va_up al 16 (ac_vals (al 12) (al 13) (al 16) 12))) A) 0 0 A := by
  refine am_startM (cc := cX2_valueAsTold) (maxL := 2) (ret := none) (by decide) rfl (Nat.le_of_ble_eq_true rfl) [(0, .ref (ad 2))] rfl ?_
  intro p e s m below meth c ls hx hb hr hml hown hts hlocks hK hN hD H locs hP hS hl
  have hown : s.vm.findClass RX2 = some m.cls := hown
  have ht := am_ht hts
  have hin_X2 : ∀ w ∈ u_ws RX2 TX2 4, w ∈ wsX2_valueAsTold := fun w h => List.mem_cons_of_mem _ (am_inX2 w h)
  have hf_21 := ht 106 (.fieldLink RX2 21 "ApartCost$Planner" "product" "LApartCost$Product;") rfl
  have hf_9 := ht 108 (.fieldLink RX2 9 "ApartCost$Planner" "values" "[J") rfl
  refine lv_iconst (v := 0) hx hb dX2_valueAsTold_0 (by decide) ?_
  refine lv_istore_n (lv' := [(1, .int 0), (0, .ref (ad 2))]) hx hb dX2_valueAsTold_1 rfl hl (by decide) rfl (fun ls hl => ?_)
  refine am_loop (σ := Nat) (fun q n9 H locs ls => n9 = 12 - q ∧ q ≤ 12 ∧ va_P D vwCl (ac_w ad cI cL fi fl ai (va_up al 16 (ac_vals (al 12) (al 13) (al 16) q))) H ∧ va_S A s.heap H locs ∧ lv_has ls 2 [(0, .ref (ad 2)), (1, .int (nI q))]) ?_ 0 (12 - 0) H locs ls ⟨rfl, (by omega), hP, hS, lv_sub hl [1, 0] rfl⟩
  rintro k n9 H locs ls ⟨hn_2, hk, hP, hS, hl⟩ ih_2
  have hD : va_D A (ac_w ad cI cL fi fl ai (va_up al 16 (ac_vals (al 12) (al 13) (al 16) k))) := am_D hD rfl
  refine lv_iload_n hx hb dX2_valueAsTold_2 rfl (lv_at hl 1 rfl) ?_
  refine lv_bipush (v := 12) hx hb dX2_valueAsTold_3 (by decide) ?_
  refine lv_icmp_ge (tgt := 28) hx hb dX2_valueAsTold_5 (by decide) (fun c_5 => ?_) (fun c_5 => ?_)
  · skip
    have hke_5 : 12 ≤ k := (am_ge (rfl : (12 : Int32) = nI 12) (by decide) (by omega)).mp c_5
    have hkq_5 : k = 12 := by omega
    subst hkq_5
    exact am_vretM hx hb hr hlocks hP hS dX2_valueAsTold_28
  · skip
    have hkl_5 : k < 12 := Nat.lt_of_not_le (fun z => c_5 ((am_ge (rfl : (12 : Int32) = nI 12) (by decide) (by omega)).mpr z))
    refine lv_aload_n hx hb dX2_valueAsTold_8 rfl (lv_at hl 0 rfl) ?_
    refine va_get (D := D) (ci := 2) (v := .ref (ad 16)) (C := RX2) (T := TX2) (N := 4) hx hb hts hin_X2 hown hK hP 2 rfl rfl 1 (by decide) hf_9 (fun _ h9 => h9) rfl dX2_valueAsTold_9 ?_
    refine lv_iload_n hx hb dX2_valueAsTold_12 rfl (lv_at hl 1 rfl) ?_
    refine lv_aload_n hx hb dX2_valueAsTold_13 rfl (lv_at hl 0 rfl) ?_
    refine va_get (D := D) (ci := 2) (v := .ref (ad 1)) (C := RX2) (T := TX2) (N := 4) hx hb hts hin_X2 hown hK hP 2 rfl rfl 0 (by decide) hf_21 (fun _ h9 => h9) rfl dX2_valueAsTold_14 ?_
    refine lv_iload_n hx hb dX2_valueAsTold_17 rfl (lv_at hl 1 rfl) ?_
    refine am_callRl (W.runV (As := [.int (nI k)]) (rest := [.int (nI k), .ref (ad 16)]) ⟨hx, hb, hml, hown, hts⟩ (c_X1_valueOf l D ad cI cL fi fl ai (va_up al 16 (ac_vals (al 12) (al 13) (al 16) k)) k (by omega)) (cwV 1 hts (am_gV (am_in 285 rfl) (am_in 286 rfl) (am_in 287 rfl) (am_in 30 rfl) (am_in 288 rfl)) rfl rfl rfl (by decide +kernel) ⟨Nat.le_of_ble_eq_true rfl, Nat.le_of_ble_eq_true rfl⟩) (am_preVR 1 1 rfl rfl rfl hP hK hN) rfl rfl hl.1 rfl (lv_room (Nat.le_of_ble_eq_true rfl)) dX2_valueAsTold_18 ⟨Nat.zero_le _, Nat.zero_le _⟩) ?_
    refine am_last hx hb hK hP hD hS 16 1 rfl rfl k rfl (by omega) (by decide) (ac_w ad cI cL fi fl ai (va_up al 16 (vp_updL (ac_vals (al 12) (al 13) (al 16) k) k ((al 12) k * (al 13) k)))) rfl dX2_valueAsTold_21 (fun H locs hP hD hS => ?_)
    refine lv_iinc (v := nI (k + 1)) (lv' := [(1, .int (nI (k + 1))), (0, .ref (ad 2))]) hx hb dX2_valueAsTold_22 hl (k := 1) rfl (nI_1 k) (by decide) rfl (fun ls hl => ?_)
    refine lv_goto (tgt := 2) hx hb dX2_valueAsTold_25 (by decide) ?_
    have e_2_0 : (ac_vals (al 12) (al 13) (al 16) (k + 1)) = (vp_updL (ac_vals (al 12) (al 13) (al 16) k) k ((al 12) k * (al 13) k)) := by first | rfl | (simp only [ac_vals, c_5, if_true, if_false, eq_self, not_true_eq_false, not_false_eq_true, ite_true, ite_false, ↓reduceIte]; done) | (simp [ac_vals, c_5]; done)
    refine ih_2 (k + 1) (12 - (k + 1)) H locs ls (by omega) ⟨rfl, (by omega), ?_, hS, ?_⟩
    · (try dsimp only); (try rw [e_2_0]); exact hP
    · (try dsimp only); (try rw [e_2_0]); exact lv_sub hl [1, 0] rfl

set_option maxHeartbeats 4000000 in
set_option maxRecDepth 100000 in
theorem c_X2_valueByShare (l : Launch) (D : va_G) (ad : Nat → Nat) (cI cL : ClassId) (fi : Nat → Int32) (fl : Nat → Int64) (ai : Nat → Nat → Int32) (al : Nat → Nat → Int64) (A : Nat → Prop) (a : Nat) (z : Int64) (ha : a < 12) : Met l yX2_valueByShare wsX2_valueByShare (am_rm 0 0) (va_Pc [.ref (ad 2), .int (nI a), .long z] (am_M nwL vwCl D A (ac_w ad cI cL fi fl ai al) [(cI, .int), (cL, .long)])) (am_Mv vwCl D (ac_w ad cI cL fi fl ai (va_up al 16 (vp_updL (al 16) a ((al 12) a * z)))) A) 0 0 A := by
  refine am_startM (cc := cX2_valueByShare) (maxL := 4) (ret := none) (by decide) rfl (Nat.le_of_ble_eq_true rfl) [(0, .ref (ad 2)), (1, .int (nI a)), (2, .long z)] rfl ?_
  intro p e s m below meth c ls hx hb hr hml hown hts hlocks hK hN hD H locs hP hS hl
  have hown : s.vm.findClass RX2 = some m.cls := hown
  have ht := am_ht hts
  have hin_X2 : ∀ w ∈ u_ws RX2 TX2 4, w ∈ wsX2_valueByShare := fun w h => List.mem_cons_of_mem _ (am_inX2 w h)
  have hin_X1 : ∀ w ∈ u_ws RX1 TX1 14, w ∈ wsX2_valueByShare := fun w h => List.mem_cons_of_mem _ (am_inX1 w h)
  have hf_21 := ht 106 (.fieldLink RX2 21 "ApartCost$Planner" "product" "LApartCost$Product;") rfl
  have hf_31 := ht 75 (.fieldLink RX2 31 "ApartCost$Product" "worths" "[J") rfl
  have hf_9 := ht 108 (.fieldLink RX2 9 "ApartCost$Planner" "values" "[J") rfl
  refine lv_aload_n hx hb dX2_valueByShare_0 rfl (lv_at hl 0 rfl) ?_
  refine va_get (D := D) (ci := 2) (v := .ref (ad 16)) (C := RX2) (T := TX2) (N := 4) hx hb hts hin_X2 hown hK hP 2 rfl rfl 1 (by decide) hf_9 (fun _ h9 => h9) rfl dX2_valueByShare_1 ?_
  refine lv_iload_n hx hb dX2_valueByShare_4 rfl (lv_at hl 1 rfl) ?_
  refine lv_aload_n hx hb dX2_valueByShare_5 rfl (lv_at hl 0 rfl) ?_
  refine va_get (D := D) (ci := 2) (v := .ref (ad 1)) (C := RX2) (T := TX2) (N := 4) hx hb hts hin_X2 hown hK hP 2 rfl rfl 0 (by decide) hf_21 (fun _ h9 => h9) rfl dX2_valueByShare_6 ?_
  refine va_get (D := D) (ci := 1) (v := .ref (ad 12)) (C := RX1) (T := TX1) (N := 14) hx hb hts hin_X1 hown hK hP 1 rfl rfl 9 (by decide) hf_31 (fun _ h9 => h9) rfl dX2_valueByShare_9 ?_
  refine lv_iload_n hx hb dX2_valueByShare_12 rfl (lv_at hl 1 rfl) ?_
  refine am_lald hx hb hK hP 12 1 rfl rfl a rfl (by omega) (by decide) dX2_valueByShare_13 ?_
  refine lv_lload_n hx hb dX2_valueByShare_14 rfl (lv_at hl 2 rfl) ?_
  refine lv_lmul hx hb dX2_valueByShare_15 ?_
  refine am_last hx hb hK hP hD hS 16 1 rfl rfl a rfl (by omega) (by decide) (ac_w ad cI cL fi fl ai (va_up al 16 (vp_updL (al 16) a (((al 12) a) * z)))) rfl dX2_valueByShare_16 (fun H locs hP hD hS => ?_)
  exact am_vretM hx hb hr hlocks hP hS dX2_valueByShare_17
