def rc_bwV (ai : Nat → Nat → Int32) (al : Nat → Nat → Int64) (x y : Int32) (na nr : Nat) : Nat → Int64 := rc_vals (rc_val (ai 1) (ai 5) (ai 10) (ai 11) (ai 12) (al 9) (al 13) x y na nr) (al 19) (2 ^ na)
def rc_bwN (ai : Nat → Nat → Int32) (na : Nat) : Nat → Int32 := rc_no (ai 6) na (ai 17) na
def rc_bwQ (ai : Nat → Nat → Int32) (al : Nat → Nat → Int64) (x y : Int32) (na nr : Nat) : Int64 × (Nat → Int64) := rc_best (rc_bwN ai na) (rc_step (ai 2) (ai 3) (al 4) (al 7) (al 8)) (rc_bwV ai al x y na nr) na 0 0 0 (al 18)
def rc_bwA (ai : Nat → Nat → Int32) (na : Nat) : Nat → Nat → Int32 := va_up ai 17 (rc_bwN ai na)
def rc_bwL (ai : Nat → Nat → Int32) (al : Nat → Nat → Int64) (x y : Int32) (na nr : Nat) : Nat → Nat → Int64 := va_up (va_up al 18 (rc_bwQ ai al x y na nr).2) 19 (rc_bwV ai al x y na nr)
def rc_tv (q0 q1 q2 : Int64) (ab be : Nat → Int32) (p : Nat) (z : Int64) : Int32 := if (ab p).toInt64 * q1 + (be p - ab p).toInt64 * q2 - (be p).toInt64 * 27720 * z ≤ (be p).toInt64 * q0 then 0 else 1
theorem rm_D {A : Nat → Prop} {ad : Nat → Nat} {cI cL cZ : ClassId} {fi fi' : Nat → Int32} {fl fl' : Nat → Int64} {ai ai' : Nat → Nat → Int32} {al al' : Nat → Nat → Int64} (h : va_D A (rm_w ad cI cL cZ fi fl ai al)) : va_D A (rm_w ad cI cL cZ fi' fl' ai' al') := am_D h rfl
theorem rm_ext {ad : Nat → Nat} {cI cL cZ : ClassId} {fi fi' : Nat → Int32} {fl fl' : Nat → Int64} {ai ai' : Nat → Nat → Int32} {al al' : Nat → Nat → Int64} (h0 : fi 0 = fi' 0) (h1 : fi 1 = fi' 1) (h2 : fi 2 = fi' 2) (h3 : fi 3 = fi' 3) (h4 : fi 4 = fi' 4) (h5 : fi 5 = fi' 5) (h6 : fi 6 = fi' 6) (h7 : fi 7 = fi' 7) (h8 : fi 8 = fi' 8) (g0 : fl 0 = fl' 0) (a1 : ai 1 = ai' 1) (a2 : ai 2 = ai' 2) (a3 : ai 3 = ai' 3) (a5 : ai 5 = ai' 5) (a6 : ai 6 = ai' 6) (a10 : ai 10 = ai' 10) (a11 : ai 11 = ai' 11) (a12 : ai 12 = ai' 12) (a14 : ai 14 = ai' 14) (a16 : ai 16 = ai' 16) (a17 : ai 17 = ai' 17) (a20 : ai 20 = ai' 20) (a21 : ai 21 = ai' 21) (l4 : al 4 = al' 4) (l7 : al 7 = al' 7) (l8 : al 8 = al' 8) (l9 : al 9 = al' 9) (l13 : al 13 = al' 13) (l15 : al 15 = al' 15) (l18 : al 18 = al' 18) (l19 : al 19 = al' 19) : rm_w ad cI cL cZ fi fl ai al = rm_w ad cI cL cZ fi' fl' ai' al' := by
  simp only [rm_w, h0, h1, h2, h3, h4, h5, h6, h7, h8, g0, a1, a2, a3, a5, a6, a10, a11, a12, a14, a16, a17, a20, a21, l4, l7, l8, l9, l13, l15, l18, l19]
theorem c_X5_bestWithC (l : Launch) (D : va_G) (ad : Nat → Nat) (cI cL cZ : ClassId) (fi : Nat → Int32) (fl : Nat → Int64) (ai : Nat → Nat → Int32) (al : Nat → Nat → Int64) (A : Nat → Prop) (x : Int32) (y : Int32) (na : Nat) (nr : Nat) (hna : fi 0 = nI na) (hnl : na ≤ 10) (hnr : fi 1 = nI nr) (hnrl : nr ≤ 16) (hbe : ∀ p, p < 12 → ¬ ((ai 11) p).toInt64 = 0) (hto : ∀ a, a < na → ∃ t, t < 6 ∧ (ai 2) a = nI t) (hsi : ∀ a, a < na → ∃ t, t < 6 ∧ (ai 3) a = nI t) : Met l yX5_bestWith wsX5_bestWith (am_rm 4 101) (va_Pc [.ref (ad 0), .int x, .int y] (am_M nwL vwCl D A (rm_w ad cI cL cZ fi fl ai al) [(cI, .int), (cL, .long), (cZ, .boolean)])) (am_Ml vwCl D ((rc_bwQ ai al x y na nr).1) (rm_w ad cI cL cZ (upd (upd fi 7 (-1)) 8 y) fl (rc_bwA ai na) (rc_bwL ai al x y na nr)) A) 0 0 A :=
  c_X5_bestWith l D ad cI cL cZ fi fl ai al A x y na nr hna hnl hnr hnrl hbe hto hsi
set_option maxHeartbeats 4000000 in
set_option maxRecDepth 100000 in
theorem c_X5_test (l : Launch) (D : va_G) (ad : Nat → Nat) (cI cL cZ : ClassId) (fi : Nat → Int32) (fl : Nat → Int64) (ai : Nat → Nat → Int32) (al : Nat → Nat → Int64) (A : Nat → Prop) (x : Int32) (z : Int64) (na : Nat) (nr : Nat) (hna : fi 0 = nI na) (hnl : na ≤ 10) (hnr : fi 1 = nI nr) (hnrl : nr ≤ 16) (hbe : ∀ p, p < 12 → ¬ ((ai 11) p).toInt64 = 0) (hto : ∀ a, a < na → ∃ t, t < 6 ∧ (ai 2) a = nI t) (hsi : ∀ a, a < na → ∃ t, t < 6 ∧ (ai 3) a = nI t) : Met l yX5_test wsX5_test (am_rm 5 125) (va_Pc [.ref (ad 0), .int x, .long z] (am_M nwL vwCl D A (rm_w ad cI cL cZ fi fl ai al) [(cI, .int), (cL, .long), (cZ, .boolean)])) (am_Mi vwCl D (if ac_tstOk x z then rc_tv ((rc_bwQ ai al (-1) 0 na nr).1) ((rc_bwQ (rc_bwA ai na) (rc_bwL ai al (-1) 0 na nr) x 1 na nr).1) ((rc_bwQ (rc_bwA (rc_bwA ai na) na) (rc_bwL (rc_bwA ai na) (rc_bwL ai al (-1) 0 na nr) x 1 na nr) x 0 na nr).1) (ai 10) (ai 11) x.toNatClampNeg z else (-1)) (rm_w ad cI cL cZ (upd (upd fi 7 (if ac_tstOk x z then (-1) else (fi 7))) 8 (if ac_tstOk x z then 0 else (fi 8))) fl (va_up ai 17 (if ac_tstOk x z then (rc_bwA (rc_bwA (rc_bwA ai na) na) na) 17 else (ai 17))) (va_up (va_up al 18 (if ac_tstOk x z then (rc_bwL (rc_bwA (rc_bwA ai na) na) (rc_bwL (rc_bwA ai na) (rc_bwL ai al (-1) 0 na nr) x 1 na nr) x 0 na nr) 18 else (al 18))) 19 (if ac_tstOk x z then (rc_bwL (rc_bwA (rc_bwA ai na) na) (rc_bwL (rc_bwA ai na) (rc_bwL ai al (-1) 0 na nr) x 1 na nr) x 0 na nr) 19 else (al 19)))) A) 0 0 A := by
  refine am_startM (cc := cX5_test) (maxL := 12) (ret := (some .int)) (by decide) rfl (Nat.le_of_ble_eq_true rfl) [(0, .ref (ad 0)), (1, .int x), (2, .long z)] rfl ?_
  intro p e s m below meth c ls hx hb hr hml hown hts hlocks hK hN hD H locs hP hS hl
  have hown : s.vm.findClass RX5 = some m.cls := hown
  have ht := am_ht hts
  have hin_X5 : ∀ w ∈ u_ws RX5 TX5 31, w ∈ wsX5_test := fun w h => List.mem_cons_of_mem _ (am_inX5 w h)
  have hf_39 := ht 440 (.fieldLink RX5 39 "ApartCostModel" "above" "[I") rfl
  have hf_42 := ht 441 (.fieldLink RX5 42 "ApartCostModel" "below" "[I") rfl
  refine lv_iload_n hx hb dX5_test_0 rfl (lv_at hl 1 rfl) ?_
  refine am_callRi (W.runS (As := [.int x]) (rest := []) ⟨hx, hb, hml, hown, hts⟩ (c_X5_isPart l D _ _ x) (va_cwS 1 hts (am_gS (am_in 526 rfl) (am_in 527 rfl) (am_in 35 rfl) (am_in 528 rfl)) rfl rfl rfl (by decide +kernel) ⟨Nat.le_of_ble_eq_true rfl, Nat.le_of_ble_eq_true rfl⟩) (am_preSR hP hK hN) rfl rfl hl.1 rfl (lv_room (Nat.le_of_ble_eq_true rfl)) dX5_test_1 ⟨Nat.zero_le _, Nat.zero_le _⟩) ?_
  refine lv_if_eq (tgt := 14) hx hb dX5_test_4 (by decide) (fun c_4 => ?_) (fun c_4 => ?_)
  · skip
    have c_4 : (ac_isPart x) = 0 := c_4
    refine lv_iconst (v := (-1)) hx hb dX5_test_14 (by decide) ?_
    have hok : ¬ (ac_tstOk x z) := by first | rfl | (simp only [ac_tstOk, c_4, if_true, if_false, eq_self, not_true_eq_false, not_false_eq_true, ite_true, ite_false, ↓reduceIte]; done) | (simp [ac_tstOk, c_4]; done)
    exact am_iretM hx hb hr hlocks (by simp only [if_neg hok]; exact hP) hS (by rw [if_neg hok]; first | done | rfl) dX5_test_15
  · skip
    have c_4 : ¬ ((ac_isPart x) = 0) := c_4
    obtain ⟨a, hq_a, ea⟩ : ∃ z, z < 12 ∧ x = nI z := am_isPart c_4
    have nn_a : x.toNatClampNeg = a := by rw [ea]; exact nI_clamp (by omega)
    have mm_a : (nI a).toNatClampNeg = a := nI_clamp (by omega)
    refine lv_lload_n hx hb dX5_test_7 rfl (lv_at hl 2 rfl) ?_
    refine am_callRi (W.runS (As := [.long z]) (rest := []) ⟨hx, hb, hml, hown, hts⟩ (c_X5_isCents l D _ _ z) (va_cwS 1 hts (am_gS (am_in 500 rfl) (am_in 501 rfl) (am_in 35 rfl) (am_in 502 rfl)) rfl rfl rfl (by decide +kernel) ⟨Nat.le_of_ble_eq_true rfl, Nat.le_of_ble_eq_true rfl⟩) (am_preSR hP hK hN) rfl rfl hl.1 rfl (lv_room (Nat.le_of_ble_eq_true rfl)) dX5_test_8 ⟨Nat.zero_le _, Nat.zero_le _⟩) ?_
    refine lv_if_ne (tgt := 16) hx hb dX5_test_11 (by decide) (fun c_11 => ?_) (fun c_11 => ?_)
    · skip
      have c_11 : ¬ (ac_isPrice z) = 0 := c_11
      refine lv_aload_n hx hb dX5_test_16 rfl (lv_at hl 0 rfl) ?_
      refine lv_iconst (v := (-1)) hx hb dX5_test_17 (by decide) ?_
      refine lv_iconst (v := 0) hx hb dX5_test_18 (by decide) ?_
      refine am_callMl (va_runV (As := [.int (-1), .int 0]) (rest := []) ⟨hx, hb, hml, hown, hts⟩ (c_X5_bestWithC l D ad cI cL cZ fi fl ai al A (-1) 0 na nr hna hnl hnr hnrl hbe hto hsi) (cwV 2 hts (am_gV (am_in 619 rfl) (am_in 620 rfl) (am_in 24 rfl) (am_in 35 rfl) (am_in 621 rfl)) rfl rfl rfl (by decide +kernel) ⟨Nat.le_of_ble_eq_true rfl, Nat.le_of_ble_eq_true rfl⟩) (am_preVM 5 0 rfl rfl rfl hP hK hN hD) rfl rfl hl.1 rfl (lv_room (Nat.le_of_ble_eq_true rfl)) dX5_test_19 ⟨Nat.zero_le _, Nat.zero_le _⟩) hS (fun H locs hP hS => ?_)
      obtain ⟨fiq1, efiq1⟩ : ∃ f, f = (upd (upd fi 7 (-1)) 8 0) := ⟨_, rfl⟩
      obtain ⟨aiq1, eaiq1⟩ : ∃ f, f = (rc_bwA ai na) := ⟨_, rfl⟩
      obtain ⟨alq1, ealq1⟩ : ∃ f, f = (rc_bwL ai al (-1) 0 na nr) := ⟨_, rfl⟩
      rw [← efiq1, ← eaiq1, ← ealq1] at hP
      obtain ⟨rq1, erq1⟩ : ∃ f, f = (rc_bwQ ai al (-1) 0 na nr).1 := ⟨_, rfl⟩
      have hna : fiq1 0 = nI na := by rw [efiq1]; exact hna
      have hnr : fiq1 1 = nI nr := by rw [efiq1]; exact hnr
      have hbe : ∀ p, p < 12 → ¬ ((aiq1 11) p).toInt64 = 0 := by rw [eaiq1]; exact hbe
      have hto : ∀ a, a < na → ∃ t, t < 6 ∧ (aiq1 2) a = nI t := by rw [eaiq1]; exact hto
      have hsi : ∀ a, a < na → ∃ t, t < 6 ∧ (aiq1 3) a = nI t := by rw [eaiq1]; exact hsi
      have hP : va_P D vwCl (rm_w ad cI cL cZ fiq1 fl aiq1 alq1) H := hP
      have hD : va_D A (rm_w ad cI cL cZ fiq1 fl aiq1 alq1) := rm_D hD
      refine am_topl erq1.symm ?_
      refine lv_lstore (lv' := [(4, .long rq1), (0, .ref (ad 0)), (1, .int x), (2, .long z)]) hx hb dX5_test_22 hl (by decide) rfl (fun ls hl => ?_)
      refine lv_aload_n hx hb dX5_test_24 rfl (lv_at hl 1 rfl) ?_
      refine lv_iload_n hx hb dX5_test_25 rfl (lv_at hl 2 rfl) ?_
      refine lv_iconst (v := 1) hx hb dX5_test_26 (by decide) ?_
      refine am_callMl (va_runV (As := [.int x, .int 1]) (rest := []) ⟨hx, hb, hml, hown, hts⟩ (c_X5_bestWithC l D ad cI cL cZ fiq1 fl aiq1 alq1 A x 1 na nr hna hnl hnr hnrl hbe hto hsi) (cwV 2 hts (am_gV (am_in 619 rfl) (am_in 620 rfl) (am_in 24 rfl) (am_in 35 rfl) (am_in 621 rfl)) rfl rfl rfl (by decide +kernel) ⟨Nat.le_of_ble_eq_true rfl, Nat.le_of_ble_eq_true rfl⟩) (am_preVM 5 0 rfl rfl rfl hP hK hN hD) rfl rfl hl.1 rfl (lv_room (Nat.le_of_ble_eq_true rfl)) dX5_test_27 ⟨Nat.zero_le _, Nat.zero_le _⟩) hS (fun H locs hP hS => ?_)
      obtain ⟨fiq2, efiq2⟩ : ∃ f, f = (upd (upd fiq1 7 (-1)) 8 1) := ⟨_, rfl⟩
      obtain ⟨aiq2, eaiq2⟩ : ∃ f, f = (rc_bwA aiq1 na) := ⟨_, rfl⟩
      obtain ⟨alq2, ealq2⟩ : ∃ f, f = (rc_bwL aiq1 alq1 x 1 na nr) := ⟨_, rfl⟩
      rw [← efiq2, ← eaiq2, ← ealq2] at hP
      obtain ⟨rq2, erq2⟩ : ∃ f, f = (rc_bwQ aiq1 alq1 x 1 na nr).1 := ⟨_, rfl⟩
      have hna : fiq2 0 = nI na := by rw [efiq2]; exact hna
      have hnr : fiq2 1 = nI nr := by rw [efiq2]; exact hnr
      have hbe : ∀ p, p < 12 → ¬ ((aiq2 11) p).toInt64 = 0 := by rw [eaiq2]; exact hbe
      have hto : ∀ a, a < na → ∃ t, t < 6 ∧ (aiq2 2) a = nI t := by rw [eaiq2]; exact hto
      have hsi : ∀ a, a < na → ∃ t, t < 6 ∧ (aiq2 3) a = nI t := by rw [eaiq2]; exact hsi
      have hP : va_P D vwCl (rm_w ad cI cL cZ fiq2 fl aiq2 alq2) H := hP
      have hD : va_D A (rm_w ad cI cL cZ fiq2 fl aiq2 alq2) := rm_D hD
      refine am_topl erq2.symm ?_
      refine lv_lstore (lv' := [(6, .long rq2), (4, .long rq1), (0, .ref (ad 0)), (1, .int x), (2, .long z)]) hx hb dX5_test_30 hl (by decide) rfl (fun ls hl => ?_)
      refine lv_aload_n hx hb dX5_test_32 rfl (lv_at hl 2 rfl) ?_
      refine lv_iload_n hx hb dX5_test_33 rfl (lv_at hl 3 rfl) ?_
      refine lv_iconst (v := 0) hx hb dX5_test_34 (by decide) ?_
      refine am_callMl (va_runV (As := [.int x, .int 0]) (rest := []) ⟨hx, hb, hml, hown, hts⟩ (c_X5_bestWithC l D ad cI cL cZ fiq2 fl aiq2 alq2 A x 0 na nr hna hnl hnr hnrl hbe hto hsi) (cwV 2 hts (am_gV (am_in 619 rfl) (am_in 620 rfl) (am_in 24 rfl) (am_in 35 rfl) (am_in 621 rfl)) rfl rfl rfl (by decide +kernel) ⟨Nat.le_of_ble_eq_true rfl, Nat.le_of_ble_eq_true rfl⟩) (am_preVM 5 0 rfl rfl rfl hP hK hN hD) rfl rfl hl.1 rfl (lv_room (Nat.le_of_ble_eq_true rfl)) dX5_test_35 ⟨Nat.zero_le _, Nat.zero_le _⟩) hS (fun H locs hP hS => ?_)
      obtain ⟨fiq3, efiq3⟩ : ∃ f, f = (upd (upd fiq2 7 (-1)) 8 0) := ⟨_, rfl⟩
      obtain ⟨aiq3, eaiq3⟩ : ∃ f, f = (rc_bwA aiq2 na) := ⟨_, rfl⟩
      obtain ⟨alq3, ealq3⟩ : ∃ f, f = (rc_bwL aiq2 alq2 x 0 na nr) := ⟨_, rfl⟩
      rw [← efiq3, ← eaiq3, ← ealq3] at hP
      obtain ⟨rq3, erq3⟩ : ∃ f, f = (rc_bwQ aiq2 alq2 x 0 na nr).1 := ⟨_, rfl⟩
      have hna : fiq3 0 = nI na := by rw [efiq3]; exact hna
      have hnr : fiq3 1 = nI nr := by rw [efiq3]; exact hnr
      have hbe : ∀ p, p < 12 → ¬ ((aiq3 11) p).toInt64 = 0 := by rw [eaiq3]; exact hbe
      have hto : ∀ a, a < na → ∃ t, t < 6 ∧ (aiq3 2) a = nI t := by rw [eaiq3]; exact hto
      have hsi : ∀ a, a < na → ∃ t, t < 6 ∧ (aiq3 3) a = nI t := by rw [eaiq3]; exact hsi
      have hP : va_P D vwCl (rm_w ad cI cL cZ fiq3 fl aiq3 alq3) H := hP
      have hD : va_D A (rm_w ad cI cL cZ fiq3 fl aiq3 alq3) := rm_D hD
      refine am_topl erq3.symm ?_
      refine lv_lstore (lv' := [(8, .long rq3), (6, .long rq2), (4, .long rq1), (0, .ref (ad 0)), (1, .int x), (2, .long z)]) hx hb dX5_test_38 hl (by decide) rfl (fun ls hl => ?_)
      refine lv_aload_n hx hb dX5_test_40 rfl (lv_at hl 3 rfl) ?_
      refine va_get (D := D) (ci := 5) (v := .ref (ad 10)) (C := RX5) (T := TX5) (N := 31) hx hb hts hin_X5 hown hK hP 0 rfl rfl 10 (by decide) hf_39 (fun _ h9 => h9) rfl dX5_test_41 ?_
      refine lv_iload_n hx hb dX5_test_44 rfl (lv_at hl 4 rfl) ?_
      refine am_iald hx hb hK hP 10 0 rfl rfl a ea (by omega) (by decide) dX5_test_45 ?_
      refine lv_i2l (v := ((aiq3 10) a).toInt64) hx hb dX5_test_46 rfl ?_
      refine lv_lload hx hb dX5_test_47 (lv_at hl 1 rfl) ?_
      refine lv_lmul hx hb dX5_test_49 ?_
      refine lv_aload_n hx hb dX5_test_50 rfl (lv_at hl 3 rfl) ?_
      refine va_get (D := D) (ci := 5) (v := .ref (ad 11)) (C := RX5) (T := TX5) (N := 31) hx hb hts hin_X5 hown hK hP 0 rfl rfl 11 (by decide) hf_42 (fun _ h9 => h9) rfl dX5_test_51 ?_
      refine lv_iload_n hx hb dX5_test_54 rfl (lv_at hl 4 rfl) ?_
      refine am_iald hx hb hK hP 11 0 rfl rfl a ea (by omega) (by decide) dX5_test_55 ?_
      refine lv_aload_n hx hb dX5_test_56 rfl (lv_at hl 3 rfl) ?_
      refine va_get (D := D) (ci := 5) (v := .ref (ad 10)) (C := RX5) (T := TX5) (N := 31) hx hb hts hin_X5 hown hK hP 0 rfl rfl 10 (by decide) hf_39 (fun _ h9 => h9) rfl dX5_test_57 ?_
      refine lv_iload_n hx hb dX5_test_60 rfl (lv_at hl 4 rfl) ?_
      refine am_iald hx hb hK hP 10 0 rfl rfl a ea (by omega) (by decide) dX5_test_61 ?_
      refine lv_isub hx hb dX5_test_62 ?_
      refine lv_i2l (v := (((aiq3 11) a) - ((aiq3 10) a)).toInt64) hx hb dX5_test_63 rfl ?_
      refine lv_lload hx hb dX5_test_64 (lv_at hl 0 rfl) ?_
      refine lv_lmul hx hb dX5_test_66 ?_
      refine lv_ladd hx hb dX5_test_67 ?_
      refine lv_aload_n hx hb dX5_test_68 rfl (lv_at hl 3 rfl) ?_
      refine va_get (D := D) (ci := 5) (v := .ref (ad 11)) (C := RX5) (T := TX5) (N := 31) hx hb hts hin_X5 hown hK hP 0 rfl rfl 11 (by decide) hf_42 (fun _ h9 => h9) rfl dX5_test_69 ?_
      refine lv_iload_n hx hb dX5_test_72 rfl (lv_at hl 4 rfl) ?_
      refine am_iald hx hb hK hP 11 0 rfl rfl a ea (by omega) (by decide) dX5_test_73 ?_
      refine lv_i2l (v := ((aiq3 11) a).toInt64) hx hb dX5_test_74 rfl ?_
      refine lv_ldc2 (v := 27720) hx hb hown (ht 571 _ rfl) dX5_test_75 ?_
      refine lv_lmul hx hb dX5_test_78 ?_
      refine lv_lload_n hx hb dX5_test_79 rfl (lv_at hl 5 rfl) ?_
      refine lv_lmul hx hb dX5_test_80 ?_
      refine lv_lsub hx hb dX5_test_81 ?_
      refine lv_lstore (lv' := [(10, .long ((((((aiq3 10) a).toInt64) * rq2) + (((((aiq3 11) a) - ((aiq3 10) a)).toInt64) * rq3)) - (((((aiq3 11) a).toInt64) * 27720) * z))), (8, .long rq3), (6, .long rq2), (4, .long rq1), (0, .ref (ad 0)), (1, .int x), (2, .long z)]) hx hb dX5_test_82 hl (by decide) rfl (fun ls hl => ?_)
      refine lv_lload hx hb dX5_test_84 (lv_at hl 0 rfl) ?_
      refine lv_aload_n hx hb dX5_test_86 rfl (lv_at hl 4 rfl) ?_
      refine va_get (D := D) (ci := 5) (v := .ref (ad 11)) (C := RX5) (T := TX5) (N := 31) hx hb hts hin_X5 hown hK hP 0 rfl rfl 11 (by decide) hf_42 (fun _ h9 => h9) rfl dX5_test_87 ?_
      refine lv_iload_n hx hb dX5_test_90 rfl (lv_at hl 5 rfl) ?_
      refine am_iald hx hb hK hP 11 0 rfl rfl a ea (by omega) (by decide) dX5_test_91 ?_
      refine lv_i2l (v := ((aiq3 11) a).toInt64) hx hb dX5_test_92 rfl ?_
      refine lv_lload hx hb dX5_test_93 (lv_at hl 3 rfl) ?_
      refine lv_lmul hx hb dX5_test_95 ?_
      refine W.lcmp hx hb dX5_test_96 ?_
      refine lv_if_le (tgt := 104) hx hb dX5_test_97 (by decide) (fun c_97 => ?_) (fun c_97 => ?_)
      · skip
        have c_97 : ((((((aiq3 10) a).toInt64) * rq2) + (((((aiq3 11) a) - ((aiq3 10) a)).toInt64) * rq3)) - (((((aiq3 11) a).toInt64) * 27720) * z)) ≤ ((((aiq3 11) a).toInt64) * rq1) := (lg_cmp_le _ _).mp c_97
        refine lv_iconst (v := 0) hx hb dX5_test_104 (by decide) ?_
        have hok : ac_tstOk x z := by first | rfl | (simp only [ac_tstOk, c_4, c_11, c_97, nn_a, if_true, if_false, eq_self, not_true_eq_false, not_false_eq_true, ite_true, ite_false, ↓reduceIte]; done) | (simp [ac_tstOk, c_4, c_11, c_97, nn_a]; done)
        rw [show rm_w ad cI cL cZ fiq3 fl aiq3 alq3 = (rm_w ad cI cL cZ (upd (upd fi 7 (-1)) 8 0) fl (va_up ai 17 ((rc_bwA (rc_bwA (rc_bwA ai na) na) na) 17)) (va_up (va_up al 18 ((rc_bwL (rc_bwA (rc_bwA ai na) na) (rc_bwL (rc_bwA ai na) (rc_bwL ai al (-1) 0 na nr) x 1 na nr) x 0 na nr) 18)) 19 ((rc_bwL (rc_bwA (rc_bwA ai na) na) (rc_bwL (rc_bwA ai na) (rc_bwL ai al (-1) 0 na nr) x 1 na nr) x 0 na nr) 19))) by rw [efiq3, efiq2, efiq1, eaiq3, ealq3, eaiq2, ealq2, eaiq1, ealq1]; exact rm_ext rfl rfl rfl rfl rfl rfl rfl rfl rfl rfl rfl rfl rfl rfl rfl rfl rfl rfl rfl rfl rfl rfl rfl rfl rfl rfl rfl rfl rfl rfl rfl] at hP
        have c_97 := c_97
        rw [show aiq3 10 = ai 10 by rw [eaiq3, eaiq2, eaiq1]; rfl, show aiq3 11 = ai 11 by rw [eaiq3, eaiq2, eaiq1]; rfl] at c_97
        exact am_iretM hx hb hr hlocks (by simp only [if_pos hok]; exact hP) hS (by rw [if_pos hok, rc_tv, nn_a]; rw [erq1, erq2, erq3, ealq2, eaiq2, ealq1, eaiq1] at c_97; exact (if_pos c_97).symm) dX5_test_105
      · skip
        have c_97 : ¬ (((((((aiq3 10) a).toInt64) * rq2) + (((((aiq3 11) a) - ((aiq3 10) a)).toInt64) * rq3)) - (((((aiq3 11) a).toInt64) * 27720) * z)) ≤ ((((aiq3 11) a).toInt64) * rq1)) := (fun z => c_97 ((lg_cmp_le _ _).mpr z))
        refine lv_iconst (v := 1) hx hb dX5_test_100 (by decide) ?_
        refine lv_goto (tgt := 105) hx hb dX5_test_101 (by decide) ?_
        have hok : ac_tstOk x z := by first | rfl | (simp only [ac_tstOk, c_4, c_11, c_97, nn_a, if_true, if_false, eq_self, not_true_eq_false, not_false_eq_true, ite_true, ite_false, ↓reduceIte]; done) | (simp [ac_tstOk, c_4, c_11, c_97, nn_a]; done)
        rw [show rm_w ad cI cL cZ fiq3 fl aiq3 alq3 = (rm_w ad cI cL cZ (upd (upd fi 7 (-1)) 8 0) fl (va_up ai 17 ((rc_bwA (rc_bwA (rc_bwA ai na) na) na) 17)) (va_up (va_up al 18 ((rc_bwL (rc_bwA (rc_bwA ai na) na) (rc_bwL (rc_bwA ai na) (rc_bwL ai al (-1) 0 na nr) x 1 na nr) x 0 na nr) 18)) 19 ((rc_bwL (rc_bwA (rc_bwA ai na) na) (rc_bwL (rc_bwA ai na) (rc_bwL ai al (-1) 0 na nr) x 1 na nr) x 0 na nr) 19))) by rw [efiq3, efiq2, efiq1, eaiq3, ealq3, eaiq2, ealq2, eaiq1, ealq1]; exact rm_ext rfl rfl rfl rfl rfl rfl rfl rfl rfl rfl rfl rfl rfl rfl rfl rfl rfl rfl rfl rfl rfl rfl rfl rfl rfl rfl rfl rfl rfl rfl rfl] at hP
        have c_97 := c_97
        rw [show aiq3 10 = ai 10 by rw [eaiq3, eaiq2, eaiq1]; rfl, show aiq3 11 = ai 11 by rw [eaiq3, eaiq2, eaiq1]; rfl] at c_97
        exact am_iretM hx hb hr hlocks (by simp only [if_pos hok]; exact hP) hS (by rw [if_pos hok, rc_tv, nn_a]; rw [erq1, erq2, erq3, ealq2, eaiq2, ealq1, eaiq1] at c_97; exact (if_neg c_97).symm) dX5_test_105
    · skip
      have c_11 : (ac_isPrice z) = 0 := c_11
      refine lv_iconst (v := (-1)) hx hb dX5_test_14 (by decide) ?_
      have hok : ¬ (ac_tstOk x z) := by first | rfl | (simp only [ac_tstOk, c_4, c_11, nn_a, if_true, if_false, eq_self, not_true_eq_false, not_false_eq_true, ite_true, ite_false, ↓reduceIte]; done) | (simp [ac_tstOk, c_4, c_11, nn_a]; done)
      exact am_iretM hx hb hr hlocks (by simp only [if_neg hok]; exact hP) hS (by rw [if_neg hok]; first | done | rfl) dX5_test_15

