-- ===== run of the reference =====
def rc_pc (s : Nat) : Nat := s % 2 + s / 2 % 2 + s / 4 % 2 + s / 8 % 2 + s / 16 % 2 + s / 32 % 2 + s / 64 % 2 + s / 128 % 2 + s / 256 % 2 + s / 512 % 2
theorem rc_pc_le (s : Nat) : rc_pc s ≤ 10 := by unfold rc_pc; omega
theorem rc_pc_has : ∀ s, s < 1024 → ∀ a, a < 10 → rc_has (nI s) (nI a) = 0 → rc_pc (s ||| 2 ^ a) = rc_pc s + 1 := by decide +kernel
theorem rc_pc_add {nd : Nat → Int32} {s a : Nat} (hs : s < 1024) (ha : a < 10) (h : rc_cd nd s a) : rc_pc (s ||| 2 ^ a) = rc_pc s + 1 := by
  refine rc_pc_has s hs a ha ?_
  rcases rc_has_z (nI s) (nI a) with z | z
  · exact z
  · exact absurd (by rw [rc_can, z]; rfl) h
/-- the search for the next act: m acts are left, from a on -/
def rc_ra (nd : Nat → Int32) (stp : Nat → Nat → Int64) (va : Nat → Int64) (n s j : Nat) (z v : Int64) : Nat → Nat → (Nat → Int64) → Nat × (Nat → Int64)
  | 0, a, L => (a, L)
  | m + 1, a, L => if rc_can nd (nI s) a = 0 then rc_ra nd stp va n s j z v m (a + 1) L
    else if (rc_best nd stp va n (s ||| 2 ^ a) (a + 1) (z + stp j a) L).1 = v then (a, (rc_best nd stp va n (s ||| 2 ^ a) (a + 1) (z + stp j a) L).2)
    else rc_ra nd stp va n s j z v m (a + 1) (rc_best nd stp va n (s ||| 2 ^ a) (a + 1) (z + stp j a) L).2
def rc_rn (nd : Nat → Int32) (stp : Nat → Nat → Int64) (va : Nat → Int64) (n : Nat) (v : Int64) : Nat → Nat → Nat → Int64 → Nat → (Nat → Int32) → (Nat → Int64) → Nat × Nat × (Nat → Int32) × (Nat → Int64)
  | 0, s, _, _, len, row, L => (s, len, row, L)
  | m + 1, s, j, z, len, row, L => if va s - z = v then (s, len, row, L)
    else rc_rn nd stp va n v m (s ||| 2 ^ (rc_ra nd stp va n s j z v n 0 L).1) ((rc_ra nd stp va n s j z v n 0 L).1 + 1) (z + stp j (rc_ra nd stp va n s j z v n 0 L).1) (len + 1) (upd row len (nI (rc_ra nd stp va n s j z v n 0 L).1)) (rc_ra nd stp va n s j z v n 0 L).2
theorem rc_rn_S {nd : Nat → Int32} {stp : Nat → Nat → Int64} {va : Nat → Int64} {n : Nat} {v : Int64} {fu s j : Nat} {z : Int64} {len : Nat} {row : Nat → Int32} {L L3 : Nat → Int64} {a : Nat} (hf : 1 ≤ fu) (h : ¬ va s - z = v) (hr : rc_ra nd stp va n s j z v n 0 L = (a, L3)) :
    rc_rn nd stp va n v fu s j z len row L = rc_rn nd stp va n v (fu - 1) (s ||| 2 ^ a) (a + 1) (z + stp j a) (len + 1) (upd row len (nI a)) L3 := by
  obtain ⟨m, rfl⟩ : ∃ m, fu = m + 1 := ⟨fu - 1, by omega⟩
  rw [rc_rn, if_neg h, hr]
  rfl
theorem rc_rn_0 {nd : Nat → Int32} {stp : Nat → Nat → Int64} {va : Nat → Int64} {n : Nat} {v : Int64} {fu s j : Nat} {z : Int64} {len : Nat} {row : Nat → Int32} {L : Nat → Int64} (h : va s - z = v) : rc_rn nd stp va n v fu s j z len row L = (s, len, row, L) := by
  cases fu with
  | zero => rfl
  | succ m => rw [rc_rn, if_pos h]
def rc_bro (brg : Nat → Int64) (f : Nat → Int64) : Nat → Nat → Int64
  | 0 => f
  | k + 1 => vp_updL (rc_bro brg f k) k (brg k)
abbrev rc_runOk (st v : Int64) : Prop := st ≤ v
def rc_runQ (ai : Nat → Nat → Int32) (al : Nat → Nat → Int64) (t7 t8 : Int32) (na nr F : Nat) : Nat × Nat × (Nat → Int32) × (Nat → Int64) :=
  rc_rn (rc_bwN ai na) (rc_step (ai 2) (ai 3) (al 4) (al 7) (al 8)) (rc_bwV ai al t7 t8 na nr) na (rc_bwQ ai al t7 t8 na nr).1 F 0 0 0 0 (ai 14) (rc_bwQ ai al t7 t8 na nr).2
theorem am_or1 {s a : Nat} (ha : a < 31) : nI s ||| ((1 : Int32) <<< (nI a &&& 31)) = nI (s ||| 2 ^ a) := by rw [am_shl1 a ha, am_or]
set_option maxHeartbeats 4000000 in
set_option maxRecDepth 100000 in
theorem c_X5_run (l : Launch) (D : va_G) (ad : Nat → Nat) (cI cL cZ : ClassId) (fi : Nat → Int32) (fl : Nat → Int64) (ai : Nat → Nat → Int32) (al : Nat → Nat → Int64) (A : Nat → Prop) (v : Int64) (F9 : Nat) (na : Nat) (nr : Nat) (hna : fi 0 = nI na) (hnl : na ≤ 10) (hnr : fi 1 = nI nr) (hnrl : nr ≤ 16) (hbe : ∀ p, p < 12 → ¬ ((ai 11) p).toInt64 = 0) (hto : ∀ a, a < na → ∃ t, t < 6 ∧ (ai 2) a = nI t) (hsi : ∀ a, a < na → ∃ t, t < 6 ∧ (ai 3) a = nI t) (hsp : rc_spOk (rc_step (ai 2) (ai 3) (al 4) (al 7) (al 8)) na) (hva : rc_vaOk (rc_vals (rc_val (ai 1) (ai 5) (ai 10) (ai 11) (ai 12) (al 9) (al 13) (fi 7) (fi 8) na nr) (al 19) (2 ^ na)) na) (hF9 : 1024 ≤ F9) : Met l yX5_run wsX5_run (am_rm 4 101) (va_Pc [.ref (ad 0), .long v] (am_M nwL vwCl D A (rm_w ad cI cL cZ fi fl ai al) [(cI, .int), (cL, .long), (cZ, .boolean)])) (am_Mi vwCl D (if rc_runOk (rc_st (ai 6) na (2 ^ na - 1)) v then nI (rc_runQ ai al (fi 7) (fi 8) na nr F9).2.1 else (-1)) (rm_w ad cI cL cZ (upd (upd (upd (upd fi 2 (if rc_runOk (rc_st (ai 6) na (2 ^ na - 1)) v then nI (rc_runQ ai al (fi 7) (fi 8) na nr F9).2.1 else (fi 2))) 3 (if rc_runOk (rc_st (ai 6) na (2 ^ na - 1)) v then 1 else (fi 3))) 4 (if rc_runOk (rc_st (ai 6) na (2 ^ na - 1)) v then rc_rest (ai 1) (nI (rc_runQ ai al (fi 7) (fi 8) na nr F9).1) na else (fi 4))) 5 (if rc_runOk (rc_st (ai 6) na (2 ^ na - 1)) v then (fi 0) else (fi 5))) (vp_updL fl 0 (if rc_runOk (rc_st (ai 6) na (2 ^ na - 1)) v then (rc_bwQ ai al (fi 7) (fi 8) na nr).1 else (fl 0))) (va_up (va_up ai 14 (if rc_runOk (rc_st (ai 6) na (2 ^ na - 1)) v then (rc_runQ ai al (fi 7) (fi 8) na nr F9).2.2.1 else (ai 14))) 17 (if rc_runOk (rc_st (ai 6) na (2 ^ na - 1)) v then rc_bwN ai na else (ai 17))) (va_up (va_up (va_up al 15 (if rc_runOk (rc_st (ai 6) na (2 ^ na - 1)) v then rc_bro (rc_brings (ai 1) (ai 5) (ai 10) (ai 11) (al 9) (fi 7) (fi 8) na (nI (rc_runQ ai al (fi 7) (fi 8) na nr F9).1)) (al 15) 12 else (al 15))) 18 (if rc_runOk (rc_st (ai 6) na (2 ^ na - 1)) v then (rc_runQ ai al (fi 7) (fi 8) na nr F9).2.2.2 else (al 18))) 19 (if rc_runOk (rc_st (ai 6) na (2 ^ na - 1)) v then rc_bwV ai al (fi 7) (fi 8) na nr else (al 19)))) A) 0 0 A := by
  refine am_startM (cc := cX5_run) (maxL := 8) (ret := (some .int)) (by decide) rfl (Nat.le_of_ble_eq_true rfl) [(0, .ref (ad 0)), (1, .long v)] rfl ?_
  intro p e s m below meth c ls hx hb hr hml hown hts hlocks hK hN hD H locs hP hS hl
  have hown : s.vm.findClass RX5 = some m.cls := hown
  have ht := am_ht hts
  have hin_X5 : ∀ w ∈ u_ws RX5 TX5 31, w ∈ wsX5_run := fun w h => List.mem_cons_of_mem _ (am_inX5 w h)
  have hf_167 := ht 447 (.fieldLink RX5 167 "ApartCostModel" "found" "J") rfl
  have hf_171 := ht 450 (.fieldLink RX5 171 "ApartCostModel" "openParts" "I") rfl
  have hf_174 := ht 451 (.fieldLink RX5 174 "ApartCostModel" "actsThen" "I") rfl
  have hf_51 := ht 445 (.fieldLink RX5 51 "ApartCostModel" "row" "[I") rfl
  have hf_54 := ht 446 (.fieldLink RX5 54 "ApartCostModel" "length" "I") rfl
  have hf_58 := ht 448 (.fieldLink RX5 58 "ApartCostModel" "brought" "[J") rfl
  have hf_73 := ht 458 (.fieldLink RX5 73 "ApartCostModel" "values" "[J") rfl
  have hf_86 := ht 430 (.fieldLink RX5 86 "ApartCostModel" "count" "I") rfl
  have hf_97 := ht 449 (.fieldLink RX5 97 "ApartCostModel" "isFresh" "Z") rfl
  have hp2 := am_p2 hnl
  refine lv_aload_n hx hb dX5_run_0 rfl (lv_at hl 0 rfl) ?_
  refine am_callRl (W.runV (As := []) (rest := []) ⟨hx, hb, hml, hown, hts⟩ (c_X5_states l D ad cI cL cZ fi fl ai al na hna hnl) (cwV 0 hts (am_gV (am_in 561 rfl) (am_in 548 rfl) (am_in 549 rfl) (am_in 35 rfl) (am_in 550 rfl)) rfl rfl rfl (by decide +kernel) ⟨Nat.le_of_ble_eq_true rfl, Nat.le_of_ble_eq_true rfl⟩) (am_preVR 5 0 rfl rfl rfl hP hK hN) rfl rfl hl.1 rfl (lv_room (Nat.le_of_ble_eq_true rfl)) dX5_run_1 ⟨Nat.zero_le _, Nat.zero_le _⟩) ?_
  refine lv_lload_n hx hb dX5_run_4 rfl (lv_at hl 1 rfl) ?_
  refine W.lcmp hx hb dX5_run_5 ?_
  refine lv_if_le (tgt := 11) hx hb dX5_run_6 (by decide) (fun c_6 => ?_) (fun c_6 => ?_)
  · skip
    have c_6 : (rc_st (ai 6) na (2 ^ na - 1)) ≤ v := (lg_cmp_le _ _).mp c_6
    refine lv_aload_n hx hb dX5_run_11 rfl (lv_at hl 0 rfl) ?_
    refine am_callMv (va_runV (As := []) (rest := []) ⟨hx, hb, hml, hown, hts⟩ (c_X5_reckonValues l D ad cI cL cZ fi fl ai al A na nr hna hnl hnr hnrl hbe) (cwV 0 hts (am_gV (am_in 562 rfl) (am_in 563 rfl) (am_in 15 rfl) (am_in 35 rfl) (am_in 564 rfl)) rfl rfl rfl (by decide +kernel) ⟨Nat.le_of_ble_eq_true rfl, Nat.le_of_ble_eq_true rfl⟩) (am_preVM 5 0 rfl rfl rfl hP hK hN hD) rfl rfl hl.1 rfl (lv_room (Nat.le_of_ble_eq_true rfl)) dX5_run_12 ⟨Nat.zero_le _, Nat.zero_le _⟩) hS (fun H locs hP hS => ?_)
    have hP : va_P D vwCl (rm_w ad cI cL cZ fi fl (va_up ai 17 (rc_no (ai 6) na (ai 17) na)) (va_up al 19 (rc_vals (rc_val (ai 1) (ai 5) (ai 10) (ai 11) (ai 12) (al 9) (al 13) (fi 7) (fi 8) na nr) (al 19) (2 ^ na)))) H := hP
    have hD : va_D A (rm_w ad cI cL cZ fi fl (va_up ai 17 (rc_no (ai 6) na (ai 17) na)) (va_up al 19 (rc_vals (rc_val (ai 1) (ai 5) (ai 10) (ai 11) (ai 12) (al 9) (al 13) (fi 7) (fi 8) na nr) (al 19) (2 ^ na)))) := (by first | exact rm_D hD | exact am_D hD rfl)
    obtain ⟨ndq, endq, endr⟩ : ∃ f, f = rc_bwN ai na ∧ f = rc_no (ai 6) na (ai 17) na := ⟨_, rfl, rfl⟩
    obtain ⟨vaq, evaq, evar⟩ : ∃ f, f = rc_bwV ai al (fi 7) (fi 8) na nr ∧ f = rc_vals (rc_val (ai 1) (ai 5) (ai 10) (ai 11) (ai 12) (al 9) (al 13) (fi 7) (fi 8) na nr) (al 19) (2 ^ na) := ⟨_, rfl, rfl⟩
    rw [← endr, ← evar] at hP
    rw [← evar] at hva
    have hP : va_P D vwCl (rm_w ad cI cL cZ fi fl (va_up ai 17 ndq) (va_up al 19 vaq)) H := hP
    have hD : va_D A (rm_w ad cI cL cZ fi fl (va_up ai 17 ndq) (va_up al 19 vaq)) := (by first | exact rm_D hD | exact am_D hD rfl)
    refine lv_aload_n hx hb dX5_run_15 rfl (lv_at hl 0 rfl) ?_
    refine lv_aload_n hx hb dX5_run_16 rfl (lv_at hl 0 rfl) ?_
    refine lv_iconst (v := 0) hx hb dX5_run_17 (by decide) ?_
    refine lv_iconst (v := (-1)) hx hb dX5_run_18 (by decide) ?_
    refine lv_lconst (v := 0) hx hb dX5_run_19 (by decide) ?_
    refine am_callMl (va_runV (As := [.int 0, .int (-1), .long 0]) (rest := [.ref (ad 0)]) ⟨hx, hb, hml, hown, hts⟩ (c_X5_bestFrom l D ad cI cL cZ fi fl (va_up ai 17 ndq) (va_up al 19 vaq) A 0 0 0 na hna hnl hto hsi (by omega) (by omega)) (cwV 3 hts (am_gV (am_in 575 rfl) (am_in 576 rfl) (am_in 19 rfl) (am_in 35 rfl) (am_in 577 rfl)) rfl rfl rfl (by decide +kernel) ⟨Nat.le_of_ble_eq_true rfl, Nat.le_of_ble_eq_true rfl⟩) (am_preVM 5 0 rfl rfl rfl hP hK hN hD) rfl rfl hl.1 rfl (lv_room (Nat.le_of_ble_eq_true rfl)) dX5_run_20 ⟨Nat.zero_le _, Nat.zero_le _⟩) hS (fun H locs hP hS => ?_)
    have hP : va_P D vwCl (rm_w ad cI cL cZ fi fl (va_up ai 17 ndq) (va_up (va_up al 18 ((rc_best ndq (rc_step (ai 2) (ai 3) (al 4) (al 7) (al 8)) vaq na 0 0 0 (al 18)).2)) 19 vaq)) H := hP
    have hD : va_D A (rm_w ad cI cL cZ fi fl (va_up ai 17 ndq) (va_up (va_up al 18 ((rc_best ndq (rc_step (ai 2) (ai 3) (al 4) (al 7) (al 8)) vaq na 0 0 0 (al 18)).2)) 19 vaq)) := (by first | exact rm_D hD | exact am_D hD rfl)
    obtain ⟨qq, eqq, eqr⟩ : ∃ f, f = rc_bwQ ai al (fi 7) (fi 8) na nr ∧ f = rc_best ndq (rc_step (ai 2) (ai 3) (al 4) (al 7) (al 8)) vaq na 0 0 0 (al 18) := ⟨_, rfl, by rw [endq, evaq]; rfl⟩
    rw [← eqr] at hP
    have hP : va_P D vwCl (rm_w ad cI cL cZ fi fl (va_up ai 17 ndq) (va_up (va_up al 18 qq.2) 19 vaq)) H := hP
    have hD : va_D A (rm_w ad cI cL cZ fi fl (va_up ai 17 ndq) (va_up (va_up al 18 qq.2) 19 vaq)) := (by first | exact rm_D hD | exact am_D hD rfl)
    refine am_topl (y := qq.1) (congrArg Prod.fst eqr.symm) ?_
    have d0 : 0 ≤ (0 : Int64).toInt := by decide +kernel
    have d1 : (0 : Int64).toInt ≤ 83160000000 * ((0 : Nat) : Int) := by decide +kernel
    have d2 : 0 = rc_pc 0 := by decide +kernel
    have hB0 : ∀ f, (rc_best ndq (rc_step (ai 2) (ai 3) (al 4) (al 7) (al 8)) vaq na 0 0 0 f).1 = qq.1 := fun f => by rw [eqr]; exact rc_best_f hnl hsp hva (by omega) (by omega) d0 d1 f (al 18)
    refine va_put (D := D) (ci := 5) (v := .long qq.1) (ty := .long) (C := RX5) (T := TX5) (N := 31) hx hb hts hin_X5 tyX5 tyX5_ok nmX5 hown hK hP hD hS 0 rfl rfl 17 (by decide) hf_167 (fun _ h9 => h9) rfl (by decide +kernel) rfl rfl (Nat.le_of_ble_eq_true rfl) dX5_run_23 (fun H locs hP hD hS => ?_)
    have hP : va_P D vwCl (rm_w ad cI cL cZ fi (vp_updL fl 0 qq.1) (va_up ai 17 ndq) (va_up (va_up al 18 qq.2) 19 vaq)) H := hP
    have hD : va_D A (rm_w ad cI cL cZ fi (vp_updL fl 0 qq.1) (va_up ai 17 ndq) (va_up (va_up al 18 qq.2) 19 vaq)) := (by first | exact rm_D hD | exact am_D hD rfl)
    refine lv_aload_n hx hb dX5_run_26 rfl (lv_at hl 0 rfl) ?_
    refine lv_iconst (v := 0) hx hb dX5_run_27 (by decide) ?_
    refine va_put (D := D) (ci := 5) (v := .int 0) (ty := .int) (C := RX5) (T := TX5) (N := 31) hx hb hts hin_X5 tyX5 tyX5_ok nmX5 hown hK hP hD hS 0 rfl rfl 16 (by decide) hf_54 (fun _ h9 => h9) rfl (by decide +kernel) rfl rfl (Nat.le_of_ble_eq_true rfl) dX5_run_28 (fun H locs hP hD hS => ?_)
    have hP : va_P D vwCl (rm_w ad cI cL cZ (upd fi 2 0) (vp_updL fl 0 qq.1) (va_up ai 17 ndq) (va_up (va_up al 18 qq.2) 19 vaq)) H := hP
    have hD : va_D A (rm_w ad cI cL cZ (upd fi 2 0) (vp_updL fl 0 qq.1) (va_up ai 17 ndq) (va_up (va_up al 18 qq.2) 19 vaq)) := (by first | exact rm_D hD | exact am_D hD rfl)
    refine lv_iconst (v := 0) hx hb dX5_run_31 (by decide) ?_
    refine lv_istore_n (lv' := [(3, .int 0), (0, .ref (ad 0)), (1, .long v)]) hx hb dX5_run_32 rfl hl (by decide) rfl (fun ls hl => ?_)
    refine lv_iconst (v := (-1)) hx hb dX5_run_33 (by decide) ?_
    refine lv_istore (lv' := [(4, .int (-1)), (3, .int 0), (0, .ref (ad 0)), (1, .long v)]) hx hb dX5_run_34 hl (by decide) rfl (fun ls hl => ?_)
    refine lv_lconst (v := 0) hx hb dX5_run_36 (by decide) ?_
    refine lv_lstore (lv' := [(5, .long 0), (4, .int (-1)), (3, .int 0), (0, .ref (ad 0)), (1, .long v)]) hx hb dX5_run_37 hl (by decide) rfl (fun ls hl => ?_)
    refine am_loop (σ := (Nat) × (Nat) × (Nat) × (Int64) × (Nat) × (Nat → Int32) × (Nat → Int64)) (fun q n9 H locs ls => n9 = q.1 ∧ q.2.1 < 2 ^ na ∧ q.2.2.1 ≤ na ∧ 0 ≤ q.2.2.2.1.toInt ∧ q.2.2.2.1.toInt ≤ 83160000000 * (q.2.1 : Int) ∧ q.2.2.2.2.1 = rc_pc q.2.1 ∧ 2 ^ na ≤ q.1 + q.2.1 ∧ (∀ f, (rc_best ndq (rc_step (ai 2) (ai 3) (al 4) (al 7) (al 8)) vaq na q.2.1 q.2.2.1 q.2.2.2.1 f).1 = qq.1) ∧ rc_rn ndq (rc_step (ai 2) (ai 3) (al 4) (al 7) (al 8)) vaq na qq.1 F9 0 0 0 0 (ai 14) qq.2 = rc_rn ndq (rc_step (ai 2) (ai 3) (al 4) (al 7) (al 8)) vaq na qq.1 q.1 q.2.1 q.2.2.1 q.2.2.2.1 q.2.2.2.2.1 q.2.2.2.2.2.1 q.2.2.2.2.2.2 ∧ va_P D vwCl (rm_w ad cI cL cZ (upd fi 2 (nI q.2.2.2.2.1)) (vp_updL fl 0 qq.1) (va_up (va_up ai 14 q.2.2.2.2.2.1) 17 ndq) (va_up (va_up al 18 q.2.2.2.2.2.2) 19 vaq)) H ∧ va_S A s.heap H locs ∧ lv_has ls 8 [(0, .ref (ad 0)), (1, .long v), (3, .int (nI q.2.1)), (4, .int (ac_la q.2.2.1)), (5, .long q.2.2.2.1)]) ?_ (F9, 0, 0, 0, 0, (ai 14), qq.2) (F9) H locs ls ⟨rfl, (by (try dsimp only); omega), (by (try dsimp only); omega), d0, d1, d2, (by (try dsimp only); omega), hB0, rfl, hP, hS, lv_sub hl [3, 4, 2, 1, 0] rfl⟩
    rintro ⟨fu, sn, j, cz, lq, rf, lf⟩ n9 H locs ls ⟨hn_39, hs, hj, hz0, hz1, hlq, hfu, hB, hm, hP, hS, hl⟩ ih_39
    dsimp only at hn_39 hs hj hz0 hz1 hlq hfu hB hm hP hl
    have hD : va_D A (rm_w ad cI cL cZ (upd fi 2 (nI lq)) (vp_updL fl 0 qq.1) (va_up (va_up ai 14 rf) 17 ndq) (va_up (va_up al 18 lf) 19 vaq)) := am_D hD rfl
    refine lv_aload_n hx hb dX5_run_39 rfl (lv_at hl 0 rfl) ?_
    refine va_get (D := D) (ci := 5) (v := .ref (ad 19)) (C := RX5) (T := TX5) (N := 31) hx hb hts hin_X5 hown hK hP 0 rfl rfl 28 (by decide) hf_73 (fun _ h9 => h9) rfl dX5_run_40 ?_
    refine lv_iload_n hx hb dX5_run_43 rfl (lv_at hl 2 rfl) ?_
    refine am_lald hx hb hK hP 19 1 rfl rfl sn rfl (by omega) (by decide) dX5_run_44 ?_
    refine lv_lload hx hb dX5_run_45 (lv_at hl 4 rfl) ?_
    refine lv_lsub hx hb dX5_run_47 ?_
    refine lv_aload_n hx hb dX5_run_48 rfl (lv_at hl 0 rfl) ?_
    refine va_get (D := D) (ci := 5) (v := .long qq.1) (C := RX5) (T := TX5) (N := 31) hx hb hts hin_X5 hown hK hP 0 rfl rfl 17 (by decide) hf_167 (fun _ h9 => h9) rfl dX5_run_49 ?_
    refine W.lcmp hx hb dX5_run_52 ?_
    refine lv_if_eq (tgt := 154) hx hb dX5_run_53 (by decide) (fun c_53 => ?_) (fun c_53 => ?_)
    · skip
      have c_53 : ((vaq sn) - cz) = qq.1 := (lg_cmp_eq _ _).mp c_53
      refine lv_iconst (v := 0) hx hb dX5_run_154 (by decide) ?_
      refine lv_istore (lv' := [(7, .int 0), (0, .ref (ad 0)), (1, .long v), (3, .int (nI sn)), (4, .int (ac_la j)), (5, .long cz)]) hx hb dX5_run_155 hl (by decide) rfl (fun ls hl => ?_)
      refine am_loop (σ := Nat) (fun q n9 H locs ls => n9 = 12 - q ∧ q ≤ 12 ∧ va_P D vwCl (rm_w ad cI cL cZ (upd fi 2 (nI lq)) (vp_updL fl 0 qq.1) (va_up (va_up ai 14 rf) 17 ndq) (va_up (va_up (va_up al 15 (rc_bro (rc_brings (ai 1) (ai 5) (ai 10) (ai 11) (al 9) (fi 7) (fi 8) na (nI sn)) (al 15) q)) 18 lf) 19 vaq)) H ∧ va_S A s.heap H locs ∧ lv_has ls 8 [(0, .ref (ad 0)), (1, .long v), (3, .int (nI sn)), (4, .int (ac_la j)), (5, .long cz), (7, .int (nI q))]) ?_ 0 (12 - 0) H locs ls ⟨rfl, (by omega), hP, hS, lv_sub hl [1, 2, 3, 4, 5, 0] rfl⟩
      rintro k n9 H locs ls ⟨hn_157, hk, hP, hS, hl⟩ ih_157
      have hD : va_D A (rm_w ad cI cL cZ (upd fi 2 (nI lq)) (vp_updL fl 0 qq.1) (va_up (va_up ai 14 rf) 17 ndq) (va_up (va_up (va_up al 15 (rc_bro (rc_brings (ai 1) (ai 5) (ai 10) (ai 11) (al 9) (fi 7) (fi 8) na (nI sn)) (al 15) k)) 18 lf) 19 vaq)) := am_D hD rfl
      refine lv_iload hx hb dX5_run_157 (lv_at hl 5 rfl) ?_
      refine lv_bipush (v := 12) hx hb dX5_run_159 (by decide) ?_
      refine lv_icmp_ge (tgt := 184) hx hb dX5_run_161 (by decide) (fun c_161 => ?_) (fun c_161 => ?_)
      · skip
        have c_161 : 12 ≤ (nI k) := c_161
        have hke_161 : 12 ≤ k := (am_ge (rfl : (12 : Int32) = nI 12) (by decide) (by omega)).mp c_161
        have hkq_161 : k = 12 := by omega
        subst hkq_161
        refine lv_aload_n hx hb dX5_run_184 rfl (lv_at hl 0 rfl) ?_
        refine lv_aload_n hx hb dX5_run_185 rfl (lv_at hl 0 rfl) ?_
        refine lv_iload_n hx hb dX5_run_186 rfl (lv_at hl 2 rfl) ?_
        refine am_callRi (W.runV (As := [.int (nI sn)]) (rest := [.ref (ad 0)]) ⟨hx, hb, hml, hown, hts⟩ (c_X5_restOf l D ad cI cL cZ (upd fi 2 (nI lq)) (vp_updL fl 0 qq.1) (va_up (va_up ai 14 rf) 17 ndq) (va_up (va_up (va_up al 15 (rc_bro (rc_brings (ai 1) (ai 5) (ai 10) (ai 11) (al 9) (fi 7) (fi 8) na (nI sn)) (al 15) 12)) 18 lf) 19 vaq) (nI sn) na hna hnl) (cwV 1 hts (am_gV (am_in 572 rfl) (am_in 573 rfl) (am_in 18 rfl) (am_in 35 rfl) (am_in 574 rfl)) rfl rfl rfl (by decide +kernel) ⟨Nat.le_of_ble_eq_true rfl, Nat.le_of_ble_eq_true rfl⟩) (am_preVR 5 0 rfl rfl rfl hP hK hN) rfl rfl hl.1 rfl (lv_room (Nat.le_of_ble_eq_true rfl)) dX5_run_187 ⟨Nat.zero_le _, Nat.zero_le _⟩) ?_
        refine va_put (D := D) (ci := 5) (v := .int (rc_rest (ai 1) (nI sn) na)) (ty := .int) (C := RX5) (T := TX5) (N := 31) hx hb hts hin_X5 tyX5 tyX5_ok nmX5 hown hK hP hD hS 0 rfl rfl 20 (by decide) hf_171 (fun _ h9 => h9) rfl (by decide +kernel) rfl rfl (Nat.le_of_ble_eq_true rfl) dX5_run_190 (fun H locs hP hD hS => ?_)
        have hP : va_P D vwCl (rm_w ad cI cL cZ (upd (upd fi 2 (nI lq)) 4 (rc_rest (ai 1) (nI sn) na)) (vp_updL fl 0 qq.1) (va_up (va_up ai 14 rf) 17 ndq) (va_up (va_up (va_up al 15 (rc_bro (rc_brings (ai 1) (ai 5) (ai 10) (ai 11) (al 9) (fi 7) (fi 8) na (nI sn)) (al 15) 12)) 18 lf) 19 vaq)) H := hP
        have hD : va_D A (rm_w ad cI cL cZ (upd (upd fi 2 (nI lq)) 4 (rc_rest (ai 1) (nI sn) na)) (vp_updL fl 0 qq.1) (va_up (va_up ai 14 rf) 17 ndq) (va_up (va_up (va_up al 15 (rc_bro (rc_brings (ai 1) (ai 5) (ai 10) (ai 11) (al 9) (fi 7) (fi 8) na (nI sn)) (al 15) 12)) 18 lf) 19 vaq)) := (by first | exact rm_D hD | exact am_D hD rfl)
        refine lv_aload_n hx hb dX5_run_193 rfl (lv_at hl 0 rfl) ?_
        refine lv_aload_n hx hb dX5_run_194 rfl (lv_at hl 0 rfl) ?_
        refine va_get (D := D) (ci := 5) (v := .int (fi 0)) (C := RX5) (T := TX5) (N := 31) hx hb hts hin_X5 hown hK hP 0 rfl rfl 0 (by decide) hf_86 (fun _ h9 => h9) rfl dX5_run_195 ?_
        refine va_put (D := D) (ci := 5) (v := .int (fi 0)) (ty := .int) (C := RX5) (T := TX5) (N := 31) hx hb hts hin_X5 tyX5 tyX5_ok nmX5 hown hK hP hD hS 0 rfl rfl 21 (by decide) hf_174 (fun _ h9 => h9) rfl (by decide +kernel) rfl rfl (Nat.le_of_ble_eq_true rfl) dX5_run_198 (fun H locs hP hD hS => ?_)
        have hP : va_P D vwCl (rm_w ad cI cL cZ (upd (upd (upd fi 2 (nI lq)) 4 (rc_rest (ai 1) (nI sn) na)) 5 (fi 0)) (vp_updL fl 0 qq.1) (va_up (va_up ai 14 rf) 17 ndq) (va_up (va_up (va_up al 15 (rc_bro (rc_brings (ai 1) (ai 5) (ai 10) (ai 11) (al 9) (fi 7) (fi 8) na (nI sn)) (al 15) 12)) 18 lf) 19 vaq)) H := hP
        have hD : va_D A (rm_w ad cI cL cZ (upd (upd (upd fi 2 (nI lq)) 4 (rc_rest (ai 1) (nI sn) na)) 5 (fi 0)) (vp_updL fl 0 qq.1) (va_up (va_up ai 14 rf) 17 ndq) (va_up (va_up (va_up al 15 (rc_bro (rc_brings (ai 1) (ai 5) (ai 10) (ai 11) (al 9) (fi 7) (fi 8) na (nI sn)) (al 15) 12)) 18 lf) 19 vaq)) := (by first | exact rm_D hD | exact am_D hD rfl)
        refine lv_aload_n hx hb dX5_run_201 rfl (lv_at hl 0 rfl) ?_
        refine lv_iconst (v := 1) hx hb dX5_run_202 (by decide) ?_
        refine va_put (D := D) (ci := 5) (v := .int 1) (ty := .boolean) (C := RX5) (T := TX5) (N := 31) hx hb hts hin_X5 tyX5 tyX5_ok nmX5 hown hK hP hD hS 0 rfl rfl 19 (by decide) hf_97 (fun _ h9 => h9) rfl (by decide +kernel) rfl rfl (Nat.le_of_ble_eq_true rfl) dX5_run_203 (fun H locs hP hD hS => ?_)
        have hP : va_P D vwCl (rm_w ad cI cL cZ (upd (upd (upd (upd fi 2 (nI lq)) 3 1) 4 (rc_rest (ai 1) (nI sn) na)) 5 (fi 0)) (vp_updL fl 0 qq.1) (va_up (va_up ai 14 rf) 17 ndq) (va_up (va_up (va_up al 15 (rc_bro (rc_brings (ai 1) (ai 5) (ai 10) (ai 11) (al 9) (fi 7) (fi 8) na (nI sn)) (al 15) 12)) 18 lf) 19 vaq)) H := hP
        have hD : va_D A (rm_w ad cI cL cZ (upd (upd (upd (upd fi 2 (nI lq)) 3 1) 4 (rc_rest (ai 1) (nI sn) na)) 5 (fi 0)) (vp_updL fl 0 qq.1) (va_up (va_up ai 14 rf) 17 ndq) (va_up (va_up (va_up al 15 (rc_bro (rc_brings (ai 1) (ai 5) (ai 10) (ai 11) (al 9) (fi 7) (fi 8) na (nI sn)) (al 15) 12)) 18 lf) 19 vaq)) := (by first | exact rm_D hD | exact am_D hD rfl)
        refine lv_aload_n hx hb dX5_run_206 rfl (lv_at hl 0 rfl) ?_
        refine va_get (D := D) (ci := 5) (v := .int (nI lq)) (C := RX5) (T := TX5) (N := 31) hx hb hts hin_X5 hown hK hP 0 rfl rfl 16 (by decide) hf_54 (fun _ h9 => h9) rfl dX5_run_207 ?_
        have hok : rc_runOk (rc_st (ai 6) na (2 ^ na - 1)) v := c_6
        have hq : (rc_runQ ai al (fi 7) (fi 8) na nr F9) = (sn, lq, rf, lf) := by rw [rc_runQ, ← endq, ← evaq, ← eqq]; exact hm.trans (rc_rn_0 c_53)
        exact am_iretM hx hb hr hlocks (by simp only [if_pos hok]; rw [hq, ← endq, ← evaq, ← eqq]; exact hP) hS (by rw [if_pos hok, hq]) dX5_run_210
      · skip
        have c_161 : ¬ (12 ≤ (nI k)) := c_161
        have hkl_161 : k < 12 := Nat.lt_of_not_le (fun z => c_161 ((am_ge (rfl : (12 : Int32) = nI 12) (by decide) (by omega)).mpr z))
        refine lv_aload_n hx hb dX5_run_164 rfl (lv_at hl 0 rfl) ?_
        refine va_get (D := D) (ci := 5) (v := .ref (ad 15)) (C := RX5) (T := TX5) (N := 31) hx hb hts hin_X5 hown hK hP 0 rfl rfl 18 (by decide) hf_58 (fun _ h9 => h9) rfl dX5_run_165 ?_
        refine lv_iload hx hb dX5_run_168 (lv_at hl 5 rfl) ?_
        refine lv_aload_n hx hb dX5_run_170 rfl (lv_at hl 0 rfl) ?_
        refine lv_iload hx hb dX5_run_171 (lv_at hl 5 rfl) ?_
        refine lv_iload_n hx hb dX5_run_173 rfl (lv_at hl 2 rfl) ?_
        refine am_callRl (W.runV (As := [.int (nI k), .int (nI sn)]) (rest := [.int (nI k), .ref (ad 15)]) ⟨hx, hb, hml, hown, hts⟩ (c_X5_bringsOf l D ad cI cL cZ (upd fi 2 (nI lq)) (vp_updL fl 0 qq.1) (va_up (va_up ai 14 rf) 17 ndq) (va_up (va_up (va_up al 15 (rc_bro (rc_brings (ai 1) (ai 5) (ai 10) (ai 11) (al 9) (fi 7) (fi 8) na (nI sn)) (al 15) k)) 18 lf) 19 vaq) k (nI sn) na hna hnl hbe (by omega)) (cwV 2 hts (am_gV (am_in 568 rfl) (am_in 569 rfl) (am_in 17 rfl) (am_in 35 rfl) (am_in 570 rfl)) rfl rfl rfl (by decide +kernel) ⟨Nat.le_of_ble_eq_true rfl, Nat.le_of_ble_eq_true rfl⟩) (am_preVR 5 0 rfl rfl rfl hP hK hN) rfl rfl hl.1 rfl (lv_room (Nat.le_of_ble_eq_true rfl)) dX5_run_174 ⟨Nat.zero_le _, Nat.zero_le _⟩) ?_
        refine am_last hx hb hK hP hD hS 15 1 rfl rfl k rfl (by omega) (by decide) (rm_w ad cI cL cZ (upd fi 2 (nI lq)) (vp_updL fl 0 qq.1) (va_up (va_up ai 14 rf) 17 ndq) (va_up (va_up (va_up al 15 (vp_updL (rc_bro (rc_brings (ai 1) (ai 5) (ai 10) (ai 11) (al 9) (fi 7) (fi 8) na (nI sn)) (al 15) k) k (rc_brings (ai 1) (ai 5) (ai 10) (ai 11) (al 9) (fi 7) (fi 8) na (nI sn) k))) 18 lf) 19 vaq)) rfl dX5_run_177 (fun H locs hP hD hS => ?_)
        refine lv_iinc (v := nI (k + 1)) (lv' := [(7, .int (nI (k + 1))), (0, .ref (ad 0)), (1, .long v), (3, .int (nI sn)), (4, .int (ac_la j)), (5, .long cz)]) hx hb dX5_run_178 hl (k := 5) rfl (nI_1 k) (by decide) rfl (fun ls hl => ?_)
        refine lv_goto (tgt := 157) hx hb dX5_run_181 (by decide) ?_
        have e_157_0 : (rc_bro (rc_brings (ai 1) (ai 5) (ai 10) (ai 11) (al 9) (fi 7) (fi 8) na (nI sn)) (al 15) (k + 1)) = (vp_updL (rc_bro (rc_brings (ai 1) (ai 5) (ai 10) (ai 11) (al 9) (fi 7) (fi 8) na (nI sn)) (al 15) k) k (rc_brings (ai 1) (ai 5) (ai 10) (ai 11) (al 9) (fi 7) (fi 8) na (nI sn) k)) := by first | rfl | (simp only [rc_bro, c_6, c_53, c_161, if_true, if_false, eq_self, not_true_eq_false, not_false_eq_true, ite_true, ite_false, ↓reduceIte]; done) | (simp [rc_bro, c_6, c_53, c_161]; done)
        refine ih_157 (k + 1) (12 - (k + 1)) H locs ls (by omega) ⟨rfl, (by omega), ?_, hS, ?_⟩
        · (try dsimp only); (try rw [e_157_0]); exact hP
        · (try dsimp only); (try rw [e_157_0]); exact lv_sub hl [1, 2, 3, 4, 5, 0] rfl
    · skip
      have c_53 : ¬ (((vaq sn) - cz) = qq.1) := (fun z => c_53 ((lg_cmp_eq _ _).mpr z))
      have hex0 : (∃ b, 0 ≤ b ∧ b < na ∧ ¬ rc_can ndq (nI sn) b = 0 ∧ ∀ f, (rc_best ndq (rc_step (ai 2) (ai 3) (al 4) (al 7) (al 8)) vaq na (sn ||| 2 ^ b) (b + 1) (cz + (rc_step (ai 2) (ai 3) (al 4) (al 7) (al 8)) j b) f).1 = qq.1) := by obtain ⟨b, q2, q3, q4⟩ := rc_run_step (nd := ndq) (stp := (rc_step (ai 2) (ai 3) (al 4) (al 7) (al 8))) hnl hsp hva hs hj hz0 hz1 hB c_53; exact ⟨b, Nat.zero_le _, q2, q3, q4⟩
      refine lv_iconst (v := 0) hx hb dX5_run_56 (by decide) ?_
      refine lv_istore (lv' := [(7, .int 0), (0, .ref (ad 0)), (1, .long v), (3, .int (nI sn)), (4, .int (ac_la j)), (5, .long cz)]) hx hb dX5_run_57 hl (by decide) rfl (fun ls hl => ?_)
      refine am_loop (σ := (Nat) × (Nat → Int64)) (fun q n9 H locs ls => n9 = na - q.1 ∧ q.1 ≤ na ∧ (∃ b, q.1 ≤ b ∧ b < na ∧ ¬ rc_can ndq (nI sn) b = 0 ∧ ∀ f, (rc_best ndq (rc_step (ai 2) (ai 3) (al 4) (al 7) (al 8)) vaq na (sn ||| 2 ^ b) (b + 1) (cz + (rc_step (ai 2) (ai 3) (al 4) (al 7) (al 8)) j b) f).1 = qq.1) ∧ rc_ra ndq (rc_step (ai 2) (ai 3) (al 4) (al 7) (al 8)) vaq na sn j cz qq.1 na 0 lf = rc_ra ndq (rc_step (ai 2) (ai 3) (al 4) (al 7) (al 8)) vaq na sn j cz qq.1 (na - q.1) q.1 q.2 ∧ va_P D vwCl (rm_w ad cI cL cZ (upd fi 2 (nI lq)) (vp_updL fl 0 qq.1) (va_up (va_up ai 14 rf) 17 ndq) (va_up (va_up al 18 q.2) 19 vaq)) H ∧ va_S A s.heap H locs ∧ lv_has ls 8 [(0, .ref (ad 0)), (1, .long v), (3, .int (nI sn)), (4, .int (ac_la j)), (5, .long cz), (7, .int (nI q.1))]) ?_ (0, lf) (na - 0) H locs ls ⟨rfl, (by first | omega | (dsimp only; omega)), hex0, rfl, hP, hS, lv_sub hl [1, 2, 3, 4, 5, 0] rfl⟩
      rintro ⟨a, L2⟩ n9 H locs ls ⟨hn_59, hka, hex, hm2, hP, hS, hl⟩ ih_59
      dsimp only at hn_59 hka hex hm2 hP hl
      have hD : va_D A (rm_w ad cI cL cZ (upd fi 2 (nI lq)) (vp_updL fl 0 qq.1) (va_up (va_up ai 14 rf) 17 ndq) (va_up (va_up al 18 L2) 19 vaq)) := am_D hD rfl
      refine lv_aload_n hx hb dX5_run_59 rfl (lv_at hl 0 rfl) ?_
      have hal : a < na := by obtain ⟨b, q1, q2, -, -⟩ := hex; omega
      refine lv_iload_n hx hb dX5_run_60 rfl (lv_at hl 2 rfl) ?_
      refine lv_iload hx hb dX5_run_61 (lv_at hl 5 rfl) ?_
      refine am_callRi (W.runV (As := [.int (nI sn), .int (nI a)]) (rest := []) ⟨hx, hb, hml, hown, hts⟩ (c_X5_canDo l D ad cI cL cZ (upd fi 2 (nI lq)) (vp_updL fl 0 qq.1) (va_up (va_up ai 14 rf) 17 ndq) (va_up (va_up al 18 L2) 19 vaq) (nI sn) a (by omega)) (cwV 2 hts (am_gV (am_in 579 rfl) (am_in 580 rfl) (am_in 20 rfl) (am_in 35 rfl) (am_in 581 rfl)) rfl rfl rfl (by decide +kernel) ⟨Nat.le_of_ble_eq_true rfl, Nat.le_of_ble_eq_true rfl⟩) (am_preVR 5 0 rfl rfl rfl hP hK hN) rfl rfl hl.1 rfl (lv_room (Nat.le_of_ble_eq_true rfl)) dX5_run_63 ⟨Nat.zero_le _, Nat.zero_le _⟩) ?_
      refine lv_if_eq (tgt := 100) hx hb dX5_run_66 (by decide) (fun c_66 => ?_) (fun c_66 => ?_)
      · skip
        have c_66 : (rc_can ndq (nI sn) a) = 0 := c_66
        refine lv_iinc (v := nI (a + 1)) (lv' := [(7, .int (nI (a + 1))), (0, .ref (ad 0)), (1, .long v), (3, .int (nI sn)), (4, .int (ac_la j)), (5, .long cz)]) hx hb dX5_run_100 hl (k := 5) rfl (nI_1 a) (by decide) rfl (fun ls hl => ?_)
        refine lv_goto (tgt := 59) hx hb dX5_run_103 (by decide) ?_
        refine ih_59 (a + 1, L2) (na - (a + 1)) H locs ls (by first | omega | (rw [hn_59]; dsimp only; omega)) ⟨rfl, (by first | omega | (dsimp only; omega)), (by obtain ⟨b, q1, q2, q3, q4⟩ := hex; exact ⟨b, Nat.lt_of_le_of_ne q1 (fun y => by subst y; exact q3 c_66), q2, q3, q4⟩), (by dsimp only; rw [hm2, show na - a = (na - (a + 1)) + 1 by omega, rc_ra, if_pos c_66]), ?_, hS, ?_⟩
        · exact hP
        · exact lv_sub hl [1, 2, 3, 4, 5, 0] rfl
      · skip
        have c_66 : ¬ ((rc_can ndq (nI sn) a) = 0) := c_66
        refine lv_aload_n hx hb dX5_run_69 rfl (lv_at hl 0 rfl) ?_
        refine lv_iload_n hx hb dX5_run_70 rfl (lv_at hl 2 rfl) ?_
        refine lv_iconst (v := 1) hx hb dX5_run_71 (by decide) ?_
        refine lv_iload hx hb dX5_run_72 (lv_at hl 5 rfl) ?_
        refine lv_ishl hx hb dX5_run_74 ?_
        refine lv_ior hx hb dX5_run_75 ?_
        refine am_topi (am_or1 (by omega)) ?_
        refine lv_iload hx hb dX5_run_76 (lv_at hl 5 rfl) ?_
        refine lv_lload hx hb dX5_run_78 (lv_at hl 4 rfl) ?_
        refine lv_aload_n hx hb dX5_run_80 rfl (lv_at hl 0 rfl) ?_
        refine lv_iload hx hb dX5_run_81 (lv_at hl 3 rfl) ?_
        refine lv_iload hx hb dX5_run_83 (lv_at hl 5 rfl) ?_
        refine am_callRl (W.runV (As := [.int (ac_la j), .int (nI a)]) (rest := [.long cz, .int (nI a), .int (nI (sn ||| 2 ^ a)), .ref (ad 0)]) ⟨hx, hb, hml, hown, hts⟩ (c_X5_stepCost l D ad cI cL cZ (upd fi 2 (nI lq)) (vp_updL fl 0 qq.1) (va_up (va_up ai 14 rf) 17 ndq) (va_up (va_up al 18 L2) 19 vaq) j a na hna hnl hto hsi hj hal) (cwV 2 hts (am_gV (am_in 582 rfl) (am_in 583 rfl) (am_in 21 rfl) (am_in 35 rfl) (am_in 584 rfl)) rfl rfl rfl (by decide +kernel) ⟨Nat.le_of_ble_eq_true rfl, Nat.le_of_ble_eq_true rfl⟩) (am_preVR 5 0 rfl rfl rfl hP hK hN) rfl rfl hl.1 rfl (lv_room (Nat.le_of_ble_eq_true rfl)) dX5_run_85 ⟨Nat.zero_le _, Nat.zero_le _⟩) ?_
        refine lv_ladd hx hb dX5_run_88 ?_
        refine am_callMl (va_runV (As := [.int (nI (sn ||| 2 ^ a)), .int (nI a), .long (cz + ((rc_step (ai 2) (ai 3) (al 4) (al 7) (al 8)) j a))]) (rest := []) ⟨hx, hb, hml, hown, hts⟩ (c_X5_bestFrom l D ad cI cL cZ (upd fi 2 (nI lq)) (vp_updL fl 0 qq.1) (va_up (va_up ai 14 rf) 17 ndq) (va_up (va_up al 18 L2) 19 vaq) A (sn ||| 2 ^ a) (a + 1) (cz + ((rc_step (ai 2) (ai 3) (al 4) (al 7) (al 8)) j a)) na hna hnl hto hsi (rc_or_lt hs hal) (by omega)) (cwV 3 hts (am_gV (am_in 575 rfl) (am_in 576 rfl) (am_in 19 rfl) (am_in 35 rfl) (am_in 577 rfl)) rfl rfl rfl (by decide +kernel) ⟨Nat.le_of_ble_eq_true rfl, Nat.le_of_ble_eq_true rfl⟩) (am_preVM 5 0 rfl rfl rfl hP hK hN hD) rfl rfl hl.1 rfl (lv_room (Nat.le_of_ble_eq_true rfl)) dX5_run_89 ⟨Nat.zero_le _, Nat.zero_le _⟩) hS (fun H locs hP hS => ?_)
        have hP : va_P D vwCl (rm_w ad cI cL cZ (upd fi 2 (nI lq)) (vp_updL fl 0 qq.1) (va_up (va_up ai 14 rf) 17 ndq) (va_up (va_up al 18 ((rc_best ndq (rc_step (ai 2) (ai 3) (al 4) (al 7) (al 8)) vaq na (sn ||| 2 ^ a) (a + 1) (cz + ((rc_step (ai 2) (ai 3) (al 4) (al 7) (al 8)) j a)) L2).2)) 19 vaq)) H := hP
        have hD : va_D A (rm_w ad cI cL cZ (upd fi 2 (nI lq)) (vp_updL fl 0 qq.1) (va_up (va_up ai 14 rf) 17 ndq) (va_up (va_up al 18 ((rc_best ndq (rc_step (ai 2) (ai 3) (al 4) (al 7) (al 8)) vaq na (sn ||| 2 ^ a) (a + 1) (cz + ((rc_step (ai 2) (ai 3) (al 4) (al 7) (al 8)) j a)) L2).2)) 19 vaq)) := (by first | exact rm_D hD | exact am_D hD rfl)
        refine lv_aload_n hx hb dX5_run_92 rfl (lv_at hl 0 rfl) ?_
        refine va_get (D := D) (ci := 5) (v := .long qq.1) (C := RX5) (T := TX5) (N := 31) hx hb hts hin_X5 hown hK hP 0 rfl rfl 17 (by decide) hf_167 (fun _ h9 => h9) rfl dX5_run_93 ?_
        refine W.lcmp hx hb dX5_run_96 ?_
        refine lv_if_eq (tgt := 106) hx hb dX5_run_97 (by decide) (fun c_97 => ?_) (fun c_97 => ?_)
        · skip
          have c_97 : ((rc_best ndq (rc_step (ai 2) (ai 3) (al 4) (al 7) (al 8)) vaq na (sn ||| 2 ^ a) (a + 1) (cz + ((rc_step (ai 2) (ai 3) (al 4) (al 7) (al 8)) j a)) L2).1) = qq.1 := (lg_cmp_eq _ _).mp c_97
          obtain ⟨L3, eL3⟩ : ∃ f, f = (rc_best ndq (rc_step (ai 2) (ai 3) (al 4) (al 7) (al 8)) vaq na (sn ||| 2 ^ a) (a + 1) (cz + (rc_step (ai 2) (ai 3) (al 4) (al 7) (al 8)) j a) L2).2 := ⟨_, rfl⟩
          rw [← eL3] at hP
          have hP : va_P D vwCl (rm_w ad cI cL cZ (upd fi 2 (nI lq)) (vp_updL fl 0 qq.1) (va_up (va_up ai 14 rf) 17 ndq) (va_up (va_up al 18 L3) 19 vaq)) H := hP
          have hD : va_D A (rm_w ad cI cL cZ (upd fi 2 (nI lq)) (vp_updL fl 0 qq.1) (va_up (va_up ai 14 rf) 17 ndq) (va_up (va_up al 18 L3) 19 vaq)) := (by first | exact rm_D hD | exact am_D hD rfl)
          have hra : rc_ra ndq (rc_step (ai 2) (ai 3) (al 4) (al 7) (al 8)) vaq na sn j cz qq.1 na 0 lf = (a, L3) := by rw [hm2, show na - a = (na - (a + 1)) + 1 by omega, rc_ra, if_neg c_66, if_pos c_97, eL3]
          have hsj := hsp j a hj hal
          have hgt := rc_cd_gt (show sn < 1024 by omega) (show a < 10 by omega) c_66
          have hadd : (cz + (rc_step (ai 2) (ai 3) (al 4) (al 7) (al 8)) j a).toInt = cz.toInt + ((rc_step (ai 2) (ai 3) (al 4) (al 7) (al 8)) j a).toInt := i64_add (by omega) (by omega)
          have hs3 := rc_or_lt hs hal
          have hz2 : 0 ≤ (cz + (rc_step (ai 2) (ai 3) (al 4) (al 7) (al 8)) j a).toInt := by omega
          have hz3 : (cz + (rc_step (ai 2) (ai 3) (al 4) (al 7) (al 8)) j a).toInt ≤ 83160000000 * ((sn ||| 2 ^ a : Nat) : Int) := by omega
          have hB3 : ∀ f, (rc_best ndq (rc_step (ai 2) (ai 3) (al 4) (al 7) (al 8)) vaq na (sn ||| 2 ^ a) (a + 1) (cz + (rc_step (ai 2) (ai 3) (al 4) (al 7) (al 8)) j a) f).1 = qq.1 := fun f => (rc_best_f hnl hsp hva hs3 (by omega) hz2 hz3 f L2).trans c_97
          have hpc := rc_pc_add (show sn < 1024 by omega) (show a < 10 by omega) c_66
          have hpl := rc_pc_le (sn ||| 2 ^ a)
          have hlt : lq < 10 := by omega
          refine lv_lload hx hb dX5_run_106 (lv_at hl 4 rfl) ?_
          refine lv_aload_n hx hb dX5_run_108 rfl (lv_at hl 0 rfl) ?_
          refine lv_iload hx hb dX5_run_109 (lv_at hl 3 rfl) ?_
          refine lv_iload hx hb dX5_run_111 (lv_at hl 5 rfl) ?_
          refine am_callRl (W.runV (As := [.int (ac_la j), .int (nI a)]) (rest := [.long cz]) ⟨hx, hb, hml, hown, hts⟩ (c_X5_stepCost l D ad cI cL cZ (upd fi 2 (nI lq)) (vp_updL fl 0 qq.1) (va_up (va_up ai 14 rf) 17 ndq) (va_up (va_up al 18 L3) 19 vaq) j a na hna hnl hto hsi hj hal) (cwV 2 hts (am_gV (am_in 582 rfl) (am_in 583 rfl) (am_in 21 rfl) (am_in 35 rfl) (am_in 584 rfl)) rfl rfl rfl (by decide +kernel) ⟨Nat.le_of_ble_eq_true rfl, Nat.le_of_ble_eq_true rfl⟩) (am_preVR 5 0 rfl rfl rfl hP hK hN) rfl rfl hl.1 rfl (lv_room (Nat.le_of_ble_eq_true rfl)) dX5_run_113 ⟨Nat.zero_le _, Nat.zero_le _⟩) ?_
          refine lv_ladd hx hb dX5_run_116 ?_
          refine lv_lstore (lv' := [(5, .long (cz + ((rc_step (ai 2) (ai 3) (al 4) (al 7) (al 8)) j a))), (0, .ref (ad 0)), (1, .long v), (3, .int (nI sn)), (4, .int (ac_la j)), (7, .int (nI a))]) hx hb dX5_run_117 hl (by decide) rfl (fun ls hl => ?_)
          refine lv_iload_n hx hb dX5_run_119 rfl (lv_at hl 3 rfl) ?_
          refine lv_iconst (v := 1) hx hb dX5_run_120 (by decide) ?_
          refine lv_iload hx hb dX5_run_121 (lv_at hl 5 rfl) ?_
          refine lv_ishl hx hb dX5_run_123 ?_
          refine lv_ior hx hb dX5_run_124 ?_
          refine am_topi (am_or1 (by omega)) ?_
          refine lv_istore_n (lv' := [(3, .int (nI (sn ||| 2 ^ a))), (5, .long (cz + ((rc_step (ai 2) (ai 3) (al 4) (al 7) (al 8)) j a))), (0, .ref (ad 0)), (1, .long v), (4, .int (ac_la j)), (7, .int (nI a))]) hx hb dX5_run_125 rfl hl (by decide) rfl (fun ls hl => ?_)
          refine lv_iload hx hb dX5_run_126 (lv_at hl 5 rfl) ?_
          refine lv_istore (lv' := [(4, .int (nI a)), (3, .int (nI (sn ||| 2 ^ a))), (5, .long (cz + ((rc_step (ai 2) (ai 3) (al 4) (al 7) (al 8)) j a))), (0, .ref (ad 0)), (1, .long v), (7, .int (nI a))]) hx hb dX5_run_128 hl (by decide) rfl (fun ls hl => ?_)
          refine lv_aload_n hx hb dX5_run_130 rfl (lv_at hl 3 rfl) ?_
          refine va_get (D := D) (ci := 5) (v := .ref (ad 14)) (C := RX5) (T := TX5) (N := 31) hx hb hts hin_X5 hown hK hP 0 rfl rfl 15 (by decide) hf_51 (fun _ h9 => h9) rfl dX5_run_131 ?_
          refine lv_aload_n hx hb dX5_run_134 rfl (lv_at hl 3 rfl) ?_
          refine va_get (D := D) (ci := 5) (v := .int (nI lq)) (C := RX5) (T := TX5) (N := 31) hx hb hts hin_X5 hown hK hP 0 rfl rfl 16 (by decide) hf_54 (fun _ h9 => h9) rfl dX5_run_135 ?_
          refine lv_iload hx hb dX5_run_138 (lv_at hl 5 rfl) ?_
          refine am_iast hx hb hK hP hD hS 14 0 rfl rfl lq rfl (by omega) (by decide) (rm_w ad cI cL cZ (upd fi 2 (nI lq)) (vp_updL fl 0 qq.1) (va_up (va_up ai 14 (upd rf lq (nI a))) 17 ndq) (va_up (va_up al 18 L3) 19 vaq)) rfl dX5_run_140 (fun H locs hP hD hS => ?_)
          refine lv_aload_n hx hb dX5_run_141 rfl (lv_at hl 3 rfl) ?_
          refine lv_dup hx hb dX5_run_142 rfl ?_
          refine va_get (D := D) (ci := 5) (v := .int (nI lq)) (C := RX5) (T := TX5) (N := 31) hx hb hts hin_X5 hown hK hP 0 rfl rfl 16 (by decide) hf_54 (fun _ h9 => h9) rfl dX5_run_143 ?_
          refine lv_iconst (v := 1) hx hb dX5_run_146 (by decide) ?_
          refine lv_iadd hx hb dX5_run_147 ?_
          refine am_topi (nI_1 lq) ?_
          refine va_put (D := D) (ci := 5) (v := .int (nI (lq + 1))) (ty := .int) (C := RX5) (T := TX5) (N := 31) hx hb hts hin_X5 tyX5 tyX5_ok nmX5 hown hK hP hD hS 0 rfl rfl 16 (by decide) hf_54 (fun _ h9 => h9) rfl (by decide +kernel) rfl rfl (Nat.le_of_ble_eq_true rfl) dX5_run_148 (fun H locs hP hD hS => ?_)
          have hP : va_P D vwCl (rm_w ad cI cL cZ (upd fi 2 (nI (lq + 1))) (vp_updL fl 0 qq.1) (va_up (va_up ai 14 (upd rf lq (nI a))) 17 ndq) (va_up (va_up al 18 L3) 19 vaq)) H := hP
          have hD : va_D A (rm_w ad cI cL cZ (upd fi 2 (nI (lq + 1))) (vp_updL fl 0 qq.1) (va_up (va_up ai 14 (upd rf lq (nI a))) 17 ndq) (va_up (va_up al 18 L3) 19 vaq)) := (by first | exact rm_D hD | exact am_D hD rfl)
          refine lv_goto (tgt := 39) hx hb dX5_run_151 (by decide) ?_
          refine ih_39 (fu - 1, (sn ||| 2 ^ a), a + 1, (cz + (rc_step (ai 2) (ai 3) (al 4) (al 7) (al 8)) j a), lq + 1, (upd rf lq (nI a)), L3) ((fu - 1)) H locs ls (by rw [hn_39]; (try dsimp only); omega) ⟨rfl, hs3, (by (try dsimp only); omega), hz2, hz3, (by (try dsimp only); rw [hpc, hlq]), (by (try dsimp only); omega), hB3, (hm.trans (rc_rn_S (by omega) c_53 hra)), ?_, hS, ?_⟩
          · exact hP
          · exact lv_sub hl [3, 4, 1, 0, 2] rfl
        · skip
          have c_97 : ¬ (((rc_best ndq (rc_step (ai 2) (ai 3) (al 4) (al 7) (al 8)) vaq na (sn ||| 2 ^ a) (a + 1) (cz + ((rc_step (ai 2) (ai 3) (al 4) (al 7) (al 8)) j a)) L2).1) = qq.1) := (fun z => c_97 ((lg_cmp_eq _ _).mpr z))
          refine lv_iinc (v := nI (a + 1)) (lv' := [(7, .int (nI (a + 1))), (0, .ref (ad 0)), (1, .long v), (3, .int (nI sn)), (4, .int (ac_la j)), (5, .long cz)]) hx hb dX5_run_100 hl (k := 5) rfl (nI_1 a) (by decide) rfl (fun ls hl => ?_)
          refine lv_goto (tgt := 59) hx hb dX5_run_103 (by decide) ?_
          refine ih_59 (a + 1, ((rc_best ndq (rc_step (ai 2) (ai 3) (al 4) (al 7) (al 8)) vaq na (sn ||| 2 ^ a) (a + 1) (cz + ((rc_step (ai 2) (ai 3) (al 4) (al 7) (al 8)) j a)) L2).2)) (na - (a + 1)) H locs ls (by first | omega | (rw [hn_59]; dsimp only; omega)) ⟨rfl, (by first | omega | (dsimp only; omega)), (by obtain ⟨b, q1, q2, q3, q4⟩ := hex; exact ⟨b, Nat.lt_of_le_of_ne q1 (fun y => by subst y; exact c_97 (q4 L2)), q2, q3, q4⟩), (by dsimp only; rw [hm2, show na - a = (na - (a + 1)) + 1 by omega, rc_ra, if_neg c_66, if_neg c_97]), ?_, hS, ?_⟩
          · exact hP
          · exact lv_sub hl [1, 2, 3, 4, 5, 0] rfl
  · skip
    have c_6 : ¬ ((rc_st (ai 6) na (2 ^ na - 1)) ≤ v) := (fun z => c_6 ((lg_cmp_le _ _).mpr z))
    refine lv_iconst (v := (-1)) hx hb dX5_run_9 (by decide) ?_
    have hok : ¬ (rc_runOk (rc_st (ai 6) na (2 ^ na - 1)) v) := c_6
    exact am_iretM hx hb hr hlocks (by simp only [if_neg hok]; exact hP) hS (by rw [if_neg hok]; first | done | rfl) dX5_run_10
-- ===== the ranges that the reference's run needs =====
theorem i64_mul {a b : Int64} (h1 : -9000000000000000000 ≤ a.toInt * b.toInt) (h2 : a.toInt * b.toInt ≤ 9000000000000000000) : (a * b).toInt = a.toInt * b.toInt := by
  rw [Int64.toInt_mul]
  exact Int.bmod_eq_of_le (by omega) (by omega)
theorem i64_unit {b : Int64} (h : -4000000 ≤ b.toInt ∧ b.toInt ≤ 4000000) : (27720 * b).toInt = 27720 * b.toInt := by
  have e : (27720 : Int64).toInt = 27720 := by decide +kernel
  rw [i64_mul (by rw [e]; omega) (by rw [e]; omega), e]
theorem i64_div {a b : Int64} (h : -1000000000000 ≤ a.toInt ∧ a.toInt ≤ 1000000000000) : ∃ q : Int, (a / b).toInt = q ∧ q.natAbs ≤ a.toInt.natAbs := by
  refine ⟨a.toInt.tdiv b.toInt, ?_, ?_⟩
  · rw [Int64.toInt_div]
    have : (a.toInt.tdiv b.toInt).natAbs ≤ a.toInt.natAbs := by rw [Int.natAbs_tdiv]; exact Nat.div_le_self _ _
    exact Int.bmod_eq_of_le (by omega) (by omega)
  · rw [Int.natAbs_tdiv]; exact Nat.div_le_self _ _
abbrev rc_cents (z : Int64) : Prop := 0 ≤ z.toInt ∧ z.toInt ≤ 1000000
abbrev rc_wor (z : Int64) : Prop := -1000000 ≤ z.toInt ∧ z.toInt ≤ 1000000
theorem rc_sp_ok {to si : Nat → Int32} {co ch tu : Nat → Int64} {n : Nat} (h1 : ∀ a, rc_cents (co a)) (h2 : ∀ k, rc_cents (ch k)) (h3 : ∀ k, rc_cents (tu k)) : rc_spOk (rc_step to si co ch tu) n := by
  intro j a _ _
  have e0 : (0 : Int64).toInt = 0 := by decide +kernel
  have c0 : rc_cents 0 := by rw [rc_cents, e0]; omega
  cases j with
  | zero =>
    rw [rc_step]
    have := h1 a
    rw [i64_unit (by omega)]
    omega
  | succ j =>
    rw [rc_step]
    have g1 := h1 a
    have g2 : rc_cents (if to j = to a then 0 else ch (6 * to j + to a).toNatClampNeg) := by split; exact c0; exact h2 _
    have g3 : rc_cents (if si j = si a then 0 else tu (6 * si j + si a).toNatClampNeg) := by split; exact c0; exact h3 _
    generalize (if to j = to a then 0 else ch (6 * to j + to a).toNatClampNeg) = u at g2 ⊢
    generalize (if si j = si a then 0 else tu (6 * si j + si a).toNatClampNeg) = w at g3 ⊢
    have e1 : (co a + u).toInt = (co a).toInt + u.toInt := i64_add (by omega) (by omega)
    have e2 : (co a + u + w).toInt = (co a).toInt + u.toInt + w.toInt := by rw [i64_add (by omega) (by omega), e1]
    rw [i64_unit (by omega)]
    omega
theorem rc_brings_ok {fr br ab be : Nat → Int32} {wo : Nat → Int64} {tst tas : Int32} {n : Nat} {set : Int32} {p : Nat} (hw : rc_wor (wo p)) (ha : 0 ≤ (ab p).toInt ∧ (ab p).toInt ≤ 12) :
    -400000000000 ≤ (rc_brings fr br ab be wo tst tas n set p).toInt ∧ (rc_brings fr br ab be wo tst tas n set p).toInt ≤ 400000000000 := by
  have e0 : (0 : Int64).toInt = 0 := by decide +kernel
  have eu := i64_unit (b := wo p) (by omega)
  unfold rc_brings
  split
  · rw [e0]; omega
  · split
    · rw [e0]; omega
    · split
      · split
        · rw [eu]; omega
        · rw [e0]; omega
      · obtain ⟨q, hq, hl⟩ := i64_div (a := 27720 * wo p) (b := (be p).toInt64) (by omega)
        rw [eu] at hl
        have ea : (ab p).toInt64.toInt = (ab p).toInt := Int32.toInt_toInt64 _
        have hq1 : -27720000000 ≤ q ∧ q ≤ 27720000000 := by omega
        have hb : -400000000000 ≤ q * (ab p).toInt ∧ q * (ab p).toInt ≤ 400000000000 := by
          obtain ⟨a0, a1⟩ := ha
          generalize (ab p).toInt = y at a0 a1
          have : y = 0 ∨ y = 1 ∨ y = 2 ∨ y = 3 ∨ y = 4 ∨ y = 5 ∨ y = 6 ∨ y = 7 ∨ y = 8 ∨ y = 9 ∨ y = 10 ∨ y = 11 ∨ y = 12 := by omega
          rcases this with rfl | rfl | rfl | rfl | rfl | rfl | rfl | rfl | rfl | rfl | rfl | rfl | rfl <;> omega
        rw [i64_mul (by rw [hq, ea]; omega) (by rw [hq, ea]; omega), hq, ea]
        exact hb
theorem rc_vs_ok {brg : Nat → Int64} (h : ∀ p, p < 12 → -400000000000 ≤ (brg p).toInt ∧ (brg p).toInt ≤ 400000000000) : ∀ p : Nat, p ≤ 12 → -400000000000 * (p : Int) ≤ (rc_vs brg p).toInt ∧ (rc_vs brg p).toInt ≤ 400000000000 * (p : Int)
  | 0, _ => by
    have e0 : (0 : Int64).toInt = 0 := by decide +kernel
    rw [rc_vs, e0]; omega
  | p + 1, hp => by
    have i := rc_vs_ok h p (by omega)
    have g := h p (by omega)
    rw [rc_vs, i64_add (by omega) (by omega)]
    omega
theorem rc_vr_ok {rp : Nat → Int32} {rwo : Nat → Int64} {rest : Int32} {v0 : Int64} (h0 : -4800000000000 ≤ v0.toInt ∧ v0.toInt ≤ 4800000000000) {nr : Nat} (h : ∀ k, k < nr → rc_wor (rwo k)) (hn : nr ≤ 16) : ∀ k : Nat, k ≤ nr → -4800000000000 - 27720000000 * (k : Int) ≤ (rc_vr rp rwo rest v0 k).toInt ∧ (rc_vr rp rwo rest v0 k).toInt ≤ 4800000000000 + 27720000000 * (k : Int)
  | 0, _ => by rw [rc_vr]; omega
  | k + 1, hk => by
    have e0 : (0 : Int64).toInt = 0 := by decide +kernel
    have i := rc_vr_ok (rp := rp) (rest := rest) h0 h hn k (by omega)
    have g := h k (by omega)
    have eu := i64_unit (b := rwo k) (by omega)
    have gu : -27720000000 ≤ (if rp k = rest then 27720 * rwo k else 0).toInt ∧ (if rp k = rest then 27720 * rwo k else 0).toInt ≤ 27720000000 := by
      split
      · rw [eu]; omega
      · rw [e0]; omega
    rw [rc_vr, i64_add (by omega) (by omega)]
    omega
theorem rc_vals_at (val : Int32 → Int64) (f : Nat → Int64) : ∀ n s, s < n → rc_vals val f n s = val (nI s)
  | 0, s, h => by omega
  | n + 1, s, h => by
    rw [rc_vals]
    by_cases e : s = n
    · subst e; exact am_updL_s
    · rw [am_updL_n e]; exact rc_vals_at val f n s (by omega)
theorem rc_va_ok {fr br ab be rp : Nat → Int32} {wo rwo : Nat → Int64} {tst tas : Int32} {n nr : Nat} {f : Nat → Int64} (hw : ∀ p, p < 12 → rc_wor (wo p)) (ha : ∀ p, p < 12 → 0 ≤ (ab p).toInt ∧ (ab p).toInt ≤ 12) (hr : ∀ k, k < nr → rc_wor (rwo k)) (hn : nr ≤ 16) :
    rc_vaOk (rc_vals (rc_val fr br ab be rp wo rwo tst tas n nr) f (2 ^ n)) n := by
  intro s hs
  rw [rc_vals_at _ _ _ _ hs, rc_val]
  have h1 := rc_vs_ok (brg := rc_brings fr br ab be wo tst tas n (nI s)) (fun p hp => rc_brings_ok (hw p hp) (ha p hp)) 12 (Nat.le_refl _)
  have h2 := rc_vr_ok (rp := rp) (rest := rc_rest fr (nI s) n) (v0 := rc_vs (rc_brings fr br ab be wo tst tas n (nI s)) 12) (by omega) hr hn nr (Nat.le_refl _)
  omega
