abbrev rc_actOk (n x t d : Int32) (z : Int64) : Prop := ¬ n = 10 ∧ ¬ x < -1 ∧ ¬ 12 ≤ x ∧ ¬ ac_isKind t = 0 ∧ ¬ ac_isKind d = 0 ∧ ¬ ac_isPrice z = 0
abbrev rc_befOk (n : Int32) (nds : Nat → Int32) (na : Nat) (x y : Int32) : Prop := ¬ ac_hasAct n x = 0 ∧ ¬ ac_hasAct n y = 0 ∧ ¬ x = y ∧ rc_leads nds na x.toNatClampNeg y = 0
abbrev rc_movOk (x y : Int32) (z : Int64) : Prop := ¬ ac_isKind x = 0 ∧ ¬ ac_isKind y = 0 ∧ ¬ x = y ∧ ¬ ac_isPrice z = 0
abbrev rc_rstOk (v z : Int64) (p : Nat) : Prop := ¬ v < 0 ∧ ¬ 4095 < v ∧ ¬ ac_isWorth z = 0 ∧ ¬ p = 16
abbrev rc_brkOk (n : Int32) (br : Nat → Int32) (x : Int32) : Prop := ¬ ac_hasAct n x = 0 ∧ br x.toNatClampNeg = 0
def rc_pl (rp : Nat → Int32) (v : Int64) : Nat → Nat → Nat
  | 0, k => k
  | n + 1, k => if (rp k).toInt64 = v then k else rc_pl rp v n (k + 1)
theorem rc_pl_le (rp : Nat → Int32) (v : Int64) : ∀ n k, k ≤ rc_pl rp v n k ∧ rc_pl rp v n k ≤ k + n
  | 0, k => ⟨Nat.le_refl _, Nat.le_refl _⟩
  | n + 1, k => by
    rw [rc_pl]
    split
    · exact ⟨Nat.le_refl _, by omega⟩
    · obtain ⟨h1, h2⟩ := rc_pl_le rp v n (k + 1)
      exact ⟨by omega, by omega⟩
def rc_kb (tr bh : Nat → Int32) (a : Nat) (c0 : Int32) : Nat → Int32
  | 0 => c0
  | b + 1 => if rc_kb tr bh a c0 b = 0 then 0 else if tr a < 0 then 1 else if tr b < 0 then 1 else if bh (10 * a + b) = 0 then 1 else if tr a < tr b then 0 else 1
def rc_ka (tr bh : Nat → Int32) (n : Nat) : Nat → Int32
  | 0 => 1
  | a + 1 => rc_kb tr bh a (rc_ka tr bh n a) n
theorem rc_kb_z (tr bh : Nat → Int32) (a : Nat) (c0 : Int32) (h : c0 = 0 ∨ c0 = 1) : ∀ b, rc_kb tr bh a c0 b = 0 ∨ rc_kb tr bh a c0 b = 1
  | 0 => h
  | b + 1 => by
    rw [rc_kb]
    split
    · exact Or.inl rfl
    · split
      · exact Or.inr rfl
      · split
        · exact Or.inr rfl
        · split
          · exact Or.inr rfl
          · split
            · exact Or.inl rfl
            · exact Or.inr rfl
theorem rc_ka_z (tr bh : Nat → Int32) (n : Nat) : ∀ a, rc_ka tr bh n a = 0 ∨ rc_ka tr bh n a = 1
  | 0 => Or.inr rfl
  | a + 1 => rc_kb_z tr bh a _ (rc_ka_z tr bh n a) n
def rc_ls (tr : Nat → Int32) (co : Nat → Int64) (q : Nat) : Nat → Int64
  | 0 => 0
  | a + 1 => rc_ls tr co q a + (if tr a = nI q then co a else 0)
def rc_lo (tr : Nat → Int32) (co : Nat → Int64) (n : Nat) : Nat → Int64
  | 0 => 0
  | q + 1 => if rc_ls tr co q n ≤ rc_lo tr co n q then rc_lo tr co n q else rc_ls tr co q n
theorem ac_la_dec : ∀ a : Nat, nI a + (-1) = ac_la a
  | 0 => by decide +kernel
  | a + 1 => pk_m1 a
theorem ac_la_sub {x : Int32} {n : Nat} (h : x = nI n) : x - 1 = ac_la n := by
  subst h
  cases n with
  | zero => decide +kernel
  | succ n => exact nI_pred n
/-- next: the acts below j are left -/
def rc_next (st : Int32) : Nat → (Nat → Int32) → (Nat → Int32) × Int32
  | 0, f => (f, 0)
  | a + 1, f => if f a < 0 then rc_next st a (upd f a (-1)) else if st - 1 ≤ f a then rc_next st a (upd f a 0) else (upd f a (f a + 1), 1)
set_option maxHeartbeats 4000000 in
set_option maxRecDepth 100000 in
theorem c_X5_act (l : Launch) (D : va_G) (ad : Nat → Nat) (cI cL cZ : ClassId) (fi : Nat → Int32) (fl : Nat → Int64) (ai : Nat → Nat → Int32) (al : Nat → Nat → Int64) (A : Nat → Prop) (x : Int32) (t : Int32) (d : Int32) (z : Int64) (na : Nat) (hna : fi 0 = nI na) (hnl : na ≤ 10) : Met l yX5_act wsX5_act (am_rm 1 21) (va_Pc [.ref (ad 0), .int x, .int t, .int d, .long z] (am_M nwL vwCl D A (rm_w ad cI cL cZ fi fl ai al) [(cI, .int), (cL, .long), (cZ, .boolean)])) (am_Mi vwCl D (if rc_actOk (fi 0) x t d z then (fi 0) + 1 - 1 else (-1)) (rm_w ad cI cL cZ (upd (upd fi 0 (if rc_actOk (fi 0) x t d z then (fi 0) + 1 else (fi 0))) 3 (if rc_actOk (fi 0) x t d z then 0 else (fi 3))) fl (va_up (va_up (va_up ai 1 (if rc_actOk (fi 0) x t d z then upd (ai 1) na x else (ai 1))) 2 (if rc_actOk (fi 0) x t d z then upd (ai 2) na t else (ai 2))) 3 (if rc_actOk (fi 0) x t d z then upd (ai 3) na d else (ai 3))) (va_up al 4 (if rc_actOk (fi 0) x t d z then vp_updL (al 4) na z else (al 4)))) A) 0 0 A := by
  refine am_startM (cc := cX5_act) (maxL := 6) (ret := (some .int)) (by decide) rfl (Nat.le_of_ble_eq_true rfl) [(0, .ref (ad 0)), (1, .int x), (2, .int t), (3, .int d), (4, .long z)] rfl ?_
  intro p e s m below meth c ls hx hb hr hml hown hts hlocks hK hN hD H locs hP hS hl
  have hown : s.vm.findClass RX5 = some m.cls := hown
  have ht := am_ht hts
  have hin_X5 : ∀ w ∈ u_ws RX5 TX5 31, w ∈ wsX5_act := fun w h => List.mem_cons_of_mem _ (am_inX5 w h)
  have hf_13 := ht 432 (.fieldLink RX5 13 "ApartCostModel" "tools" "[I") rfl
  have hf_16 := ht 433 (.fieldLink RX5 16 "ApartCostModel" "sides" "[I") rfl
  have hf_19 := ht 434 (.fieldLink RX5 19 "ApartCostModel" "costs" "[J") rfl
  have hf_7 := ht 431 (.fieldLink RX5 7 "ApartCostModel" "freed" "[I") rfl
  have hf_86 := ht 430 (.fieldLink RX5 86 "ApartCostModel" "count" "I") rfl
  have hf_97 := ht 449 (.fieldLink RX5 97 "ApartCostModel" "isFresh" "Z") rfl
  refine lv_aload_n hx hb dX5_act_0 rfl (lv_at hl 0 rfl) ?_
  refine va_get (D := D) (ci := 5) (v := .int (fi 0)) (C := RX5) (T := TX5) (N := 31) hx hb hts hin_X5 hown hK hP 0 rfl rfl 0 (by decide) hf_86 (fun _ h9 => h9) rfl dX5_act_1 ?_
  refine lv_bipush (v := 10) hx hb dX5_act_4 (by decide) ?_
  refine lv_icmp_eq (tgt := 42) hx hb dX5_act_6 (by decide) (fun c_6 => ?_) (fun c_6 => ?_)
  · skip
    have c_6 : (fi 0) = 10 := c_6
    refine lv_iconst (v := (-1)) hx hb dX5_act_42 (by decide) ?_
    have hok : ¬ (rc_actOk (fi 0) x t d z) := by first | rfl | (simp only [rc_actOk, c_6, if_true, if_false, eq_self, not_true_eq_false, not_false_eq_true, ite_true, ite_false, ↓reduceIte]; done) | (simp [rc_actOk, c_6]; done)
    exact am_iretM hx hb hr hlocks (by simp only [if_neg hok]; exact hP) hS (by rw [if_neg hok]; first | done | rfl) dX5_act_43
  · skip
    have c_6 : ¬ ((fi 0) = 10) := c_6
    have hlt : na < 10 := by rcases Nat.lt_or_ge na 10 with h | h; exact h; exact absurd (by rw [hna, show na = 10 by omega]; rfl) c_6
    refine lv_iload_n hx hb dX5_act_9 rfl (lv_at hl 1 rfl) ?_
    refine lv_iconst (v := (-1)) hx hb dX5_act_10 (by decide) ?_
    refine lv_icmp_lt (tgt := 42) hx hb dX5_act_11 (by decide) (fun c_11 => ?_) (fun c_11 => ?_)
    · skip
      have c_11 : x < (-1) := c_11
      refine lv_iconst (v := (-1)) hx hb dX5_act_42 (by decide) ?_
      have hok : ¬ (rc_actOk (fi 0) x t d z) := by first | rfl | (simp only [rc_actOk, c_6, c_11, if_true, if_false, eq_self, not_true_eq_false, not_false_eq_true, ite_true, ite_false, ↓reduceIte]; done) | (simp [rc_actOk, c_6, c_11]; done)
      exact am_iretM hx hb hr hlocks (by simp only [if_neg hok]; exact hP) hS (by rw [if_neg hok]; first | done | rfl) dX5_act_43
    · skip
      have c_11 : ¬ (x < (-1)) := c_11
      refine lv_iload_n hx hb dX5_act_14 rfl (lv_at hl 1 rfl) ?_
      refine lv_bipush (v := 12) hx hb dX5_act_15 (by decide) ?_
      refine lv_icmp_ge (tgt := 42) hx hb dX5_act_17 (by decide) (fun c_17 => ?_) (fun c_17 => ?_)
      · skip
        have c_17 : 12 ≤ x := c_17
        refine lv_iconst (v := (-1)) hx hb dX5_act_42 (by decide) ?_
        have hok : ¬ (rc_actOk (fi 0) x t d z) := by first | rfl | (simp only [rc_actOk, c_6, c_11, c_17, if_true, if_false, eq_self, not_true_eq_false, not_false_eq_true, ite_true, ite_false, ↓reduceIte]; done) | (simp [rc_actOk, c_6, c_11, c_17]; done)
        exact am_iretM hx hb hr hlocks (by simp only [if_neg hok]; exact hP) hS (by rw [if_neg hok]; first | done | rfl) dX5_act_43
      · skip
        have c_17 : ¬ (12 ≤ x) := c_17
        refine lv_iload_n hx hb dX5_act_20 rfl (lv_at hl 2 rfl) ?_
        refine am_callRi (W.runS (As := [.int t]) (rest := []) ⟨hx, hb, hml, hown, hts⟩ (c_X5_isKind l D _ _ t) (va_cwS 1 hts (am_gS (am_in 497 rfl) (am_in 498 rfl) (am_in 35 rfl) (am_in 499 rfl)) rfl rfl rfl (by decide +kernel) ⟨Nat.le_of_ble_eq_true rfl, Nat.le_of_ble_eq_true rfl⟩) (am_preSR hP hK hN) rfl rfl hl.1 rfl (lv_room (Nat.le_of_ble_eq_true rfl)) dX5_act_21 ⟨Nat.zero_le _, Nat.zero_le _⟩) ?_
        refine lv_if_eq (tgt := 42) hx hb dX5_act_24 (by decide) (fun c_24 => ?_) (fun c_24 => ?_)
        · skip
          have c_24 : (ac_isKind t) = 0 := c_24
          refine lv_iconst (v := (-1)) hx hb dX5_act_42 (by decide) ?_
          have hok : ¬ (rc_actOk (fi 0) x t d z) := by first | rfl | (simp only [rc_actOk, c_6, c_11, c_17, c_24, if_true, if_false, eq_self, not_true_eq_false, not_false_eq_true, ite_true, ite_false, ↓reduceIte]; done) | (simp [rc_actOk, c_6, c_11, c_17, c_24]; done)
          exact am_iretM hx hb hr hlocks (by simp only [if_neg hok]; exact hP) hS (by rw [if_neg hok]; first | done | rfl) dX5_act_43
        · skip
          have c_24 : ¬ ((ac_isKind t) = 0) := c_24
          refine lv_iload_n hx hb dX5_act_27 rfl (lv_at hl 3 rfl) ?_
          refine am_callRi (W.runS (As := [.int d]) (rest := []) ⟨hx, hb, hml, hown, hts⟩ (c_X5_isKind l D _ _ d) (va_cwS 1 hts (am_gS (am_in 497 rfl) (am_in 498 rfl) (am_in 35 rfl) (am_in 499 rfl)) rfl rfl rfl (by decide +kernel) ⟨Nat.le_of_ble_eq_true rfl, Nat.le_of_ble_eq_true rfl⟩) (am_preSR hP hK hN) rfl rfl hl.1 rfl (lv_room (Nat.le_of_ble_eq_true rfl)) dX5_act_28 ⟨Nat.zero_le _, Nat.zero_le _⟩) ?_
          refine lv_if_eq (tgt := 42) hx hb dX5_act_31 (by decide) (fun c_31 => ?_) (fun c_31 => ?_)
          · skip
            have c_31 : (ac_isKind d) = 0 := c_31
            refine lv_iconst (v := (-1)) hx hb dX5_act_42 (by decide) ?_
            have hok : ¬ (rc_actOk (fi 0) x t d z) := by first | rfl | (simp only [rc_actOk, c_6, c_11, c_17, c_24, c_31, if_true, if_false, eq_self, not_true_eq_false, not_false_eq_true, ite_true, ite_false, ↓reduceIte]; done) | (simp [rc_actOk, c_6, c_11, c_17, c_24, c_31]; done)
            exact am_iretM hx hb hr hlocks (by simp only [if_neg hok]; exact hP) hS (by rw [if_neg hok]; first | done | rfl) dX5_act_43
          · skip
            have c_31 : ¬ ((ac_isKind d) = 0) := c_31
            refine lv_lload hx hb dX5_act_34 (lv_at hl 4 rfl) ?_
            refine am_callRi (W.runS (As := [.long z]) (rest := []) ⟨hx, hb, hml, hown, hts⟩ (c_X5_isCents l D _ _ z) (va_cwS 1 hts (am_gS (am_in 500 rfl) (am_in 501 rfl) (am_in 35 rfl) (am_in 502 rfl)) rfl rfl rfl (by decide +kernel) ⟨Nat.le_of_ble_eq_true rfl, Nat.le_of_ble_eq_true rfl⟩) (am_preSR hP hK hN) rfl rfl hl.1 rfl (lv_room (Nat.le_of_ble_eq_true rfl)) dX5_act_36 ⟨Nat.zero_le _, Nat.zero_le _⟩) ?_
            refine lv_if_ne (tgt := 44) hx hb dX5_act_39 (by decide) (fun c_39 => ?_) (fun c_39 => ?_)
            · skip
              have c_39 : ¬ (ac_isPrice z) = 0 := c_39
              refine lv_aload_n hx hb dX5_act_44 rfl (lv_at hl 0 rfl) ?_
              refine va_get (D := D) (ci := 5) (v := .ref (ad 1)) (C := RX5) (T := TX5) (N := 31) hx hb hts hin_X5 hown hK hP 0 rfl rfl 1 (by decide) hf_7 (fun _ h9 => h9) rfl dX5_act_45 ?_
              refine lv_aload_n hx hb dX5_act_48 rfl (lv_at hl 0 rfl) ?_
              refine va_get (D := D) (ci := 5) (v := .int (fi 0)) (C := RX5) (T := TX5) (N := 31) hx hb hts hin_X5 hown hK hP 0 rfl rfl 0 (by decide) hf_86 (fun _ h9 => h9) rfl dX5_act_49 ?_
              refine lv_iload_n hx hb dX5_act_52 rfl (lv_at hl 1 rfl) ?_
              refine am_iast hx hb hK hP hD hS 1 0 rfl rfl na hna (by omega) (by decide) (rm_w ad cI cL cZ fi fl (va_up ai 1 (upd (ai 1) na x)) al) rfl dX5_act_53 (fun H locs hP hD hS => ?_)
              refine lv_aload_n hx hb dX5_act_54 rfl (lv_at hl 0 rfl) ?_
              refine va_get (D := D) (ci := 5) (v := .ref (ad 2)) (C := RX5) (T := TX5) (N := 31) hx hb hts hin_X5 hown hK hP 0 rfl rfl 2 (by decide) hf_13 (fun _ h9 => h9) rfl dX5_act_55 ?_
              refine lv_aload_n hx hb dX5_act_58 rfl (lv_at hl 0 rfl) ?_
              refine va_get (D := D) (ci := 5) (v := .int (fi 0)) (C := RX5) (T := TX5) (N := 31) hx hb hts hin_X5 hown hK hP 0 rfl rfl 0 (by decide) hf_86 (fun _ h9 => h9) rfl dX5_act_59 ?_
              refine lv_iload_n hx hb dX5_act_62 rfl (lv_at hl 2 rfl) ?_
              refine am_iast hx hb hK hP hD hS 2 0 rfl rfl na hna (by omega) (by decide) (rm_w ad cI cL cZ fi fl (va_up (va_up ai 1 (upd (ai 1) na x)) 2 (upd (ai 2) na t)) al) rfl dX5_act_63 (fun H locs hP hD hS => ?_)
              refine lv_aload_n hx hb dX5_act_64 rfl (lv_at hl 0 rfl) ?_
              refine va_get (D := D) (ci := 5) (v := .ref (ad 3)) (C := RX5) (T := TX5) (N := 31) hx hb hts hin_X5 hown hK hP 0 rfl rfl 3 (by decide) hf_16 (fun _ h9 => h9) rfl dX5_act_65 ?_
              refine lv_aload_n hx hb dX5_act_68 rfl (lv_at hl 0 rfl) ?_
              refine va_get (D := D) (ci := 5) (v := .int (fi 0)) (C := RX5) (T := TX5) (N := 31) hx hb hts hin_X5 hown hK hP 0 rfl rfl 0 (by decide) hf_86 (fun _ h9 => h9) rfl dX5_act_69 ?_
              refine lv_iload_n hx hb dX5_act_72 rfl (lv_at hl 3 rfl) ?_
              refine am_iast hx hb hK hP hD hS 3 0 rfl rfl na hna (by omega) (by decide) (rm_w ad cI cL cZ fi fl (va_up (va_up (va_up ai 1 (upd (ai 1) na x)) 2 (upd (ai 2) na t)) 3 (upd (ai 3) na d)) al) rfl dX5_act_73 (fun H locs hP hD hS => ?_)
              refine lv_aload_n hx hb dX5_act_74 rfl (lv_at hl 0 rfl) ?_
              refine va_get (D := D) (ci := 5) (v := .ref (ad 4)) (C := RX5) (T := TX5) (N := 31) hx hb hts hin_X5 hown hK hP 0 rfl rfl 4 (by decide) hf_19 (fun _ h9 => h9) rfl dX5_act_75 ?_
              refine lv_aload_n hx hb dX5_act_78 rfl (lv_at hl 0 rfl) ?_
              refine va_get (D := D) (ci := 5) (v := .int (fi 0)) (C := RX5) (T := TX5) (N := 31) hx hb hts hin_X5 hown hK hP 0 rfl rfl 0 (by decide) hf_86 (fun _ h9 => h9) rfl dX5_act_79 ?_
              refine lv_lload hx hb dX5_act_82 (lv_at hl 4 rfl) ?_
              refine am_last hx hb hK hP hD hS 4 1 rfl rfl na hna (by omega) (by decide) (rm_w ad cI cL cZ fi fl (va_up (va_up (va_up ai 1 (upd (ai 1) na x)) 2 (upd (ai 2) na t)) 3 (upd (ai 3) na d)) (va_up al 4 (vp_updL (al 4) na z))) rfl dX5_act_84 (fun H locs hP hD hS => ?_)
              refine lv_aload_n hx hb dX5_act_85 rfl (lv_at hl 0 rfl) ?_
              refine lv_dup hx hb dX5_act_86 rfl ?_
              refine va_get (D := D) (ci := 5) (v := .int (fi 0)) (C := RX5) (T := TX5) (N := 31) hx hb hts hin_X5 hown hK hP 0 rfl rfl 0 (by decide) hf_86 (fun _ h9 => h9) rfl dX5_act_87 ?_
              refine lv_iconst (v := 1) hx hb dX5_act_90 (by decide) ?_
              refine lv_iadd hx hb dX5_act_91 ?_
              refine va_put (D := D) (ci := 5) (v := .int ((fi 0) + 1)) (ty := .int) (C := RX5) (T := TX5) (N := 31) hx hb hts hin_X5 tyX5 tyX5_ok nmX5 hown hK hP hD hS 0 rfl rfl 0 (by decide) hf_86 (fun _ h9 => h9) rfl (by decide +kernel) rfl rfl (Nat.le_of_ble_eq_true rfl) dX5_act_92 (fun H locs hP hD hS => ?_)
              have hP : va_P D vwCl (rm_w ad cI cL cZ (upd fi 0 ((fi 0) + 1)) fl (va_up (va_up (va_up ai 1 (upd (ai 1) na x)) 2 (upd (ai 2) na t)) 3 (upd (ai 3) na d)) (va_up al 4 (vp_updL (al 4) na z))) H := hP
              have hD : va_D A (rm_w ad cI cL cZ (upd fi 0 ((fi 0) + 1)) fl (va_up (va_up (va_up ai 1 (upd (ai 1) na x)) 2 (upd (ai 2) na t)) 3 (upd (ai 3) na d)) (va_up al 4 (vp_updL (al 4) na z))) := am_D hD rfl
              refine lv_aload_n hx hb dX5_act_95 rfl (lv_at hl 0 rfl) ?_
              refine lv_iconst (v := 0) hx hb dX5_act_96 (by decide) ?_
              refine va_put (D := D) (ci := 5) (v := .int 0) (ty := .boolean) (C := RX5) (T := TX5) (N := 31) hx hb hts hin_X5 tyX5 tyX5_ok nmX5 hown hK hP hD hS 0 rfl rfl 19 (by decide) hf_97 (fun _ h9 => h9) rfl (by decide +kernel) rfl rfl (Nat.le_of_ble_eq_true rfl) dX5_act_97 (fun H locs hP hD hS => ?_)
              have hP : va_P D vwCl (rm_w ad cI cL cZ (upd (upd fi 0 ((fi 0) + 1)) 3 0) fl (va_up (va_up (va_up ai 1 (upd (ai 1) na x)) 2 (upd (ai 2) na t)) 3 (upd (ai 3) na d)) (va_up al 4 (vp_updL (al 4) na z))) H := hP
              have hD : va_D A (rm_w ad cI cL cZ (upd (upd fi 0 ((fi 0) + 1)) 3 0) fl (va_up (va_up (va_up ai 1 (upd (ai 1) na x)) 2 (upd (ai 2) na t)) 3 (upd (ai 3) na d)) (va_up al 4 (vp_updL (al 4) na z))) := am_D hD rfl
              refine lv_aload_n hx hb dX5_act_100 rfl (lv_at hl 0 rfl) ?_
              refine va_get (D := D) (ci := 5) (v := .int ((fi 0) + 1)) (C := RX5) (T := TX5) (N := 31) hx hb hts hin_X5 hown hK hP 0 rfl rfl 0 (by decide) hf_86 (fun _ h9 => h9) rfl dX5_act_101 ?_
              refine lv_iconst (v := 1) hx hb dX5_act_104 (by decide) ?_
              refine lv_isub hx hb dX5_act_105 ?_
              have hok : rc_actOk (fi 0) x t d z := by first | rfl | (simp only [rc_actOk, c_6, c_11, c_17, c_24, c_31, c_39, if_true, if_false, eq_self, not_true_eq_false, not_false_eq_true, ite_true, ite_false, ↓reduceIte]; done) | (simp [rc_actOk, c_6, c_11, c_17, c_24, c_31, c_39]; done)
              exact am_iretM hx hb hr hlocks (by simp only [if_pos hok]; exact hP) hS (by rw [if_pos hok]; first | done | rfl) dX5_act_106
            · skip
              have c_39 : (ac_isPrice z) = 0 := c_39
              refine lv_iconst (v := (-1)) hx hb dX5_act_42 (by decide) ?_
              have hok : ¬ (rc_actOk (fi 0) x t d z) := by first | rfl | (simp only [rc_actOk, c_6, c_11, c_17, c_24, c_31, c_39, if_true, if_false, eq_self, not_true_eq_false, not_false_eq_true, ite_true, ite_false, ↓reduceIte]; done) | (simp [rc_actOk, c_6, c_11, c_17, c_24, c_31, c_39]; done)
              exact am_iretM hx hb hr hlocks (by simp only [if_neg hok]; exact hP) hS (by rw [if_neg hok]; first | done | rfl) dX5_act_43

set_option maxHeartbeats 4000000 in
set_option maxRecDepth 100000 in
theorem c_X5_before (l : Launch) (D : va_G) (ad : Nat → Nat) (cI cL cZ : ClassId) (fi : Nat → Int32) (fl : Nat → Int64) (ai : Nat → Nat → Int32) (al : Nat → Nat → Int64) (A : Nat → Prop) (x : Int32) (y : Int32) (na : Nat) (hna : fi 0 = nI na) (hnl : na ≤ 10) : Met l yX5_before wsX5_before (am_rm 1 26) (va_Pc [.ref (ad 0), .int x, .int y] (am_M nwL vwCl D A (rm_w ad cI cL cZ fi fl ai al) [(cI, .int), (cL, .long), (cZ, .boolean)])) (am_Mi vwCl D (if rc_befOk (fi 0) (ai 6) na x y then 1 else 0) (rm_w ad cI cL cZ (upd fi 3 (if rc_befOk (fi 0) (ai 6) na x y then 0 else (fi 3))) fl (va_up ai 6 (if rc_befOk (fi 0) (ai 6) na x y then upd (ai 6) (10 * y.toNatClampNeg + x.toNatClampNeg) 1 else (ai 6))) al) A) 0 0 A := by
  refine am_startM (cc := cX5_before) (maxL := 3) (ret := (some .boolean)) (by decide) rfl (Nat.le_of_ble_eq_true rfl) [(0, .ref (ad 0)), (1, .int x), (2, .int y)] rfl ?_
  intro p e s m below meth c ls hx hb hr hml hown hts hlocks hK hN hD H locs hP hS hl
  have hown : s.vm.findClass RX5 = some m.cls := hown
  have ht := am_ht hts
  have hin_X5 : ∀ w ∈ u_ws RX5 TX5 31, w ∈ wsX5_before := fun w h => List.mem_cons_of_mem _ (am_inX5 w h)
  have hf_27 := ht 436 (.fieldLink RX5 27 "ApartCostModel" "needs" "[Z") rfl
  have hf_97 := ht 449 (.fieldLink RX5 97 "ApartCostModel" "isFresh" "Z") rfl
  refine lv_aload_n hx hb dX5_before_0 rfl (lv_at hl 0 rfl) ?_
  refine lv_iload_n hx hb dX5_before_1 rfl (lv_at hl 1 rfl) ?_
  refine am_callRi (W.runV (As := [.int x]) (rest := []) ⟨hx, hb, hml, hown, hts⟩ (c_X5_isAct l D ad cI cL cZ fi fl ai al x) (cwV 1 hts (am_gV (am_in 508 rfl) (am_in 509 rfl) (am_in 12 rfl) (am_in 35 rfl) (am_in 510 rfl)) rfl rfl rfl (by decide +kernel) ⟨Nat.le_of_ble_eq_true rfl, Nat.le_of_ble_eq_true rfl⟩) (am_preVR 5 0 rfl rfl rfl hP hK hN) rfl rfl hl.1 rfl (lv_room (Nat.le_of_ble_eq_true rfl)) dX5_before_2 ⟨Nat.zero_le _, Nat.zero_le _⟩) ?_
  refine lv_if_eq (tgt := 30) hx hb dX5_before_5 (by decide) (fun c_5 => ?_) (fun c_5 => ?_)
  · skip
    have c_5 : (ac_hasAct (fi 0) x) = 0 := c_5
    refine lv_iconst (v := 0) hx hb dX5_before_30 (by decide) ?_
    have hok : ¬ (rc_befOk (fi 0) (ai 6) na x y) := by first | rfl | (simp only [rc_befOk, c_5, if_true, if_false, eq_self, not_true_eq_false, not_false_eq_true, ite_true, ite_false, ↓reduceIte]; done) | (simp [rc_befOk, c_5]; done)
    exact am_zretM hx hb hr hlocks (Or.inl rfl) (by simp only [if_neg hok]; exact hP) hS (by rw [if_neg hok]; first | done | rfl) dX5_before_31
  · skip
    have c_5 : ¬ ((ac_hasAct (fi 0) x) = 0) := c_5
    obtain ⟨a, hq_a, ea⟩ : ∃ z, z < na ∧ x = nI z := am_hasAct hna (by omega) c_5
    have nn_a : x.toNatClampNeg = a := by rw [ea]; exact nI_clamp (by omega)
    have mm_a : (nI a).toNatClampNeg = a := nI_clamp (by omega)
    refine lv_aload_n hx hb dX5_before_8 rfl (lv_at hl 0 rfl) ?_
    refine lv_iload_n hx hb dX5_before_9 rfl (lv_at hl 2 rfl) ?_
    refine am_callRi (W.runV (As := [.int y]) (rest := []) ⟨hx, hb, hml, hown, hts⟩ (c_X5_isAct l D ad cI cL cZ fi fl ai al y) (cwV 1 hts (am_gV (am_in 508 rfl) (am_in 509 rfl) (am_in 12 rfl) (am_in 35 rfl) (am_in 510 rfl)) rfl rfl rfl (by decide +kernel) ⟨Nat.le_of_ble_eq_true rfl, Nat.le_of_ble_eq_true rfl⟩) (am_preVR 5 0 rfl rfl rfl hP hK hN) rfl rfl hl.1 rfl (lv_room (Nat.le_of_ble_eq_true rfl)) dX5_before_10 ⟨Nat.zero_le _, Nat.zero_le _⟩) ?_
    refine lv_if_eq (tgt := 30) hx hb dX5_before_13 (by decide) (fun c_13 => ?_) (fun c_13 => ?_)
    · skip
      have c_13 : (ac_hasAct (fi 0) y) = 0 := c_13
      refine lv_iconst (v := 0) hx hb dX5_before_30 (by decide) ?_
      have hok : ¬ (rc_befOk (fi 0) (ai 6) na x y) := by first | rfl | (simp only [rc_befOk, c_5, c_13, nn_a, if_true, if_false, eq_self, not_true_eq_false, not_false_eq_true, ite_true, ite_false, ↓reduceIte]; done) | (simp [rc_befOk, c_5, c_13, nn_a]; done)
      exact am_zretM hx hb hr hlocks (Or.inl rfl) (by simp only [if_neg hok]; exact hP) hS (by rw [if_neg hok]; first | done | rfl) dX5_before_31
    · skip
      have c_13 : ¬ ((ac_hasAct (fi 0) y) = 0) := c_13
      obtain ⟨b, hq_b, eb⟩ : ∃ z, z < na ∧ y = nI z := am_hasAct hna (by omega) c_13
      have nn_b : y.toNatClampNeg = b := by rw [eb]; exact nI_clamp (by omega)
      have mm_b : (nI b).toNatClampNeg = b := nI_clamp (by omega)
      refine lv_iload_n hx hb dX5_before_16 rfl (lv_at hl 1 rfl) ?_
      refine lv_iload_n hx hb dX5_before_17 rfl (lv_at hl 2 rfl) ?_
      refine lv_icmp_eq (tgt := 30) hx hb dX5_before_18 (by decide) (fun c_18 => ?_) (fun c_18 => ?_)
      · skip
        have c_18 : x = y := c_18
        refine lv_iconst (v := 0) hx hb dX5_before_30 (by decide) ?_
        have hok : ¬ (rc_befOk (fi 0) (ai 6) na x y) := by first | rfl | (simp only [rc_befOk, c_5, c_13, c_18, nn_a, nn_b, if_true, if_false, eq_self, not_true_eq_false, not_false_eq_true, ite_true, ite_false, ↓reduceIte]; done) | (simp [rc_befOk, c_5, c_13, c_18, nn_a, nn_b]; done)
        exact am_zretM hx hb hr hlocks (Or.inl rfl) (by simp only [if_neg hok]; exact hP) hS (by rw [if_neg hok]; first | done | rfl) dX5_before_31
      · skip
        have c_18 : ¬ (x = y) := c_18
        refine lv_aload_n hx hb dX5_before_21 rfl (lv_at hl 0 rfl) ?_
        refine lv_iload_n hx hb dX5_before_22 rfl (lv_at hl 1 rfl) ?_
        refine am_topi ea ?_
        refine lv_iload_n hx hb dX5_before_23 rfl (lv_at hl 2 rfl) ?_
        refine am_callRi (W.runV (As := [.int (nI a), .int y]) (rest := []) ⟨hx, hb, hml, hown, hts⟩ (c_X5_leadsTo l D ad cI cL cZ fi fl ai al a y na hna hnl hq_a) (cwV 2 hts (am_gV (am_in 511 rfl) (am_in 512 rfl) (am_in 13 rfl) (am_in 35 rfl) (am_in 513 rfl)) rfl rfl rfl (by decide +kernel) ⟨Nat.le_of_ble_eq_true rfl, Nat.le_of_ble_eq_true rfl⟩) (am_preVR 5 0 rfl rfl rfl hP hK hN) rfl rfl hl.1 rfl (lv_room (Nat.le_of_ble_eq_true rfl)) dX5_before_24 ⟨Nat.zero_le _, Nat.zero_le _⟩) ?_
        refine lv_if_eq (tgt := 32) hx hb dX5_before_27 (by decide) (fun c_27 => ?_) (fun c_27 => ?_)
        · skip
          have c_27 : (rc_leads (ai 6) na a y) = 0 := c_27
          refine lv_aload_n hx hb dX5_before_32 rfl (lv_at hl 0 rfl) ?_
          refine va_get (D := D) (ci := 5) (v := .ref (ad 6)) (C := RX5) (T := TX5) (N := 31) hx hb hts hin_X5 hown hK hP 0 rfl rfl 6 (by decide) hf_27 (fun _ h9 => h9) rfl dX5_before_33 ?_
          refine lv_bipush (v := 10) hx hb dX5_before_36 (by decide) ?_
          refine lv_iload_n hx hb dX5_before_38 rfl (lv_at hl 2 rfl) ?_
          refine lv_imul hx hb dX5_before_39 ?_
          refine lv_iload_n hx hb dX5_before_40 rfl (lv_at hl 1 rfl) ?_
          refine lv_iadd hx hb dX5_before_41 ?_
          refine lv_iconst (v := 1) hx hb dX5_before_42 (by decide) ?_
          refine am_zast hx hb hK hP hD hS 6 2 rfl rfl (10 * b + a) (by rw [ea, eb]; exact am_x10 b a) (by omega) (by decide) rfl (rm_w ad cI cL cZ fi fl (va_up ai 6 (upd (ai 6) (10 * b + a) 1)) al) rfl dX5_before_43 (fun H locs hP hD hS => ?_)
          refine lv_aload_n hx hb dX5_before_44 rfl (lv_at hl 0 rfl) ?_
          refine lv_iconst (v := 0) hx hb dX5_before_45 (by decide) ?_
          refine va_put (D := D) (ci := 5) (v := .int 0) (ty := .boolean) (C := RX5) (T := TX5) (N := 31) hx hb hts hin_X5 tyX5 tyX5_ok nmX5 hown hK hP hD hS 0 rfl rfl 19 (by decide) hf_97 (fun _ h9 => h9) rfl (by decide +kernel) rfl rfl (Nat.le_of_ble_eq_true rfl) dX5_before_46 (fun H locs hP hD hS => ?_)
          have hP : va_P D vwCl (rm_w ad cI cL cZ (upd fi 3 0) fl (va_up ai 6 (upd (ai 6) (10 * b + a) 1)) al) H := hP
          have hD : va_D A (rm_w ad cI cL cZ (upd fi 3 0) fl (va_up ai 6 (upd (ai 6) (10 * b + a) 1)) al) := am_D hD rfl
          refine lv_iconst (v := 1) hx hb dX5_before_49 (by decide) ?_
          have hok : rc_befOk (fi 0) (ai 6) na x y := by first | rfl | (simp only [rc_befOk, c_5, c_13, c_18, c_27, nn_a, nn_b, if_true, if_false, eq_self, not_true_eq_false, not_false_eq_true, ite_true, ite_false, ↓reduceIte]; done) | (simp [rc_befOk, c_5, c_13, c_18, c_27, nn_a, nn_b]; done)
          exact am_zretM hx hb hr hlocks (Or.inr rfl) (by simp only [if_pos hok, nn_a, nn_b]; exact hP) hS (by rw [if_pos hok]; first | done | rfl) dX5_before_50
        · skip
          have c_27 : ¬ ((rc_leads (ai 6) na a y) = 0) := c_27
          refine lv_iconst (v := 0) hx hb dX5_before_30 (by decide) ?_
          have hok : ¬ (rc_befOk (fi 0) (ai 6) na x y) := by first | rfl | (simp only [rc_befOk, c_5, c_13, c_18, c_27, nn_a, nn_b, if_true, if_false, eq_self, not_true_eq_false, not_false_eq_true, ite_true, ite_false, ↓reduceIte]; done) | (simp [rc_befOk, c_5, c_13, c_18, c_27, nn_a, nn_b]; done)
          exact am_zretM hx hb hr hlocks (Or.inl rfl) (by simp only [if_neg hok]; exact hP) hS (by rw [if_neg hok]; first | done | rfl) dX5_before_31

set_option maxHeartbeats 4000000 in
set_option maxRecDepth 100000 in
theorem c_X5_change (l : Launch) (D : va_G) (ad : Nat → Nat) (cI cL cZ : ClassId) (fi : Nat → Int32) (fl : Nat → Int64) (ai : Nat → Nat → Int32) (al : Nat → Nat → Int64) (A : Nat → Prop) (x : Int32) (y : Int32) (z : Int64) : Met l yX5_change wsX5_change (am_rm 1 21) (va_Pc [.ref (ad 0), .int x, .int y, .long z] (am_M nwL vwCl D A (rm_w ad cI cL cZ fi fl ai al) [(cI, .int), (cL, .long), (cZ, .boolean)])) (am_Mi vwCl D (if rc_movOk x y z then 1 else 0) (rm_w ad cI cL cZ (upd fi 3 (if rc_movOk x y z then 0 else (fi 3))) fl ai (va_up al 7 (if rc_movOk x y z then vp_updL (al 7) ((6 * x + y).toNatClampNeg) z else (al 7)))) A) 0 0 A := by
  refine am_startM (cc := cX5_change) (maxL := 5) (ret := (some .boolean)) (by decide) rfl (Nat.le_of_ble_eq_true rfl) [(0, .ref (ad 0)), (1, .int x), (2, .int y), (3, .long z)] rfl ?_
  intro p e s m below meth c ls hx hb hr hml hown hts hlocks hK hN hD H locs hP hS hl
  have hown : s.vm.findClass RX5 = some m.cls := hown
  have ht := am_ht hts
  have hin_X5 : ∀ w ∈ u_ws RX5 TX5 31, w ∈ wsX5_change := fun w h => List.mem_cons_of_mem _ (am_inX5 w h)
  have hf_30 := ht 437 (.fieldLink RX5 30 "ApartCostModel" "changes" "[J") rfl
  have hf_97 := ht 449 (.fieldLink RX5 97 "ApartCostModel" "isFresh" "Z") rfl
  refine lv_iload_n hx hb dX5_change_0 rfl (lv_at hl 1 rfl) ?_
  refine am_callRi (W.runS (As := [.int x]) (rest := []) ⟨hx, hb, hml, hown, hts⟩ (c_X5_isKind l D _ _ x) (va_cwS 1 hts (am_gS (am_in 497 rfl) (am_in 498 rfl) (am_in 35 rfl) (am_in 499 rfl)) rfl rfl rfl (by decide +kernel) ⟨Nat.le_of_ble_eq_true rfl, Nat.le_of_ble_eq_true rfl⟩) (am_preSR hP hK hN) rfl rfl hl.1 rfl (lv_room (Nat.le_of_ble_eq_true rfl)) dX5_change_1 ⟨Nat.zero_le _, Nat.zero_le _⟩) ?_
  refine lv_if_eq (tgt := 26) hx hb dX5_change_4 (by decide) (fun c_4 => ?_) (fun c_4 => ?_)
  · skip
    have c_4 : (ac_isKind x) = 0 := c_4
    refine lv_iconst (v := 0) hx hb dX5_change_26 (by decide) ?_
    have hok : ¬ (rc_movOk x y z) := by first | rfl | (simp only [rc_movOk, c_4, if_true, if_false, eq_self, not_true_eq_false, not_false_eq_true, ite_true, ite_false, ↓reduceIte]; done) | (simp [rc_movOk, c_4]; done)
    exact am_zretM hx hb hr hlocks (Or.inl rfl) (by simp only [if_neg hok]; exact hP) hS (by rw [if_neg hok]; first | done | rfl) dX5_change_27
  · skip
    have c_4 : ¬ ((ac_isKind x) = 0) := c_4
    refine lv_iload_n hx hb dX5_change_7 rfl (lv_at hl 2 rfl) ?_
    refine am_callRi (W.runS (As := [.int y]) (rest := []) ⟨hx, hb, hml, hown, hts⟩ (c_X5_isKind l D _ _ y) (va_cwS 1 hts (am_gS (am_in 497 rfl) (am_in 498 rfl) (am_in 35 rfl) (am_in 499 rfl)) rfl rfl rfl (by decide +kernel) ⟨Nat.le_of_ble_eq_true rfl, Nat.le_of_ble_eq_true rfl⟩) (am_preSR hP hK hN) rfl rfl hl.1 rfl (lv_room (Nat.le_of_ble_eq_true rfl)) dX5_change_8 ⟨Nat.zero_le _, Nat.zero_le _⟩) ?_
    refine lv_if_eq (tgt := 26) hx hb dX5_change_11 (by decide) (fun c_11 => ?_) (fun c_11 => ?_)
    · skip
      have c_11 : (ac_isKind y) = 0 := c_11
      refine lv_iconst (v := 0) hx hb dX5_change_26 (by decide) ?_
      have hok : ¬ (rc_movOk x y z) := by first | rfl | (simp only [rc_movOk, c_4, c_11, if_true, if_false, eq_self, not_true_eq_false, not_false_eq_true, ite_true, ite_false, ↓reduceIte]; done) | (simp [rc_movOk, c_4, c_11]; done)
      exact am_zretM hx hb hr hlocks (Or.inl rfl) (by simp only [if_neg hok]; exact hP) hS (by rw [if_neg hok]; first | done | rfl) dX5_change_27
    · skip
      have c_11 : ¬ ((ac_isKind y) = 0) := c_11
      refine lv_iload_n hx hb dX5_change_14 rfl (lv_at hl 1 rfl) ?_
      refine lv_iload_n hx hb dX5_change_15 rfl (lv_at hl 2 rfl) ?_
      refine lv_icmp_eq (tgt := 26) hx hb dX5_change_16 (by decide) (fun c_16 => ?_) (fun c_16 => ?_)
      · skip
        have c_16 : x = y := c_16
        refine lv_iconst (v := 0) hx hb dX5_change_26 (by decide) ?_
        have hok : ¬ (rc_movOk x y z) := by first | rfl | (simp only [rc_movOk, c_4, c_11, c_16, if_true, if_false, eq_self, not_true_eq_false, not_false_eq_true, ite_true, ite_false, ↓reduceIte]; done) | (simp [rc_movOk, c_4, c_11, c_16]; done)
        exact am_zretM hx hb hr hlocks (Or.inl rfl) (by simp only [if_neg hok]; exact hP) hS (by rw [if_neg hok]; first | done | rfl) dX5_change_27
      · skip
        have c_16 : ¬ (x = y) := c_16
        refine lv_lload_n hx hb dX5_change_19 rfl (lv_at hl 3 rfl) ?_
        refine am_callRi (W.runS (As := [.long z]) (rest := []) ⟨hx, hb, hml, hown, hts⟩ (c_X5_isCents l D _ _ z) (va_cwS 1 hts (am_gS (am_in 500 rfl) (am_in 501 rfl) (am_in 35 rfl) (am_in 502 rfl)) rfl rfl rfl (by decide +kernel) ⟨Nat.le_of_ble_eq_true rfl, Nat.le_of_ble_eq_true rfl⟩) (am_preSR hP hK hN) rfl rfl hl.1 rfl (lv_room (Nat.le_of_ble_eq_true rfl)) dX5_change_20 ⟨Nat.zero_le _, Nat.zero_le _⟩) ?_
        refine lv_if_ne (tgt := 28) hx hb dX5_change_23 (by decide) (fun c_23 => ?_) (fun c_23 => ?_)
        · skip
          have c_23 : ¬ (ac_isPrice z) = 0 := c_23
          refine lv_aload_n hx hb dX5_change_28 rfl (lv_at hl 0 rfl) ?_
          refine va_get (D := D) (ci := 5) (v := .ref (ad 7)) (C := RX5) (T := TX5) (N := 31) hx hb hts hin_X5 hown hK hP 0 rfl rfl 7 (by decide) hf_30 (fun _ h9 => h9) rfl dX5_change_29 ?_
          refine lv_bipush (v := 6) hx hb dX5_change_32 (by decide) ?_
          refine lv_iload_n hx hb dX5_change_34 rfl (lv_at hl 1 rfl) ?_
          refine lv_imul hx hb dX5_change_35 ?_
          refine lv_iload_n hx hb dX5_change_36 rfl (lv_at hl 2 rfl) ?_
          refine lv_iadd hx hb dX5_change_37 ?_
          refine lv_lload_n hx hb dX5_change_38 rfl (lv_at hl 3 rfl) ?_
          refine am_last hx hb hK hP hD hS 7 1 rfl rfl ((6 * x + y).toNatClampNeg) (am_jx6 (am_isKind c_4) (am_isKind c_11)).1 (am_jx6 (am_isKind c_4) (am_isKind c_11)).2 (by decide) (rm_w ad cI cL cZ fi fl ai (va_up al 7 (vp_updL (al 7) ((6 * x + y).toNatClampNeg) z))) rfl dX5_change_39 (fun H locs hP hD hS => ?_)
          refine lv_aload_n hx hb dX5_change_40 rfl (lv_at hl 0 rfl) ?_
          refine lv_iconst (v := 0) hx hb dX5_change_41 (by decide) ?_
          refine va_put (D := D) (ci := 5) (v := .int 0) (ty := .boolean) (C := RX5) (T := TX5) (N := 31) hx hb hts hin_X5 tyX5 tyX5_ok nmX5 hown hK hP hD hS 0 rfl rfl 19 (by decide) hf_97 (fun _ h9 => h9) rfl (by decide +kernel) rfl rfl (Nat.le_of_ble_eq_true rfl) dX5_change_42 (fun H locs hP hD hS => ?_)
          have hP : va_P D vwCl (rm_w ad cI cL cZ (upd fi 3 0) fl ai (va_up al 7 (vp_updL (al 7) ((6 * x + y).toNatClampNeg) z))) H := hP
          have hD : va_D A (rm_w ad cI cL cZ (upd fi 3 0) fl ai (va_up al 7 (vp_updL (al 7) ((6 * x + y).toNatClampNeg) z))) := am_D hD rfl
          refine lv_iconst (v := 1) hx hb dX5_change_45 (by decide) ?_
          have hok : rc_movOk x y z := by first | rfl | (simp only [rc_movOk, c_4, c_11, c_16, c_23, if_true, if_false, eq_self, not_true_eq_false, not_false_eq_true, ite_true, ite_false, ↓reduceIte]; done) | (simp [rc_movOk, c_4, c_11, c_16, c_23]; done)
          exact am_zretM hx hb hr hlocks (Or.inr rfl) (by simp only [if_pos hok]; exact hP) hS (by rw [if_pos hok]; first | done | rfl) dX5_change_46
        · skip
          have c_23 : (ac_isPrice z) = 0 := c_23
          refine lv_iconst (v := 0) hx hb dX5_change_26 (by decide) ?_
          have hok : ¬ (rc_movOk x y z) := by first | rfl | (simp only [rc_movOk, c_4, c_11, c_16, c_23, if_true, if_false, eq_self, not_true_eq_false, not_false_eq_true, ite_true, ite_false, ↓reduceIte]; done) | (simp [rc_movOk, c_4, c_11, c_16, c_23]; done)
          exact am_zretM hx hb hr hlocks (Or.inl rfl) (by simp only [if_neg hok]; exact hP) hS (by rw [if_neg hok]; first | done | rfl) dX5_change_27

set_option maxHeartbeats 4000000 in
set_option maxRecDepth 100000 in
theorem c_X5_turn (l : Launch) (D : va_G) (ad : Nat → Nat) (cI cL cZ : ClassId) (fi : Nat → Int32) (fl : Nat → Int64) (ai : Nat → Nat → Int32) (al : Nat → Nat → Int64) (A : Nat → Prop) (x : Int32) (y : Int32) (z : Int64) : Met l yX5_turn wsX5_turn (am_rm 1 21) (va_Pc [.ref (ad 0), .int x, .int y, .long z] (am_M nwL vwCl D A (rm_w ad cI cL cZ fi fl ai al) [(cI, .int), (cL, .long), (cZ, .boolean)])) (am_Mi vwCl D (if rc_movOk x y z then 1 else 0) (rm_w ad cI cL cZ (upd fi 3 (if rc_movOk x y z then 0 else (fi 3))) fl ai (va_up al 8 (if rc_movOk x y z then vp_updL (al 8) ((6 * x + y).toNatClampNeg) z else (al 8)))) A) 0 0 A := by
  refine am_startM (cc := cX5_turn) (maxL := 5) (ret := (some .boolean)) (by decide) rfl (Nat.le_of_ble_eq_true rfl) [(0, .ref (ad 0)), (1, .int x), (2, .int y), (3, .long z)] rfl ?_
  intro p e s m below meth c ls hx hb hr hml hown hts hlocks hK hN hD H locs hP hS hl
  have hown : s.vm.findClass RX5 = some m.cls := hown
  have ht := am_ht hts
  have hin_X5 : ∀ w ∈ u_ws RX5 TX5 31, w ∈ wsX5_turn := fun w h => List.mem_cons_of_mem _ (am_inX5 w h)
  have hf_33 := ht 438 (.fieldLink RX5 33 "ApartCostModel" "turns" "[J") rfl
  have hf_97 := ht 449 (.fieldLink RX5 97 "ApartCostModel" "isFresh" "Z") rfl
  refine lv_iload_n hx hb dX5_turn_0 rfl (lv_at hl 1 rfl) ?_
  refine am_callRi (W.runS (As := [.int x]) (rest := []) ⟨hx, hb, hml, hown, hts⟩ (c_X5_isKind l D _ _ x) (va_cwS 1 hts (am_gS (am_in 497 rfl) (am_in 498 rfl) (am_in 35 rfl) (am_in 499 rfl)) rfl rfl rfl (by decide +kernel) ⟨Nat.le_of_ble_eq_true rfl, Nat.le_of_ble_eq_true rfl⟩) (am_preSR hP hK hN) rfl rfl hl.1 rfl (lv_room (Nat.le_of_ble_eq_true rfl)) dX5_turn_1 ⟨Nat.zero_le _, Nat.zero_le _⟩) ?_
  refine lv_if_eq (tgt := 26) hx hb dX5_turn_4 (by decide) (fun c_4 => ?_) (fun c_4 => ?_)
  · skip
    have c_4 : (ac_isKind x) = 0 := c_4
    refine lv_iconst (v := 0) hx hb dX5_turn_26 (by decide) ?_
    have hok : ¬ (rc_movOk x y z) := by first | rfl | (simp only [rc_movOk, c_4, if_true, if_false, eq_self, not_true_eq_false, not_false_eq_true, ite_true, ite_false, ↓reduceIte]; done) | (simp [rc_movOk, c_4]; done)
    exact am_zretM hx hb hr hlocks (Or.inl rfl) (by simp only [if_neg hok]; exact hP) hS (by rw [if_neg hok]; first | done | rfl) dX5_turn_27
  · skip
    have c_4 : ¬ ((ac_isKind x) = 0) := c_4
    refine lv_iload_n hx hb dX5_turn_7 rfl (lv_at hl 2 rfl) ?_
    refine am_callRi (W.runS (As := [.int y]) (rest := []) ⟨hx, hb, hml, hown, hts⟩ (c_X5_isKind l D _ _ y) (va_cwS 1 hts (am_gS (am_in 497 rfl) (am_in 498 rfl) (am_in 35 rfl) (am_in 499 rfl)) rfl rfl rfl (by decide +kernel) ⟨Nat.le_of_ble_eq_true rfl, Nat.le_of_ble_eq_true rfl⟩) (am_preSR hP hK hN) rfl rfl hl.1 rfl (lv_room (Nat.le_of_ble_eq_true rfl)) dX5_turn_8 ⟨Nat.zero_le _, Nat.zero_le _⟩) ?_
    refine lv_if_eq (tgt := 26) hx hb dX5_turn_11 (by decide) (fun c_11 => ?_) (fun c_11 => ?_)
    · skip
      have c_11 : (ac_isKind y) = 0 := c_11
      refine lv_iconst (v := 0) hx hb dX5_turn_26 (by decide) ?_
      have hok : ¬ (rc_movOk x y z) := by first | rfl | (simp only [rc_movOk, c_4, c_11, if_true, if_false, eq_self, not_true_eq_false, not_false_eq_true, ite_true, ite_false, ↓reduceIte]; done) | (simp [rc_movOk, c_4, c_11]; done)
      exact am_zretM hx hb hr hlocks (Or.inl rfl) (by simp only [if_neg hok]; exact hP) hS (by rw [if_neg hok]; first | done | rfl) dX5_turn_27
    · skip
      have c_11 : ¬ ((ac_isKind y) = 0) := c_11
      refine lv_iload_n hx hb dX5_turn_14 rfl (lv_at hl 1 rfl) ?_
      refine lv_iload_n hx hb dX5_turn_15 rfl (lv_at hl 2 rfl) ?_
      refine lv_icmp_eq (tgt := 26) hx hb dX5_turn_16 (by decide) (fun c_16 => ?_) (fun c_16 => ?_)
      · skip
        have c_16 : x = y := c_16
        refine lv_iconst (v := 0) hx hb dX5_turn_26 (by decide) ?_
        have hok : ¬ (rc_movOk x y z) := by first | rfl | (simp only [rc_movOk, c_4, c_11, c_16, if_true, if_false, eq_self, not_true_eq_false, not_false_eq_true, ite_true, ite_false, ↓reduceIte]; done) | (simp [rc_movOk, c_4, c_11, c_16]; done)
        exact am_zretM hx hb hr hlocks (Or.inl rfl) (by simp only [if_neg hok]; exact hP) hS (by rw [if_neg hok]; first | done | rfl) dX5_turn_27
      · skip
        have c_16 : ¬ (x = y) := c_16
        refine lv_lload_n hx hb dX5_turn_19 rfl (lv_at hl 3 rfl) ?_
        refine am_callRi (W.runS (As := [.long z]) (rest := []) ⟨hx, hb, hml, hown, hts⟩ (c_X5_isCents l D _ _ z) (va_cwS 1 hts (am_gS (am_in 500 rfl) (am_in 501 rfl) (am_in 35 rfl) (am_in 502 rfl)) rfl rfl rfl (by decide +kernel) ⟨Nat.le_of_ble_eq_true rfl, Nat.le_of_ble_eq_true rfl⟩) (am_preSR hP hK hN) rfl rfl hl.1 rfl (lv_room (Nat.le_of_ble_eq_true rfl)) dX5_turn_20 ⟨Nat.zero_le _, Nat.zero_le _⟩) ?_
        refine lv_if_ne (tgt := 28) hx hb dX5_turn_23 (by decide) (fun c_23 => ?_) (fun c_23 => ?_)
        · skip
          have c_23 : ¬ (ac_isPrice z) = 0 := c_23
          refine lv_aload_n hx hb dX5_turn_28 rfl (lv_at hl 0 rfl) ?_
          refine va_get (D := D) (ci := 5) (v := .ref (ad 8)) (C := RX5) (T := TX5) (N := 31) hx hb hts hin_X5 hown hK hP 0 rfl rfl 8 (by decide) hf_33 (fun _ h9 => h9) rfl dX5_turn_29 ?_
          refine lv_bipush (v := 6) hx hb dX5_turn_32 (by decide) ?_
          refine lv_iload_n hx hb dX5_turn_34 rfl (lv_at hl 1 rfl) ?_
          refine lv_imul hx hb dX5_turn_35 ?_
          refine lv_iload_n hx hb dX5_turn_36 rfl (lv_at hl 2 rfl) ?_
          refine lv_iadd hx hb dX5_turn_37 ?_
          refine lv_lload_n hx hb dX5_turn_38 rfl (lv_at hl 3 rfl) ?_
          refine am_last hx hb hK hP hD hS 8 1 rfl rfl ((6 * x + y).toNatClampNeg) (am_jx6 (am_isKind c_4) (am_isKind c_11)).1 (am_jx6 (am_isKind c_4) (am_isKind c_11)).2 (by decide) (rm_w ad cI cL cZ fi fl ai (va_up al 8 (vp_updL (al 8) ((6 * x + y).toNatClampNeg) z))) rfl dX5_turn_39 (fun H locs hP hD hS => ?_)
          refine lv_aload_n hx hb dX5_turn_40 rfl (lv_at hl 0 rfl) ?_
          refine lv_iconst (v := 0) hx hb dX5_turn_41 (by decide) ?_
          refine va_put (D := D) (ci := 5) (v := .int 0) (ty := .boolean) (C := RX5) (T := TX5) (N := 31) hx hb hts hin_X5 tyX5 tyX5_ok nmX5 hown hK hP hD hS 0 rfl rfl 19 (by decide) hf_97 (fun _ h9 => h9) rfl (by decide +kernel) rfl rfl (Nat.le_of_ble_eq_true rfl) dX5_turn_42 (fun H locs hP hD hS => ?_)
          have hP : va_P D vwCl (rm_w ad cI cL cZ (upd fi 3 0) fl ai (va_up al 8 (vp_updL (al 8) ((6 * x + y).toNatClampNeg) z))) H := hP
          have hD : va_D A (rm_w ad cI cL cZ (upd fi 3 0) fl ai (va_up al 8 (vp_updL (al 8) ((6 * x + y).toNatClampNeg) z))) := am_D hD rfl
          refine lv_iconst (v := 1) hx hb dX5_turn_45 (by decide) ?_
          have hok : rc_movOk x y z := by first | rfl | (simp only [rc_movOk, c_4, c_11, c_16, c_23, if_true, if_false, eq_self, not_true_eq_false, not_false_eq_true, ite_true, ite_false, ↓reduceIte]; done) | (simp [rc_movOk, c_4, c_11, c_16, c_23]; done)
          exact am_zretM hx hb hr hlocks (Or.inr rfl) (by simp only [if_pos hok]; exact hP) hS (by rw [if_pos hok]; first | done | rfl) dX5_turn_46
        · skip
          have c_23 : (ac_isPrice z) = 0 := c_23
          refine lv_iconst (v := 0) hx hb dX5_turn_26 (by decide) ?_
          have hok : ¬ (rc_movOk x y z) := by first | rfl | (simp only [rc_movOk, c_4, c_11, c_16, c_23, if_true, if_false, eq_self, not_true_eq_false, not_false_eq_true, ite_true, ite_false, ↓reduceIte]; done) | (simp [rc_movOk, c_4, c_11, c_16, c_23]; done)
          exact am_zretM hx hb hr hlocks (Or.inl rfl) (by simp only [if_neg hok]; exact hP) hS (by rw [if_neg hok]; first | done | rfl) dX5_turn_27

set_option maxHeartbeats 4000000 in
set_option maxRecDepth 100000 in
theorem c_X5_worth (l : Launch) (D : va_G) (ad : Nat → Nat) (cI cL cZ : ClassId) (fi : Nat → Int32) (fl : Nat → Int64) (ai : Nat → Nat → Int32) (al : Nat → Nat → Int64) (A : Nat → Prop) (x : Int32) (z : Int64) : Met l yX5_worth wsX5_worth (am_rm 1 21) (va_Pc [.ref (ad 0), .int x, .long z] (am_M nwL vwCl D A (rm_w ad cI cL cZ fi fl ai al) [(cI, .int), (cL, .long), (cZ, .boolean)])) (am_Mi vwCl D (if ac_worOk x z then 1 else 0) (rm_w ad cI cL cZ (upd fi 3 (if ac_worOk x z then 0 else (fi 3))) fl ai (va_up al 9 (if ac_worOk x z then vp_updL (al 9) x.toNatClampNeg z else (al 9)))) A) 0 0 A := by
  refine am_startM (cc := cX5_worth) (maxL := 4) (ret := (some .boolean)) (by decide) rfl (Nat.le_of_ble_eq_true rfl) [(0, .ref (ad 0)), (1, .int x), (2, .long z)] rfl ?_
  intro p e s m below meth c ls hx hb hr hml hown hts hlocks hK hN hD H locs hP hS hl
  have hown : s.vm.findClass RX5 = some m.cls := hown
  have ht := am_ht hts
  have hin_X5 : ∀ w ∈ u_ws RX5 TX5 31, w ∈ wsX5_worth := fun w h => List.mem_cons_of_mem _ (am_inX5 w h)
  have hf_36 := ht 439 (.fieldLink RX5 36 "ApartCostModel" "worths" "[J") rfl
  have hf_97 := ht 449 (.fieldLink RX5 97 "ApartCostModel" "isFresh" "Z") rfl
  refine lv_iload_n hx hb dX5_worth_0 rfl (lv_at hl 1 rfl) ?_
  refine am_callRi (W.runS (As := [.int x]) (rest := []) ⟨hx, hb, hml, hown, hts⟩ (c_X5_isPart l D _ _ x) (va_cwS 1 hts (am_gS (am_in 526 rfl) (am_in 527 rfl) (am_in 35 rfl) (am_in 528 rfl)) rfl rfl rfl (by decide +kernel) ⟨Nat.le_of_ble_eq_true rfl, Nat.le_of_ble_eq_true rfl⟩) (am_preSR hP hK hN) rfl rfl hl.1 rfl (lv_room (Nat.le_of_ble_eq_true rfl)) dX5_worth_1 ⟨Nat.zero_le _, Nat.zero_le _⟩) ?_
  refine lv_if_eq (tgt := 14) hx hb dX5_worth_4 (by decide) (fun c_4 => ?_) (fun c_4 => ?_)
  · skip
    have c_4 : (ac_isPart x) = 0 := c_4
    refine lv_iconst (v := 0) hx hb dX5_worth_14 (by decide) ?_
    have hok : ¬ (ac_worOk x z) := by first | rfl | (simp only [ac_worOk, c_4, if_true, if_false, eq_self, not_true_eq_false, not_false_eq_true, ite_true, ite_false, ↓reduceIte]; done) | (simp [ac_worOk, c_4]; done)
    exact am_zretM hx hb hr hlocks (Or.inl rfl) (by simp only [if_neg hok]; exact hP) hS (by rw [if_neg hok]; first | done | rfl) dX5_worth_15
  · skip
    have c_4 : ¬ ((ac_isPart x) = 0) := c_4
    obtain ⟨a, hq_a, ea⟩ : ∃ z, z < 12 ∧ x = nI z := am_isPart c_4
    have nn_a : x.toNatClampNeg = a := by rw [ea]; exact nI_clamp (by omega)
    have mm_a : (nI a).toNatClampNeg = a := nI_clamp (by omega)
    refine lv_lload_n hx hb dX5_worth_7 rfl (lv_at hl 2 rfl) ?_
    refine am_callRi (W.runS (As := [.long z]) (rest := []) ⟨hx, hb, hml, hown, hts⟩ (c_X5_isWorth l D _ _ z) (va_cwS 1 hts (am_gS (am_in 529 rfl) (am_in 530 rfl) (am_in 35 rfl) (am_in 531 rfl)) rfl rfl rfl (by decide +kernel) ⟨Nat.le_of_ble_eq_true rfl, Nat.le_of_ble_eq_true rfl⟩) (am_preSR hP hK hN) rfl rfl hl.1 rfl (lv_room (Nat.le_of_ble_eq_true rfl)) dX5_worth_8 ⟨Nat.zero_le _, Nat.zero_le _⟩) ?_
    refine lv_if_ne (tgt := 16) hx hb dX5_worth_11 (by decide) (fun c_11 => ?_) (fun c_11 => ?_)
    · skip
      have c_11 : ¬ (ac_isWorth z) = 0 := c_11
      refine lv_aload_n hx hb dX5_worth_16 rfl (lv_at hl 0 rfl) ?_
      refine va_get (D := D) (ci := 5) (v := .ref (ad 9)) (C := RX5) (T := TX5) (N := 31) hx hb hts hin_X5 hown hK hP 0 rfl rfl 9 (by decide) hf_36 (fun _ h9 => h9) rfl dX5_worth_17 ?_
      refine lv_iload_n hx hb dX5_worth_20 rfl (lv_at hl 1 rfl) ?_
      refine lv_lload_n hx hb dX5_worth_21 rfl (lv_at hl 2 rfl) ?_
      refine am_last hx hb hK hP hD hS 9 1 rfl rfl a ea (by omega) (by decide) (rm_w ad cI cL cZ fi fl ai (va_up al 9 (vp_updL (al 9) a z))) rfl dX5_worth_22 (fun H locs hP hD hS => ?_)
      refine lv_aload_n hx hb dX5_worth_23 rfl (lv_at hl 0 rfl) ?_
      refine lv_iconst (v := 0) hx hb dX5_worth_24 (by decide) ?_
      refine va_put (D := D) (ci := 5) (v := .int 0) (ty := .boolean) (C := RX5) (T := TX5) (N := 31) hx hb hts hin_X5 tyX5 tyX5_ok nmX5 hown hK hP hD hS 0 rfl rfl 19 (by decide) hf_97 (fun _ h9 => h9) rfl (by decide +kernel) rfl rfl (Nat.le_of_ble_eq_true rfl) dX5_worth_25 (fun H locs hP hD hS => ?_)
      have hP : va_P D vwCl (rm_w ad cI cL cZ (upd fi 3 0) fl ai (va_up al 9 (vp_updL (al 9) a z))) H := hP
      have hD : va_D A (rm_w ad cI cL cZ (upd fi 3 0) fl ai (va_up al 9 (vp_updL (al 9) a z))) := am_D hD rfl
      refine lv_iconst (v := 1) hx hb dX5_worth_28 (by decide) ?_
      have hok : ac_worOk x z := by first | rfl | (simp only [ac_worOk, c_4, c_11, nn_a, if_true, if_false, eq_self, not_true_eq_false, not_false_eq_true, ite_true, ite_false, ↓reduceIte]; done) | (simp [ac_worOk, c_4, c_11, nn_a]; done)
      exact am_zretM hx hb hr hlocks (Or.inr rfl) (by simp only [if_pos hok, nn_a]; exact hP) hS (by rw [if_pos hok]; first | done | rfl) dX5_worth_29
    · skip
      have c_11 : (ac_isWorth z) = 0 := c_11
      refine lv_iconst (v := 0) hx hb dX5_worth_14 (by decide) ?_
      have hok : ¬ (ac_worOk x z) := by first | rfl | (simp only [ac_worOk, c_4, c_11, nn_a, if_true, if_false, eq_self, not_true_eq_false, not_false_eq_true, ite_true, ite_false, ↓reduceIte]; done) | (simp [ac_worOk, c_4, c_11, nn_a]; done)
      exact am_zretM hx hb hr hlocks (Or.inl rfl) (by simp only [if_neg hok]; exact hP) hS (by rw [if_neg hok]; first | done | rfl) dX5_worth_15

set_option maxHeartbeats 4000000 in
set_option maxRecDepth 100000 in
theorem c_X5_rest (l : Launch) (D : va_G) (ad : Nat → Nat) (cI cL cZ : ClassId) (fi : Nat → Int32) (fl : Nat → Int64) (ai : Nat → Nat → Int32) (al : Nat → Nat → Int64) (A : Nat → Prop) (v : Int64) (z : Int64) (nr : Nat) (hnr : fi 1 = nI nr) (hnrl : nr ≤ 16) : Met l yX5_rest wsX5_rest (am_rm 1 21) (va_Pc [.ref (ad 0), .long v, .long z] (am_M nwL vwCl D A (rm_w ad cI cL cZ fi fl ai al) [(cI, .int), (cL, .long), (cZ, .boolean)])) (am_Mi vwCl D (if rc_rstOk v z (rc_pl (ai 12) v nr 0) then 1 else 0) (rm_w ad cI cL cZ (upd (upd fi 1 (if rc_rstOk v z (rc_pl (ai 12) v nr 0) then if rc_pl (ai 12) v nr 0 = nr then (fi 1) + 1 else (fi 1) else (fi 1))) 3 (if rc_rstOk v z (rc_pl (ai 12) v nr 0) then 0 else (fi 3))) fl (va_up ai 12 (if rc_rstOk v z (rc_pl (ai 12) v nr 0) then upd (ai 12) (rc_pl (ai 12) v nr 0) v.toInt32 else (ai 12))) (va_up al 13 (if rc_rstOk v z (rc_pl (ai 12) v nr 0) then vp_updL (al 13) (rc_pl (ai 12) v nr 0) z else (al 13)))) A) 0 0 A := by
  refine am_startM (cc := cX5_rest) (maxL := 6) (ret := (some .boolean)) (by decide) rfl (Nat.le_of_ble_eq_true rfl) [(0, .ref (ad 0)), (1, .long v), (3, .long z)] rfl ?_
  intro p e s m below meth c ls hx hb hr hml hown hts hlocks hK hN hD H locs hP hS hl
  have hown : s.vm.findClass RX5 = some m.cls := hown
  have ht := am_ht hts
  have hin_X5 : ∀ w ∈ u_ws RX5 TX5 31, w ∈ wsX5_rest := fun w h => List.mem_cons_of_mem _ (am_inX5 w h)
  have hf_116 := ht 444 (.fieldLink RX5 116 "ApartCostModel" "restCount" "I") rfl
  have hf_45 := ht 442 (.fieldLink RX5 45 "ApartCostModel" "rests" "[I") rfl
  have hf_48 := ht 443 (.fieldLink RX5 48 "ApartCostModel" "restWorths" "[J") rfl
  have hf_97 := ht 449 (.fieldLink RX5 97 "ApartCostModel" "isFresh" "Z") rfl
  refine lv_lload_n hx hb dX5_rest_0 rfl (lv_at hl 1 rfl) ?_
  refine lv_lconst (v := 0) hx hb dX5_rest_1 (by decide) ?_
  refine W.lcmp hx hb dX5_rest_2 ?_
  refine lv_if_lt (tgt := 21) hx hb dX5_rest_3 (by decide) (fun c_3 => ?_) (fun c_3 => ?_)
  · skip
    have c_3 : v < 0 := (lg_cmp_lt _ _).mp c_3
    refine lv_iconst (v := 0) hx hb dX5_rest_21 (by decide) ?_
    have hok : ¬ (rc_rstOk v z (rc_pl (ai 12) v nr 0)) := by first | rfl | (simp only [rc_rstOk, c_3, if_true, if_false, eq_self, not_true_eq_false, not_false_eq_true, ite_true, ite_false, ↓reduceIte]; done) | (simp [rc_rstOk, c_3]; done)
    exact am_zretM hx hb hr hlocks (Or.inl rfl) (by simp only [if_neg hok]; exact hP) hS (by rw [if_neg hok]; first | done | rfl) dX5_rest_22
  · skip
    have c_3 : ¬ (v < 0) := (fun z => c_3 ((lg_cmp_lt _ _).mpr z))
    refine lv_lload_n hx hb dX5_rest_6 rfl (lv_at hl 1 rfl) ?_
    refine lv_ldc2 (v := 4095) hx hb hown (ht 537 _ rfl) dX5_rest_7 ?_
    refine W.lcmp hx hb dX5_rest_10 ?_
    refine lv_if_gt (tgt := 21) hx hb dX5_rest_11 (by decide) (fun c_11 => ?_) (fun c_11 => ?_)
    · skip
      have c_11 : 4095 < v := (lg_cmp_gt _ _).mp c_11
      refine lv_iconst (v := 0) hx hb dX5_rest_21 (by decide) ?_
      have hok : ¬ (rc_rstOk v z (rc_pl (ai 12) v nr 0)) := by first | rfl | (simp only [rc_rstOk, c_3, c_11, if_true, if_false, eq_self, not_true_eq_false, not_false_eq_true, ite_true, ite_false, ↓reduceIte]; done) | (simp [rc_rstOk, c_3, c_11]; done)
      exact am_zretM hx hb hr hlocks (Or.inl rfl) (by simp only [if_neg hok]; exact hP) hS (by rw [if_neg hok]; first | done | rfl) dX5_rest_22
    · skip
      have c_11 : ¬ (4095 < v) := (fun z => c_11 ((lg_cmp_gt _ _).mpr z))
      refine lv_lload_n hx hb dX5_rest_14 rfl (lv_at hl 2 rfl) ?_
      refine am_callRi (W.runS (As := [.long z]) (rest := []) ⟨hx, hb, hml, hown, hts⟩ (c_X5_isWorth l D _ _ z) (va_cwS 1 hts (am_gS (am_in 529 rfl) (am_in 530 rfl) (am_in 35 rfl) (am_in 531 rfl)) rfl rfl rfl (by decide +kernel) ⟨Nat.le_of_ble_eq_true rfl, Nat.le_of_ble_eq_true rfl⟩) (am_preSR hP hK hN) rfl rfl hl.1 rfl (lv_room (Nat.le_of_ble_eq_true rfl)) dX5_rest_15 ⟨Nat.zero_le _, Nat.zero_le _⟩) ?_
      refine lv_if_ne (tgt := 23) hx hb dX5_rest_18 (by decide) (fun c_18 => ?_) (fun c_18 => ?_)
      · skip
        have c_18 : ¬ (ac_isWorth z) = 0 := c_18
        refine lv_iconst (v := 0) hx hb dX5_rest_23 (by decide) ?_
        refine lv_istore (lv' := [(5, .int 0), (0, .ref (ad 0)), (1, .long v), (3, .long z)]) hx hb dX5_rest_24 hl (by decide) rfl (fun ls hl => ?_)
        refine am_loop (σ := Nat) (fun q n9 H locs ls => n9 = nr - q ∧ q ≤ nr ∧ rc_pl (ai 12) v nr 0 = rc_pl (ai 12) v (nr - q) q ∧ va_P D vwCl (rm_w ad cI cL cZ fi fl ai al) H ∧ va_S A s.heap H locs ∧ lv_has ls 6 [(0, .ref (ad 0)), (1, .long v), (3, .long z), (5, .int (nI q))]) ?_ 0 (nr - 0) H locs ls ⟨rfl, (by omega), rfl, hP, hS, lv_sub hl [1, 2, 3, 0] rfl⟩
        rintro k n9 H locs ls ⟨hn_26, hk, hm, hP, hS, hl⟩ ih_26
        have hD : va_D A (rm_w ad cI cL cZ fi fl ai al) := am_D hD rfl
        refine lv_iload hx hb dX5_rest_26 (lv_at hl 3 rfl) ?_
        refine lv_aload_n hx hb dX5_rest_28 rfl (lv_at hl 0 rfl) ?_
        refine va_get (D := D) (ci := 5) (v := .int (fi 1)) (C := RX5) (T := TX5) (N := 31) hx hb hts hin_X5 hown hK hP 0 rfl rfl 14 (by decide) hf_116 (fun _ h9 => h9) rfl dX5_rest_29 ?_
        refine lv_icmp_ge (tgt := 54) hx hb dX5_rest_32 (by decide) (fun c_32 => ?_) (fun c_32 => ?_)
        · skip
          have c_32 : (fi 1) ≤ (nI k) := c_32
          have hke : nr ≤ k := (am_ge hnr (by omega) (by omega)).mp c_32
          have hpk : rc_pl (ai 12) v nr 0 = k := by rw [hm, show nr - k = 0 by omega, rc_pl]
          subst hpk
          have hpb := (rc_pl_le (ai 12) v nr 0).2
          refine lv_iload hx hb dX5_rest_54 (lv_at hl 3 rfl) ?_
          refine lv_bipush (v := 16) hx hb dX5_rest_56 (by decide) ?_
          refine lv_icmp_ne (tgt := 63) hx hb dX5_rest_58 (by decide) (fun c_58 => ?_) (fun c_58 => ?_)
          · skip
            have c_58 : ¬ (nI (rc_pl (ai 12) v nr 0)) = 16 := c_58
            have hp16 : ¬ rc_pl (ai 12) v nr 0 = 16 := fun z => c_58 (by rw [z]; rfl)
            refine lv_aload_n hx hb dX5_rest_63 rfl (lv_at hl 0 rfl) ?_
            refine va_get (D := D) (ci := 5) (v := .ref (ad 12)) (C := RX5) (T := TX5) (N := 31) hx hb hts hin_X5 hown hK hP 0 rfl rfl 12 (by decide) hf_45 (fun _ h9 => h9) rfl dX5_rest_64 ?_
            refine lv_iload hx hb dX5_rest_67 (lv_at hl 3 rfl) ?_
            refine lv_lload_n hx hb dX5_rest_69 rfl (lv_at hl 1 rfl) ?_
            refine lv_l2i (v := v.toInt32) hx hb dX5_rest_70 rfl ?_
            refine am_iast hx hb hK hP hD hS 12 0 rfl rfl (rc_pl (ai 12) v nr 0) rfl (by omega) (by decide) (rm_w ad cI cL cZ fi fl (va_up ai 12 (upd (ai 12) (rc_pl (ai 12) v nr 0) v.toInt32)) al) rfl dX5_rest_71 (fun H locs hP hD hS => ?_)
            refine lv_aload_n hx hb dX5_rest_72 rfl (lv_at hl 0 rfl) ?_
            refine va_get (D := D) (ci := 5) (v := .ref (ad 13)) (C := RX5) (T := TX5) (N := 31) hx hb hts hin_X5 hown hK hP 0 rfl rfl 13 (by decide) hf_48 (fun _ h9 => h9) rfl dX5_rest_73 ?_
            refine lv_iload hx hb dX5_rest_76 (lv_at hl 3 rfl) ?_
            refine lv_lload_n hx hb dX5_rest_78 rfl (lv_at hl 2 rfl) ?_
            refine am_last hx hb hK hP hD hS 13 1 rfl rfl (rc_pl (ai 12) v nr 0) rfl (by omega) (by decide) (rm_w ad cI cL cZ fi fl (va_up ai 12 (upd (ai 12) (rc_pl (ai 12) v nr 0) v.toInt32)) (va_up al 13 (vp_updL (al 13) (rc_pl (ai 12) v nr 0) z))) rfl dX5_rest_79 (fun H locs hP hD hS => ?_)
            refine lv_aload_n hx hb dX5_rest_80 rfl (lv_at hl 0 rfl) ?_
            refine lv_iload hx hb dX5_rest_81 (lv_at hl 3 rfl) ?_
            refine lv_aload_n hx hb dX5_rest_83 rfl (lv_at hl 0 rfl) ?_
            refine va_get (D := D) (ci := 5) (v := .int (fi 1)) (C := RX5) (T := TX5) (N := 31) hx hb hts hin_X5 hown hK hP 0 rfl rfl 14 (by decide) hf_116 (fun _ h9 => h9) rfl dX5_rest_84 ?_
            refine lv_icmp_ne (tgt := 99) hx hb dX5_rest_87 (by decide) (fun c_87 => ?_) (fun c_87 => ?_)
            · skip
              have c_87 : ¬ (nI (rc_pl (ai 12) v nr 0)) = (fi 1) := c_87
              have hpe : ¬ rc_pl (ai 12) v nr 0 = nr := fun z => c_87 (by rw [hnr, z])
              refine lv_aload_n hx hb dX5_rest_99 rfl (lv_at hl 0 rfl) ?_
              refine va_get (D := D) (ci := 5) (v := .int (fi 1)) (C := RX5) (T := TX5) (N := 31) hx hb hts hin_X5 hown hK hP 0 rfl rfl 14 (by decide) hf_116 (fun _ h9 => h9) rfl dX5_rest_100 ?_
              refine va_put (D := D) (ci := 5) (v := .int (fi 1)) (ty := .int) (C := RX5) (T := TX5) (N := 31) hx hb hts hin_X5 tyX5 tyX5_ok nmX5 hown hK hP hD hS 0 rfl rfl 14 (by decide) hf_116 (fun _ h9 => h9) rfl (by decide +kernel) rfl rfl (Nat.le_of_ble_eq_true rfl) dX5_rest_103 (fun H locs hP hD hS => ?_)
              have hP : va_P D vwCl (rm_w ad cI cL cZ (upd fi 1 (fi 1)) fl (va_up ai 12 (upd (ai 12) (rc_pl (ai 12) v nr 0) v.toInt32)) (va_up al 13 (vp_updL (al 13) (rc_pl (ai 12) v nr 0) z))) H := hP
              have hD : va_D A (rm_w ad cI cL cZ (upd fi 1 (fi 1)) fl (va_up ai 12 (upd (ai 12) (rc_pl (ai 12) v nr 0) v.toInt32)) (va_up al 13 (vp_updL (al 13) (rc_pl (ai 12) v nr 0) z))) := am_D hD rfl
              refine lv_aload_n hx hb dX5_rest_106 rfl (lv_at hl 0 rfl) ?_
              refine lv_iconst (v := 0) hx hb dX5_rest_107 (by decide) ?_
              refine va_put (D := D) (ci := 5) (v := .int 0) (ty := .boolean) (C := RX5) (T := TX5) (N := 31) hx hb hts hin_X5 tyX5 tyX5_ok nmX5 hown hK hP hD hS 0 rfl rfl 19 (by decide) hf_97 (fun _ h9 => h9) rfl (by decide +kernel) rfl rfl (Nat.le_of_ble_eq_true rfl) dX5_rest_108 (fun H locs hP hD hS => ?_)
              have hP : va_P D vwCl (rm_w ad cI cL cZ (upd (upd fi 1 (fi 1)) 3 0) fl (va_up ai 12 (upd (ai 12) (rc_pl (ai 12) v nr 0) v.toInt32)) (va_up al 13 (vp_updL (al 13) (rc_pl (ai 12) v nr 0) z))) H := hP
              have hD : va_D A (rm_w ad cI cL cZ (upd (upd fi 1 (fi 1)) 3 0) fl (va_up ai 12 (upd (ai 12) (rc_pl (ai 12) v nr 0) v.toInt32)) (va_up al 13 (vp_updL (al 13) (rc_pl (ai 12) v nr 0) z))) := am_D hD rfl
              refine lv_iconst (v := 1) hx hb dX5_rest_111 (by decide) ?_
              have hok : rc_rstOk v z (rc_pl (ai 12) v nr 0) := by first | rfl | (simp only [rc_rstOk, c_3, c_11, c_18, hp16, if_true, if_false, eq_self, not_true_eq_false, not_false_eq_true, ite_true, ite_false, ↓reduceIte]; done) | (simp [rc_rstOk, c_3, c_11, c_18, hp16]; done)
              exact am_zretM hx hb hr hlocks (Or.inr rfl) (by simp only [if_pos hok, if_neg hpe]; exact hP) hS (by rw [if_pos hok]; first | done | rfl) dX5_rest_112
            · skip
              have c_87 : (nI (rc_pl (ai 12) v nr 0)) = (fi 1) := c_87
              have hpe : rc_pl (ai 12) v nr 0 = nr := by have h := c_87; rw [hnr, nI_eq (by omega) (by omega)] at h; exact h
              refine lv_aload_n hx hb dX5_rest_90 rfl (lv_at hl 0 rfl) ?_
              refine va_get (D := D) (ci := 5) (v := .int (fi 1)) (C := RX5) (T := TX5) (N := 31) hx hb hts hin_X5 hown hK hP 0 rfl rfl 14 (by decide) hf_116 (fun _ h9 => h9) rfl dX5_rest_91 ?_
              refine lv_iconst (v := 1) hx hb dX5_rest_94 (by decide) ?_
              refine lv_iadd hx hb dX5_rest_95 ?_
              refine lv_goto (tgt := 103) hx hb dX5_rest_96 (by decide) ?_
              refine va_put (D := D) (ci := 5) (v := .int ((fi 1) + 1)) (ty := .int) (C := RX5) (T := TX5) (N := 31) hx hb hts hin_X5 tyX5 tyX5_ok nmX5 hown hK hP hD hS 0 rfl rfl 14 (by decide) hf_116 (fun _ h9 => h9) rfl (by decide +kernel) rfl rfl (Nat.le_of_ble_eq_true rfl) dX5_rest_103 (fun H locs hP hD hS => ?_)
              have hP : va_P D vwCl (rm_w ad cI cL cZ (upd fi 1 ((fi 1) + 1)) fl (va_up ai 12 (upd (ai 12) (rc_pl (ai 12) v nr 0) v.toInt32)) (va_up al 13 (vp_updL (al 13) (rc_pl (ai 12) v nr 0) z))) H := hP
              have hD : va_D A (rm_w ad cI cL cZ (upd fi 1 ((fi 1) + 1)) fl (va_up ai 12 (upd (ai 12) (rc_pl (ai 12) v nr 0) v.toInt32)) (va_up al 13 (vp_updL (al 13) (rc_pl (ai 12) v nr 0) z))) := am_D hD rfl
              refine lv_aload_n hx hb dX5_rest_106 rfl (lv_at hl 0 rfl) ?_
              refine lv_iconst (v := 0) hx hb dX5_rest_107 (by decide) ?_
              refine va_put (D := D) (ci := 5) (v := .int 0) (ty := .boolean) (C := RX5) (T := TX5) (N := 31) hx hb hts hin_X5 tyX5 tyX5_ok nmX5 hown hK hP hD hS 0 rfl rfl 19 (by decide) hf_97 (fun _ h9 => h9) rfl (by decide +kernel) rfl rfl (Nat.le_of_ble_eq_true rfl) dX5_rest_108 (fun H locs hP hD hS => ?_)
              have hP : va_P D vwCl (rm_w ad cI cL cZ (upd (upd fi 1 ((fi 1) + 1)) 3 0) fl (va_up ai 12 (upd (ai 12) (rc_pl (ai 12) v nr 0) v.toInt32)) (va_up al 13 (vp_updL (al 13) (rc_pl (ai 12) v nr 0) z))) H := hP
              have hD : va_D A (rm_w ad cI cL cZ (upd (upd fi 1 ((fi 1) + 1)) 3 0) fl (va_up ai 12 (upd (ai 12) (rc_pl (ai 12) v nr 0) v.toInt32)) (va_up al 13 (vp_updL (al 13) (rc_pl (ai 12) v nr 0) z))) := am_D hD rfl
              refine lv_iconst (v := 1) hx hb dX5_rest_111 (by decide) ?_
              have hok : rc_rstOk v z (rc_pl (ai 12) v nr 0) := by first | rfl | (simp only [rc_rstOk, c_3, c_11, c_18, hp16, if_true, if_false, eq_self, not_true_eq_false, not_false_eq_true, ite_true, ite_false, ↓reduceIte]; done) | (simp [rc_rstOk, c_3, c_11, c_18, hp16]; done)
              exact am_zretM hx hb hr hlocks (Or.inr rfl) (by simp only [if_pos hok, if_pos hpe]; exact hP) hS (by rw [if_pos hok]; first | done | rfl) dX5_rest_112
          · skip
            have c_58 : (nI (rc_pl (ai 12) v nr 0)) = 16 := c_58
            have hp16 : rc_pl (ai 12) v nr 0 = 16 := by have h := c_58; rw [show (16 : Int32) = nI 16 from rfl, nI_eq (by omega) (by omega)] at h; exact h
            refine lv_iconst (v := 0) hx hb dX5_rest_61 (by decide) ?_
            have hok : ¬ (rc_rstOk v z (rc_pl (ai 12) v nr 0)) := by first | rfl | (simp only [rc_rstOk, c_3, c_11, c_18, hp16, if_true, if_false, eq_self, not_true_eq_false, not_false_eq_true, ite_true, ite_false, ↓reduceIte]; done) | (simp [rc_rstOk, c_3, c_11, c_18, hp16]; done)
            exact am_zretM hx hb hr hlocks (Or.inl rfl) (by simp only [if_neg hok]; exact hP) hS (by rw [if_neg hok]; first | done | rfl) dX5_rest_62
        · skip
          have c_32 : ¬ ((fi 1) ≤ (nI k)) := c_32
          have hkl : k < nr := Nat.lt_of_not_le (fun z => c_32 ((am_ge hnr (by omega) (by omega)).mpr z))
          refine lv_aload_n hx hb dX5_rest_35 rfl (lv_at hl 0 rfl) ?_
          refine va_get (D := D) (ci := 5) (v := .ref (ad 12)) (C := RX5) (T := TX5) (N := 31) hx hb hts hin_X5 hown hK hP 0 rfl rfl 12 (by decide) hf_45 (fun _ h9 => h9) rfl dX5_rest_36 ?_
          refine lv_iload hx hb dX5_rest_39 (lv_at hl 3 rfl) ?_
          refine am_iald hx hb hK hP 12 0 rfl rfl k rfl (by omega) (by decide) dX5_rest_41 ?_
          refine lv_i2l (v := ((ai 12) k).toInt64) hx hb dX5_rest_42 rfl ?_
          refine lv_lload_n hx hb dX5_rest_43 rfl (lv_at hl 1 rfl) ?_
          refine W.lcmp hx hb dX5_rest_44 ?_
          refine lv_if_eq (tgt := 54) hx hb dX5_rest_45 (by decide) (fun c_45 => ?_) (fun c_45 => ?_)
          · skip
            have c_45 : (((ai 12) k).toInt64) = v := (lg_cmp_eq _ _).mp c_45
            have hpk : rc_pl (ai 12) v nr 0 = k := by rw [hm, show nr - k = (nr - (k + 1)) + 1 by omega, rc_pl, if_pos c_45]
            subst hpk
            have hpb := (rc_pl_le (ai 12) v nr 0).2
            refine lv_iload hx hb dX5_rest_54 (lv_at hl 3 rfl) ?_
            refine lv_bipush (v := 16) hx hb dX5_rest_56 (by decide) ?_
            refine lv_icmp_ne (tgt := 63) hx hb dX5_rest_58 (by decide) (fun c_58 => ?_) (fun c_58 => ?_)
            · skip
              have c_58 : ¬ (nI (rc_pl (ai 12) v nr 0)) = 16 := c_58
              have hp16 : ¬ rc_pl (ai 12) v nr 0 = 16 := fun z => c_58 (by rw [z]; rfl)
              refine lv_aload_n hx hb dX5_rest_63 rfl (lv_at hl 0 rfl) ?_
              refine va_get (D := D) (ci := 5) (v := .ref (ad 12)) (C := RX5) (T := TX5) (N := 31) hx hb hts hin_X5 hown hK hP 0 rfl rfl 12 (by decide) hf_45 (fun _ h9 => h9) rfl dX5_rest_64 ?_
              refine lv_iload hx hb dX5_rest_67 (lv_at hl 3 rfl) ?_
              refine lv_lload_n hx hb dX5_rest_69 rfl (lv_at hl 1 rfl) ?_
              refine lv_l2i (v := v.toInt32) hx hb dX5_rest_70 rfl ?_
              refine am_iast hx hb hK hP hD hS 12 0 rfl rfl (rc_pl (ai 12) v nr 0) rfl (by omega) (by decide) (rm_w ad cI cL cZ fi fl (va_up ai 12 (upd (ai 12) (rc_pl (ai 12) v nr 0) v.toInt32)) al) rfl dX5_rest_71 (fun H locs hP hD hS => ?_)
              refine lv_aload_n hx hb dX5_rest_72 rfl (lv_at hl 0 rfl) ?_
              refine va_get (D := D) (ci := 5) (v := .ref (ad 13)) (C := RX5) (T := TX5) (N := 31) hx hb hts hin_X5 hown hK hP 0 rfl rfl 13 (by decide) hf_48 (fun _ h9 => h9) rfl dX5_rest_73 ?_
              refine lv_iload hx hb dX5_rest_76 (lv_at hl 3 rfl) ?_
              refine lv_lload_n hx hb dX5_rest_78 rfl (lv_at hl 2 rfl) ?_
              refine am_last hx hb hK hP hD hS 13 1 rfl rfl (rc_pl (ai 12) v nr 0) rfl (by omega) (by decide) (rm_w ad cI cL cZ fi fl (va_up ai 12 (upd (ai 12) (rc_pl (ai 12) v nr 0) v.toInt32)) (va_up al 13 (vp_updL (al 13) (rc_pl (ai 12) v nr 0) z))) rfl dX5_rest_79 (fun H locs hP hD hS => ?_)
              refine lv_aload_n hx hb dX5_rest_80 rfl (lv_at hl 0 rfl) ?_
              refine lv_iload hx hb dX5_rest_81 (lv_at hl 3 rfl) ?_
              refine lv_aload_n hx hb dX5_rest_83 rfl (lv_at hl 0 rfl) ?_
              refine va_get (D := D) (ci := 5) (v := .int (fi 1)) (C := RX5) (T := TX5) (N := 31) hx hb hts hin_X5 hown hK hP 0 rfl rfl 14 (by decide) hf_116 (fun _ h9 => h9) rfl dX5_rest_84 ?_
              refine lv_icmp_ne (tgt := 99) hx hb dX5_rest_87 (by decide) (fun c_87 => ?_) (fun c_87 => ?_)
              · skip
                have c_87 : ¬ (nI (rc_pl (ai 12) v nr 0)) = (fi 1) := c_87
                have hpe : ¬ rc_pl (ai 12) v nr 0 = nr := fun z => c_87 (by rw [hnr, z])
                refine lv_aload_n hx hb dX5_rest_99 rfl (lv_at hl 0 rfl) ?_
                refine va_get (D := D) (ci := 5) (v := .int (fi 1)) (C := RX5) (T := TX5) (N := 31) hx hb hts hin_X5 hown hK hP 0 rfl rfl 14 (by decide) hf_116 (fun _ h9 => h9) rfl dX5_rest_100 ?_
                refine va_put (D := D) (ci := 5) (v := .int (fi 1)) (ty := .int) (C := RX5) (T := TX5) (N := 31) hx hb hts hin_X5 tyX5 tyX5_ok nmX5 hown hK hP hD hS 0 rfl rfl 14 (by decide) hf_116 (fun _ h9 => h9) rfl (by decide +kernel) rfl rfl (Nat.le_of_ble_eq_true rfl) dX5_rest_103 (fun H locs hP hD hS => ?_)
                have hP : va_P D vwCl (rm_w ad cI cL cZ (upd fi 1 (fi 1)) fl (va_up ai 12 (upd (ai 12) (rc_pl (ai 12) v nr 0) v.toInt32)) (va_up al 13 (vp_updL (al 13) (rc_pl (ai 12) v nr 0) z))) H := hP
                have hD : va_D A (rm_w ad cI cL cZ (upd fi 1 (fi 1)) fl (va_up ai 12 (upd (ai 12) (rc_pl (ai 12) v nr 0) v.toInt32)) (va_up al 13 (vp_updL (al 13) (rc_pl (ai 12) v nr 0) z))) := am_D hD rfl
                refine lv_aload_n hx hb dX5_rest_106 rfl (lv_at hl 0 rfl) ?_
                refine lv_iconst (v := 0) hx hb dX5_rest_107 (by decide) ?_
                refine va_put (D := D) (ci := 5) (v := .int 0) (ty := .boolean) (C := RX5) (T := TX5) (N := 31) hx hb hts hin_X5 tyX5 tyX5_ok nmX5 hown hK hP hD hS 0 rfl rfl 19 (by decide) hf_97 (fun _ h9 => h9) rfl (by decide +kernel) rfl rfl (Nat.le_of_ble_eq_true rfl) dX5_rest_108 (fun H locs hP hD hS => ?_)
                have hP : va_P D vwCl (rm_w ad cI cL cZ (upd (upd fi 1 (fi 1)) 3 0) fl (va_up ai 12 (upd (ai 12) (rc_pl (ai 12) v nr 0) v.toInt32)) (va_up al 13 (vp_updL (al 13) (rc_pl (ai 12) v nr 0) z))) H := hP
                have hD : va_D A (rm_w ad cI cL cZ (upd (upd fi 1 (fi 1)) 3 0) fl (va_up ai 12 (upd (ai 12) (rc_pl (ai 12) v nr 0) v.toInt32)) (va_up al 13 (vp_updL (al 13) (rc_pl (ai 12) v nr 0) z))) := am_D hD rfl
                refine lv_iconst (v := 1) hx hb dX5_rest_111 (by decide) ?_
                have hok : rc_rstOk v z (rc_pl (ai 12) v nr 0) := by first | rfl | (simp only [rc_rstOk, c_3, c_11, c_18, hp16, if_true, if_false, eq_self, not_true_eq_false, not_false_eq_true, ite_true, ite_false, ↓reduceIte]; done) | (simp [rc_rstOk, c_3, c_11, c_18, hp16]; done)
                exact am_zretM hx hb hr hlocks (Or.inr rfl) (by simp only [if_pos hok, if_neg hpe]; exact hP) hS (by rw [if_pos hok]; first | done | rfl) dX5_rest_112
              · skip
                have c_87 : (nI (rc_pl (ai 12) v nr 0)) = (fi 1) := c_87
                have hpe : rc_pl (ai 12) v nr 0 = nr := by have h := c_87; rw [hnr, nI_eq (by omega) (by omega)] at h; exact h
                refine lv_aload_n hx hb dX5_rest_90 rfl (lv_at hl 0 rfl) ?_
                refine va_get (D := D) (ci := 5) (v := .int (fi 1)) (C := RX5) (T := TX5) (N := 31) hx hb hts hin_X5 hown hK hP 0 rfl rfl 14 (by decide) hf_116 (fun _ h9 => h9) rfl dX5_rest_91 ?_
                refine lv_iconst (v := 1) hx hb dX5_rest_94 (by decide) ?_
                refine lv_iadd hx hb dX5_rest_95 ?_
                refine lv_goto (tgt := 103) hx hb dX5_rest_96 (by decide) ?_
                refine va_put (D := D) (ci := 5) (v := .int ((fi 1) + 1)) (ty := .int) (C := RX5) (T := TX5) (N := 31) hx hb hts hin_X5 tyX5 tyX5_ok nmX5 hown hK hP hD hS 0 rfl rfl 14 (by decide) hf_116 (fun _ h9 => h9) rfl (by decide +kernel) rfl rfl (Nat.le_of_ble_eq_true rfl) dX5_rest_103 (fun H locs hP hD hS => ?_)
                have hP : va_P D vwCl (rm_w ad cI cL cZ (upd fi 1 ((fi 1) + 1)) fl (va_up ai 12 (upd (ai 12) (rc_pl (ai 12) v nr 0) v.toInt32)) (va_up al 13 (vp_updL (al 13) (rc_pl (ai 12) v nr 0) z))) H := hP
                have hD : va_D A (rm_w ad cI cL cZ (upd fi 1 ((fi 1) + 1)) fl (va_up ai 12 (upd (ai 12) (rc_pl (ai 12) v nr 0) v.toInt32)) (va_up al 13 (vp_updL (al 13) (rc_pl (ai 12) v nr 0) z))) := am_D hD rfl
                refine lv_aload_n hx hb dX5_rest_106 rfl (lv_at hl 0 rfl) ?_
                refine lv_iconst (v := 0) hx hb dX5_rest_107 (by decide) ?_
                refine va_put (D := D) (ci := 5) (v := .int 0) (ty := .boolean) (C := RX5) (T := TX5) (N := 31) hx hb hts hin_X5 tyX5 tyX5_ok nmX5 hown hK hP hD hS 0 rfl rfl 19 (by decide) hf_97 (fun _ h9 => h9) rfl (by decide +kernel) rfl rfl (Nat.le_of_ble_eq_true rfl) dX5_rest_108 (fun H locs hP hD hS => ?_)
                have hP : va_P D vwCl (rm_w ad cI cL cZ (upd (upd fi 1 ((fi 1) + 1)) 3 0) fl (va_up ai 12 (upd (ai 12) (rc_pl (ai 12) v nr 0) v.toInt32)) (va_up al 13 (vp_updL (al 13) (rc_pl (ai 12) v nr 0) z))) H := hP
                have hD : va_D A (rm_w ad cI cL cZ (upd (upd fi 1 ((fi 1) + 1)) 3 0) fl (va_up ai 12 (upd (ai 12) (rc_pl (ai 12) v nr 0) v.toInt32)) (va_up al 13 (vp_updL (al 13) (rc_pl (ai 12) v nr 0) z))) := am_D hD rfl
                refine lv_iconst (v := 1) hx hb dX5_rest_111 (by decide) ?_
                have hok : rc_rstOk v z (rc_pl (ai 12) v nr 0) := by first | rfl | (simp only [rc_rstOk, c_3, c_11, c_18, hp16, if_true, if_false, eq_self, not_true_eq_false, not_false_eq_true, ite_true, ite_false, ↓reduceIte]; done) | (simp [rc_rstOk, c_3, c_11, c_18, hp16]; done)
                exact am_zretM hx hb hr hlocks (Or.inr rfl) (by simp only [if_pos hok, if_pos hpe]; exact hP) hS (by rw [if_pos hok]; first | done | rfl) dX5_rest_112
            · skip
              have c_58 : (nI (rc_pl (ai 12) v nr 0)) = 16 := c_58
              have hp16 : rc_pl (ai 12) v nr 0 = 16 := by have h := c_58; rw [show (16 : Int32) = nI 16 from rfl, nI_eq (by omega) (by omega)] at h; exact h
              refine lv_iconst (v := 0) hx hb dX5_rest_61 (by decide) ?_
              have hok : ¬ (rc_rstOk v z (rc_pl (ai 12) v nr 0)) := by first | rfl | (simp only [rc_rstOk, c_3, c_11, c_18, hp16, if_true, if_false, eq_self, not_true_eq_false, not_false_eq_true, ite_true, ite_false, ↓reduceIte]; done) | (simp [rc_rstOk, c_3, c_11, c_18, hp16]; done)
              exact am_zretM hx hb hr hlocks (Or.inl rfl) (by simp only [if_neg hok]; exact hP) hS (by rw [if_neg hok]; first | done | rfl) dX5_rest_62
          · skip
            have c_45 : ¬ ((((ai 12) k).toInt64) = v) := (fun z => c_45 ((lg_cmp_eq _ _).mpr z))
            refine lv_iinc (v := nI (k + 1)) (lv' := [(5, .int (nI (k + 1))), (0, .ref (ad 0)), (1, .long v), (3, .long z)]) hx hb dX5_rest_48 hl (k := 3) rfl (nI_1 k) (by decide) rfl (fun ls hl => ?_)
            refine lv_goto (tgt := 26) hx hb dX5_rest_51 (by decide) ?_
            refine ih_26 (k + 1) (nr - (k + 1)) H locs ls (by omega) ⟨rfl, (by omega), (by rw [hm, show nr - k = (nr - (k + 1)) + 1 by omega, rc_pl, if_neg c_45]), ?_, hS, ?_⟩
            · exact hP
            · exact lv_sub hl [1, 2, 3, 0] rfl
      · skip
        have c_18 : (ac_isWorth z) = 0 := c_18
        refine lv_iconst (v := 0) hx hb dX5_rest_21 (by decide) ?_
        have hok : ¬ (rc_rstOk v z (rc_pl (ai 12) v nr 0)) := by first | rfl | (simp only [rc_rstOk, c_3, c_11, c_18, if_true, if_false, eq_self, not_true_eq_false, not_false_eq_true, ite_true, ite_false, ↓reduceIte]; done) | (simp [rc_rstOk, c_3, c_11, c_18]; done)
        exact am_zretM hx hb hr hlocks (Or.inl rfl) (by simp only [if_neg hok]; exact hP) hS (by rw [if_neg hok]; first | done | rfl) dX5_rest_22

set_option maxHeartbeats 4000000 in
set_option maxRecDepth 100000 in
theorem c_X5_breaks (l : Launch) (D : va_G) (ad : Nat → Nat) (cI cL cZ : ClassId) (fi : Nat → Int32) (fl : Nat → Int64) (ai : Nat → Nat → Int32) (al : Nat → Nat → Int64) (A : Nat → Prop) (x : Int32) (na : Nat) (hna : fi 0 = nI na) (hnl : na ≤ 10) : Met l yX5_breaks wsX5_breaks (am_rm 1 21) (va_Pc [.ref (ad 0), .int x] (am_M nwL vwCl D A (rm_w ad cI cL cZ fi fl ai al) [(cI, .int), (cL, .long), (cZ, .boolean)])) (am_Mi vwCl D (if rc_brkOk (fi 0) (ai 5) x then 1 else 0) (rm_w ad cI cL cZ (upd fi 3 (if rc_brkOk (fi 0) (ai 5) x then 0 else (fi 3))) fl (va_up ai 5 (if rc_brkOk (fi 0) (ai 5) x then upd (ai 5) x.toNatClampNeg 1 else (ai 5))) al) A) 0 0 A := by
  refine am_startM (cc := cX5_breaks) (maxL := 2) (ret := (some .boolean)) (by decide) rfl (Nat.le_of_ble_eq_true rfl) [(0, .ref (ad 0)), (1, .int x)] rfl ?_
  intro p e s m below meth c ls hx hb hr hml hown hts hlocks hK hN hD H locs hP hS hl
  have hown : s.vm.findClass RX5 = some m.cls := hown
  have ht := am_ht hts
  have hin_X5 : ∀ w ∈ u_ws RX5 TX5 31, w ∈ wsX5_breaks := fun w h => List.mem_cons_of_mem _ (am_inX5 w h)
  have hf_23 := ht 435 (.fieldLink RX5 23 "ApartCostModel" "breaking" "[Z") rfl
  have hf_97 := ht 449 (.fieldLink RX5 97 "ApartCostModel" "isFresh" "Z") rfl
  refine lv_aload_n hx hb dX5_breaks_0 rfl (lv_at hl 0 rfl) ?_
  refine lv_iload_n hx hb dX5_breaks_1 rfl (lv_at hl 1 rfl) ?_
  refine am_callRi (W.runV (As := [.int x]) (rest := []) ⟨hx, hb, hml, hown, hts⟩ (c_X5_isAct l D ad cI cL cZ fi fl ai al x) (cwV 1 hts (am_gV (am_in 508 rfl) (am_in 509 rfl) (am_in 12 rfl) (am_in 35 rfl) (am_in 510 rfl)) rfl rfl rfl (by decide +kernel) ⟨Nat.le_of_ble_eq_true rfl, Nat.le_of_ble_eq_true rfl⟩) (am_preVR 5 0 rfl rfl rfl hP hK hN) rfl rfl hl.1 rfl (lv_room (Nat.le_of_ble_eq_true rfl)) dX5_breaks_2 ⟨Nat.zero_le _, Nat.zero_le _⟩) ?_
  refine lv_if_eq (tgt := 17) hx hb dX5_breaks_5 (by decide) (fun c_5 => ?_) (fun c_5 => ?_)
  · skip
    have c_5 : (ac_hasAct (fi 0) x) = 0 := c_5
    refine lv_iconst (v := 0) hx hb dX5_breaks_17 (by decide) ?_
    have hok : ¬ (rc_brkOk (fi 0) (ai 5) x) := by first | rfl | (simp only [rc_brkOk, c_5, if_true, if_false, eq_self, not_true_eq_false, not_false_eq_true, ite_true, ite_false, ↓reduceIte]; done) | (simp [rc_brkOk, c_5]; done)
    exact am_zretM hx hb hr hlocks (Or.inl rfl) (by simp only [if_neg hok]; exact hP) hS (by rw [if_neg hok]; first | done | rfl) dX5_breaks_18
  · skip
    have c_5 : ¬ ((ac_hasAct (fi 0) x) = 0) := c_5
    obtain ⟨a, hq_a, ea⟩ : ∃ z, z < na ∧ x = nI z := am_hasAct hna (by omega) c_5
    have nn_a : x.toNatClampNeg = a := by rw [ea]; exact nI_clamp (by omega)
    have mm_a : (nI a).toNatClampNeg = a := nI_clamp (by omega)
    refine lv_aload_n hx hb dX5_breaks_8 rfl (lv_at hl 0 rfl) ?_
    refine va_get (D := D) (ci := 5) (v := .ref (ad 5)) (C := RX5) (T := TX5) (N := 31) hx hb hts hin_X5 hown hK hP 0 rfl rfl 5 (by decide) hf_23 (fun _ h9 => h9) rfl dX5_breaks_9 ?_
    refine lv_iload_n hx hb dX5_breaks_12 rfl (lv_at hl 1 rfl) ?_
    refine am_zald hx hb hK hP 5 2 rfl rfl a ea (by omega) (by decide) dX5_breaks_13 ?_
    refine lv_if_eq (tgt := 19) hx hb dX5_breaks_14 (by decide) (fun c_14 => ?_) (fun c_14 => ?_)
    · skip
      have c_14 : ((ai 5) a) = 0 := c_14
      refine lv_aload_n hx hb dX5_breaks_19 rfl (lv_at hl 0 rfl) ?_
      refine va_get (D := D) (ci := 5) (v := .ref (ad 5)) (C := RX5) (T := TX5) (N := 31) hx hb hts hin_X5 hown hK hP 0 rfl rfl 5 (by decide) hf_23 (fun _ h9 => h9) rfl dX5_breaks_20 ?_
      refine lv_iload_n hx hb dX5_breaks_23 rfl (lv_at hl 1 rfl) ?_
      refine lv_iconst (v := 1) hx hb dX5_breaks_24 (by decide) ?_
      refine am_zast hx hb hK hP hD hS 5 2 rfl rfl a ea (by omega) (by decide) rfl (rm_w ad cI cL cZ fi fl (va_up ai 5 (upd (ai 5) a 1)) al) rfl dX5_breaks_25 (fun H locs hP hD hS => ?_)
      refine lv_aload_n hx hb dX5_breaks_26 rfl (lv_at hl 0 rfl) ?_
      refine lv_iconst (v := 0) hx hb dX5_breaks_27 (by decide) ?_
      refine va_put (D := D) (ci := 5) (v := .int 0) (ty := .boolean) (C := RX5) (T := TX5) (N := 31) hx hb hts hin_X5 tyX5 tyX5_ok nmX5 hown hK hP hD hS 0 rfl rfl 19 (by decide) hf_97 (fun _ h9 => h9) rfl (by decide +kernel) rfl rfl (Nat.le_of_ble_eq_true rfl) dX5_breaks_28 (fun H locs hP hD hS => ?_)
      have hP : va_P D vwCl (rm_w ad cI cL cZ (upd fi 3 0) fl (va_up ai 5 (upd (ai 5) a 1)) al) H := hP
      have hD : va_D A (rm_w ad cI cL cZ (upd fi 3 0) fl (va_up ai 5 (upd (ai 5) a 1)) al) := am_D hD rfl
      refine lv_iconst (v := 1) hx hb dX5_breaks_31 (by decide) ?_
      have hok : rc_brkOk (fi 0) (ai 5) x := by first | rfl | (simp only [rc_brkOk, c_5, c_14, nn_a, if_true, if_false, eq_self, not_true_eq_false, not_false_eq_true, ite_true, ite_false, ↓reduceIte]; done) | (simp [rc_brkOk, c_5, c_14, nn_a]; done)
      exact am_zretM hx hb hr hlocks (Or.inr rfl) (by simp only [if_pos hok, nn_a]; exact hP) hS (by rw [if_pos hok]; first | done | rfl) dX5_breaks_32
    · skip
      have c_14 : ¬ (((ai 5) a) = 0) := c_14
      refine lv_iconst (v := 0) hx hb dX5_breaks_17 (by decide) ?_
      have hok : ¬ (rc_brkOk (fi 0) (ai 5) x) := by first | rfl | (simp only [rc_brkOk, c_5, c_14, nn_a, if_true, if_false, eq_self, not_true_eq_false, not_false_eq_true, ite_true, ite_false, ↓reduceIte]; done) | (simp [rc_brkOk, c_5, c_14, nn_a]; done)
      exact am_zretM hx hb hr hlocks (Or.inl rfl) (by simp only [if_neg hok]; exact hP) hS (by rw [if_neg hok]; first | done | rfl) dX5_breaks_18
set_option maxHeartbeats 4000000 in
set_option maxRecDepth 100000 in
theorem c_X5_keeps (l : Launch) (D : va_G) (ad : Nat → Nat) (cI cL cZ : ClassId) (fi : Nat → Int32) (fl : Nat → Int64) (ai : Nat → Nat → Int32) (al : Nat → Nat → Int64) (na : Nat) (hna : fi 0 = nI na) (hnl : na ≤ 10) : Met l yX5_keeps wsX5_keeps (am_rm 0 0) (va_Pc [.ref (ad 0), .ref (ad 20)] (am_R nwL vwCl D (rm_w ad cI cL cZ fi fl ai al) [(cI, .int), (cL, .long), (cZ, .boolean)])) (vp_Si (fun r => r = rc_ka (ai 20) (ai 21) na na)) 0 0 am_No := by
  refine am_startR (cc := cX5_keeps) (maxL := 5) (ret := (some .boolean)) (by decide) rfl (Nat.le_of_ble_eq_true rfl) [(0, .ref (ad 0)), (1, .ref (ad 20))] rfl ?_
  intro p e s m below meth c ls hx hb hr hml hown hts hlocks hP hK hN hl
  have hown : s.vm.findClass RX5 = some m.cls := hown
  have ht := am_ht hts
  have hin_X5 : ∀ w ∈ u_ws RX5 TX5 31, w ∈ wsX5_keeps := fun w h => List.mem_cons_of_mem _ (am_inX5 w h)
  have hf_79 := ht 460 (.fieldLink RX5 79 "ApartCostModel" "behind" "[Z") rfl
  have hf_86 := ht 430 (.fieldLink RX5 86 "ApartCostModel" "count" "I") rfl
  refine lv_iconst (v := 1) hx hb dX5_keeps_0 (by decide) ?_
  refine lv_istore_n (lv' := [(2, .int 1), (0, .ref (ad 0)), (1, .ref (ad 20))]) hx hb dX5_keeps_1 rfl hl (by decide) rfl (fun ls hl => ?_)
  refine lv_iconst (v := 0) hx hb dX5_keeps_2 (by decide) ?_
  refine lv_istore_n (lv' := [(3, .int 0), (2, .int 1), (0, .ref (ad 0)), (1, .ref (ad 20))]) hx hb dX5_keeps_3 rfl hl (by decide) rfl (fun ls hl => ?_)
  refine am_loopR (σ := Nat) (fun q n9 ls => n9 = na - q ∧ q ≤ na ∧ lv_has ls 5 [(0, .ref (ad 0)), (1, .ref (ad 20)), (2, .int (rc_ka (ai 20) (ai 21) na q)), (3, .int (nI q))]) ?_ 0 (na - 0) ls ⟨rfl, (by omega), lv_sub hl [2, 3, 1, 0] rfl⟩
  rintro a n9 ls ⟨hn_4, hka, hl⟩ ih_4
  refine lv_iload_n hx hb dX5_keeps_4 rfl (lv_at hl 3 rfl) ?_
  refine lv_aload_n hx hb dX5_keeps_5 rfl (lv_at hl 0 rfl) ?_
  refine va_get (D := D) (ci := 5) (v := .int (fi 0)) (C := RX5) (T := TX5) (N := 31) hx hb hts hin_X5 hown hK hP 0 rfl rfl 0 (by decide) hf_86 (fun _ h9 => h9) rfl dX5_keeps_6 ?_
  refine lv_icmp_ge (tgt := 84) hx hb dX5_keeps_9 (by decide) (fun c_9 => ?_) (fun c_9 => ?_)
  · skip
    have c_9 : (fi 0) ≤ (nI a) := c_9
    have hke_9 : na ≤ a := (am_ge hna (by omega) (by omega)).mp c_9
    have hkq_9 : na = a := by omega
    subst hkq_9
    refine lv_iload_n hx hb dX5_keeps_84 rfl (lv_at hl 2 rfl) ?_
    exact am_zretR hx hb hr hlocks (rc_ka_z _ _ _ _) (by first | rfl | (simp only [c_9, if_true, if_false, eq_self, not_true_eq_false, not_false_eq_true, ite_true, ite_false, ↓reduceIte]; done) | (simp [c_9]; done)) dX5_keeps_85
  · skip
    have c_9 : ¬ ((fi 0) ≤ (nI a)) := c_9
    have hkl_9 : a < na := Nat.lt_of_not_le (fun z => c_9 ((am_ge hna (by omega) (by omega)).mpr z))
    refine lv_iconst (v := 0) hx hb dX5_keeps_12 (by decide) ?_
    refine lv_istore (lv' := [(4, .int 0), (0, .ref (ad 0)), (1, .ref (ad 20)), (2, .int (rc_ka (ai 20) (ai 21) na a)), (3, .int (nI a))]) hx hb dX5_keeps_13 hl (by decide) rfl (fun ls hl => ?_)
    refine am_loopR (σ := Nat) (fun q n9 ls => n9 = na - q ∧ q ≤ na ∧ lv_has ls 5 [(0, .ref (ad 0)), (1, .ref (ad 20)), (2, .int (rc_kb (ai 20) (ai 21) a (rc_ka (ai 20) (ai 21) na a) q)), (3, .int (nI a)), (4, .int (nI q))]) ?_ 0 (na - 0) ls ⟨rfl, (by omega), lv_sub hl [1, 2, 3, 4, 0] rfl⟩
    rintro b n9 ls ⟨hn_15, hkb, hl⟩ ih_15
    refine lv_iload hx hb dX5_keeps_15 (lv_at hl 4 rfl) ?_
    refine lv_aload_n hx hb dX5_keeps_17 rfl (lv_at hl 0 rfl) ?_
    refine va_get (D := D) (ci := 5) (v := .int (fi 0)) (C := RX5) (T := TX5) (N := 31) hx hb hts hin_X5 hown hK hP 0 rfl rfl 0 (by decide) hf_86 (fun _ h9 => h9) rfl dX5_keeps_18 ?_
    refine lv_icmp_ge (tgt := 78) hx hb dX5_keeps_21 (by decide) (fun c_21 => ?_) (fun c_21 => ?_)
    · skip
      have c_21 : (fi 0) ≤ (nI b) := c_21
      have hke_21 : na ≤ b := (am_ge hna (by omega) (by omega)).mp c_21
      have hkq_21 : na = b := by omega
      subst hkq_21
      refine lv_iinc (v := nI (a + 1)) (lv' := [(3, .int (nI (a + 1))), (0, .ref (ad 0)), (1, .ref (ad 20)), (2, .int (rc_kb (ai 20) (ai 21) a (rc_ka (ai 20) (ai 21) na a) na)), (4, .int (nI na))]) hx hb dX5_keeps_78 hl (k := 3) rfl (nI_1 a) (by decide) rfl (fun ls hl => ?_)
      refine lv_goto (tgt := 4) hx hb dX5_keeps_81 (by decide) ?_
      have e_4_0 : rc_ka (ai 20) (ai 21) na (a + 1) = rc_kb (ai 20) (ai 21) a (rc_ka (ai 20) (ai 21) na a) na := by first | rfl | (simp only [rc_ka, c_9, c_21, if_true, if_false, eq_self, not_true_eq_false, not_false_eq_true, ite_true, ite_false, ↓reduceIte]; done) | (simp [rc_ka, c_9, c_21]; done)
      refine ih_4 (a + 1) (na - (a + 1)) ls (by omega) ⟨rfl, (by omega), ?_⟩
      try dsimp only
      rw [e_4_0]
      exact lv_sub hl [1, 2, 3, 0] rfl
    · skip
      have c_21 : ¬ ((fi 0) ≤ (nI b)) := c_21
      have hkl_21 : b < na := Nat.lt_of_not_le (fun z => c_21 ((am_ge hna (by omega) (by omega)).mpr z))
      refine lv_iload_n hx hb dX5_keeps_24 rfl (lv_at hl 2 rfl) ?_
      refine lv_if_eq (tgt := 70) hx hb dX5_keeps_25 (by decide) (fun c_25 => ?_) (fun c_25 => ?_)
      · skip
        have c_25 : (rc_kb (ai 20) (ai 21) a (rc_ka (ai 20) (ai 21) na a) b) = 0 := c_25
        refine lv_iconst (v := 0) hx hb dX5_keeps_70 (by decide) ?_
        refine lv_istore_n (lv' := [(2, .int 0), (0, .ref (ad 0)), (1, .ref (ad 20)), (3, .int (nI a)), (4, .int (nI b))]) hx hb dX5_keeps_71 rfl hl (by decide) rfl (fun ls hl => ?_)
        refine lv_iinc (v := nI (b + 1)) (lv' := [(4, .int (nI (b + 1))), (2, .int 0), (0, .ref (ad 0)), (1, .ref (ad 20)), (3, .int (nI a))]) hx hb dX5_keeps_72 hl (k := 4) rfl (nI_1 b) (by decide) rfl (fun ls hl => ?_)
        refine lv_goto (tgt := 15) hx hb dX5_keeps_75 (by decide) ?_
        have e_15_0 : rc_kb (ai 20) (ai 21) a (rc_ka (ai 20) (ai 21) na a) (b + 1) = 0 := by first | rfl | (simp only [rc_kb, c_9, c_21, c_25, if_true, if_false, eq_self, not_true_eq_false, not_false_eq_true, ite_true, ite_false, ↓reduceIte]; done) | (simp [rc_kb, c_9, c_21, c_25]; done)
        refine ih_15 (b + 1) (na - (b + 1)) ls (by omega) ⟨rfl, (by omega), ?_⟩
        try dsimp only
        rw [e_15_0]
        exact lv_sub hl [2, 3, 1, 4, 0] rfl
      · skip
        have c_25 : ¬ ((rc_kb (ai 20) (ai 21) a (rc_ka (ai 20) (ai 21) na a) b) = 0) := c_25
        refine lv_aload_n hx hb dX5_keeps_28 rfl (lv_at hl 1 rfl) ?_
        refine lv_iload_n hx hb dX5_keeps_29 rfl (lv_at hl 3 rfl) ?_
        refine am_iald hx hb hK hP 20 0 rfl rfl a rfl (by omega) (by decide) dX5_keeps_30 ?_
        refine lv_if_lt (tgt := 66) hx hb dX5_keeps_31 (by decide) (fun c_31 => ?_) (fun c_31 => ?_)
        · skip
          have c_31 : ((ai 20) a) < 0 := c_31
          refine lv_iconst (v := 1) hx hb dX5_keeps_66 (by decide) ?_
          refine lv_goto (tgt := 71) hx hb dX5_keeps_67 (by decide) ?_
          refine lv_istore_n (lv' := [(2, .int 1), (0, .ref (ad 0)), (1, .ref (ad 20)), (3, .int (nI a)), (4, .int (nI b))]) hx hb dX5_keeps_71 rfl hl (by decide) rfl (fun ls hl => ?_)
          refine lv_iinc (v := nI (b + 1)) (lv' := [(4, .int (nI (b + 1))), (2, .int 1), (0, .ref (ad 0)), (1, .ref (ad 20)), (3, .int (nI a))]) hx hb dX5_keeps_72 hl (k := 4) rfl (nI_1 b) (by decide) rfl (fun ls hl => ?_)
          refine lv_goto (tgt := 15) hx hb dX5_keeps_75 (by decide) ?_
          have e_15_0 : rc_kb (ai 20) (ai 21) a (rc_ka (ai 20) (ai 21) na a) (b + 1) = 1 := by first | rfl | (simp only [rc_kb, c_9, c_21, c_25, c_31, if_true, if_false, eq_self, not_true_eq_false, not_false_eq_true, ite_true, ite_false, ↓reduceIte]; done) | (simp [rc_kb, c_9, c_21, c_25, c_31]; done)
          refine ih_15 (b + 1) (na - (b + 1)) ls (by omega) ⟨rfl, (by omega), ?_⟩
          try dsimp only
          rw [e_15_0]
          exact lv_sub hl [2, 3, 1, 4, 0] rfl
        · skip
          have c_31 : ¬ (((ai 20) a) < 0) := c_31
          refine lv_aload_n hx hb dX5_keeps_34 rfl (lv_at hl 1 rfl) ?_
          refine lv_iload hx hb dX5_keeps_35 (lv_at hl 4 rfl) ?_
          refine am_iald hx hb hK hP 20 0 rfl rfl b rfl (by omega) (by decide) dX5_keeps_37 ?_
          refine lv_if_lt (tgt := 66) hx hb dX5_keeps_38 (by decide) (fun c_38 => ?_) (fun c_38 => ?_)
          · skip
            have c_38 : ((ai 20) b) < 0 := c_38
            refine lv_iconst (v := 1) hx hb dX5_keeps_66 (by decide) ?_
            refine lv_goto (tgt := 71) hx hb dX5_keeps_67 (by decide) ?_
            refine lv_istore_n (lv' := [(2, .int 1), (0, .ref (ad 0)), (1, .ref (ad 20)), (3, .int (nI a)), (4, .int (nI b))]) hx hb dX5_keeps_71 rfl hl (by decide) rfl (fun ls hl => ?_)
            refine lv_iinc (v := nI (b + 1)) (lv' := [(4, .int (nI (b + 1))), (2, .int 1), (0, .ref (ad 0)), (1, .ref (ad 20)), (3, .int (nI a))]) hx hb dX5_keeps_72 hl (k := 4) rfl (nI_1 b) (by decide) rfl (fun ls hl => ?_)
            refine lv_goto (tgt := 15) hx hb dX5_keeps_75 (by decide) ?_
            have e_15_0 : rc_kb (ai 20) (ai 21) a (rc_ka (ai 20) (ai 21) na a) (b + 1) = 1 := by first | rfl | (simp only [rc_kb, c_9, c_21, c_25, c_31, c_38, if_true, if_false, eq_self, not_true_eq_false, not_false_eq_true, ite_true, ite_false, ↓reduceIte]; done) | (simp [rc_kb, c_9, c_21, c_25, c_31, c_38]; done)
            refine ih_15 (b + 1) (na - (b + 1)) ls (by omega) ⟨rfl, (by omega), ?_⟩
            try dsimp only
            rw [e_15_0]
            exact lv_sub hl [2, 3, 1, 4, 0] rfl
          · skip
            have c_38 : ¬ (((ai 20) b) < 0) := c_38
            refine lv_aload_n hx hb dX5_keeps_41 rfl (lv_at hl 0 rfl) ?_
            refine va_get (D := D) (ci := 5) (v := .ref (ad 21)) (C := RX5) (T := TX5) (N := 31) hx hb hts hin_X5 hown hK hP 0 rfl rfl 30 (by decide) hf_79 (fun _ h9 => h9) rfl dX5_keeps_42 ?_
            refine lv_bipush (v := 10) hx hb dX5_keeps_45 (by decide) ?_
            refine lv_iload_n hx hb dX5_keeps_47 rfl (lv_at hl 3 rfl) ?_
            refine lv_imul hx hb dX5_keeps_48 ?_
            refine lv_iload hx hb dX5_keeps_49 (lv_at hl 4 rfl) ?_
            refine lv_iadd hx hb dX5_keeps_51 ?_
            refine am_zald hx hb hK hP 21 2 rfl rfl (10 * a + b) (am_x10 a b) (by omega) (by decide) dX5_keeps_52 ?_
            refine lv_if_eq (tgt := 66) hx hb dX5_keeps_53 (by decide) (fun c_53 => ?_) (fun c_53 => ?_)
            · skip
              have c_53 : ((ai 21) (10 * a + b)) = 0 := c_53
              refine lv_iconst (v := 1) hx hb dX5_keeps_66 (by decide) ?_
              refine lv_goto (tgt := 71) hx hb dX5_keeps_67 (by decide) ?_
              refine lv_istore_n (lv' := [(2, .int 1), (0, .ref (ad 0)), (1, .ref (ad 20)), (3, .int (nI a)), (4, .int (nI b))]) hx hb dX5_keeps_71 rfl hl (by decide) rfl (fun ls hl => ?_)
              refine lv_iinc (v := nI (b + 1)) (lv' := [(4, .int (nI (b + 1))), (2, .int 1), (0, .ref (ad 0)), (1, .ref (ad 20)), (3, .int (nI a))]) hx hb dX5_keeps_72 hl (k := 4) rfl (nI_1 b) (by decide) rfl (fun ls hl => ?_)
              refine lv_goto (tgt := 15) hx hb dX5_keeps_75 (by decide) ?_
              have e_15_0 : rc_kb (ai 20) (ai 21) a (rc_ka (ai 20) (ai 21) na a) (b + 1) = 1 := by first | rfl | (simp only [rc_kb, c_9, c_21, c_25, c_31, c_38, c_53, if_true, if_false, eq_self, not_true_eq_false, not_false_eq_true, ite_true, ite_false, ↓reduceIte]; done) | (simp [rc_kb, c_9, c_21, c_25, c_31, c_38, c_53]; done)
              refine ih_15 (b + 1) (na - (b + 1)) ls (by omega) ⟨rfl, (by omega), ?_⟩
              try dsimp only
              rw [e_15_0]
              exact lv_sub hl [2, 3, 1, 4, 0] rfl
            · skip
              have c_53 : ¬ (((ai 21) (10 * a + b)) = 0) := c_53
              refine lv_aload_n hx hb dX5_keeps_56 rfl (lv_at hl 1 rfl) ?_
              refine lv_iload hx hb dX5_keeps_57 (lv_at hl 4 rfl) ?_
              refine am_iald hx hb hK hP 20 0 rfl rfl b rfl (by omega) (by decide) dX5_keeps_59 ?_
              refine lv_aload_n hx hb dX5_keeps_60 rfl (lv_at hl 1 rfl) ?_
              refine lv_iload_n hx hb dX5_keeps_61 rfl (lv_at hl 3 rfl) ?_
              refine am_iald hx hb hK hP 20 0 rfl rfl a rfl (by omega) (by decide) dX5_keeps_62 ?_
              refine lv_icmp_gt (tgt := 70) hx hb dX5_keeps_63 (by decide) (fun c_63 => ?_) (fun c_63 => ?_)
              · skip
                have c_63 : ((ai 20) a) < ((ai 20) b) := c_63
                refine lv_iconst (v := 0) hx hb dX5_keeps_70 (by decide) ?_
                refine lv_istore_n (lv' := [(2, .int 0), (0, .ref (ad 0)), (1, .ref (ad 20)), (3, .int (nI a)), (4, .int (nI b))]) hx hb dX5_keeps_71 rfl hl (by decide) rfl (fun ls hl => ?_)
                refine lv_iinc (v := nI (b + 1)) (lv' := [(4, .int (nI (b + 1))), (2, .int 0), (0, .ref (ad 0)), (1, .ref (ad 20)), (3, .int (nI a))]) hx hb dX5_keeps_72 hl (k := 4) rfl (nI_1 b) (by decide) rfl (fun ls hl => ?_)
                refine lv_goto (tgt := 15) hx hb dX5_keeps_75 (by decide) ?_
                have e_15_0 : rc_kb (ai 20) (ai 21) a (rc_ka (ai 20) (ai 21) na a) (b + 1) = 0 := by first | rfl | (simp only [rc_kb, c_9, c_21, c_25, c_31, c_38, c_53, c_63, if_true, if_false, eq_self, not_true_eq_false, not_false_eq_true, ite_true, ite_false, ↓reduceIte]; done) | (simp [rc_kb, c_9, c_21, c_25, c_31, c_38, c_53, c_63]; done)
                refine ih_15 (b + 1) (na - (b + 1)) ls (by omega) ⟨rfl, (by omega), ?_⟩
                try dsimp only
                rw [e_15_0]
                exact lv_sub hl [2, 3, 1, 4, 0] rfl
              · skip
                have c_63 : ¬ (((ai 20) a) < ((ai 20) b)) := c_63
                refine lv_iconst (v := 1) hx hb dX5_keeps_66 (by decide) ?_
                refine lv_goto (tgt := 71) hx hb dX5_keeps_67 (by decide) ?_
                refine lv_istore_n (lv' := [(2, .int 1), (0, .ref (ad 0)), (1, .ref (ad 20)), (3, .int (nI a)), (4, .int (nI b))]) hx hb dX5_keeps_71 rfl hl (by decide) rfl (fun ls hl => ?_)
                refine lv_iinc (v := nI (b + 1)) (lv' := [(4, .int (nI (b + 1))), (2, .int 1), (0, .ref (ad 0)), (1, .ref (ad 20)), (3, .int (nI a))]) hx hb dX5_keeps_72 hl (k := 4) rfl (nI_1 b) (by decide) rfl (fun ls hl => ?_)
                refine lv_goto (tgt := 15) hx hb dX5_keeps_75 (by decide) ?_
                have e_15_0 : rc_kb (ai 20) (ai 21) a (rc_ka (ai 20) (ai 21) na a) (b + 1) = 1 := by first | rfl | (simp only [rc_kb, c_9, c_21, c_25, c_31, c_38, c_53, c_63, if_true, if_false, eq_self, not_true_eq_false, not_false_eq_true, ite_true, ite_false, ↓reduceIte]; done) | (simp [rc_kb, c_9, c_21, c_25, c_31, c_38, c_53, c_63]; done)
                refine ih_15 (b + 1) (na - (b + 1)) ls (by omega) ⟨rfl, (by omega), ?_⟩
                try dsimp only
                rw [e_15_0]
                exact lv_sub hl [2, 3, 1, 4, 0] rfl

set_option maxHeartbeats 4000000 in
set_option maxRecDepth 100000 in
theorem c_X5_longestOf (l : Launch) (D : va_G) (ad : Nat → Nat) (cI cL cZ : ClassId) (fi : Nat → Int32) (fl : Nat → Int64) (ai : Nat → Nat → Int32) (al : Nat → Nat → Int64) (na : Nat) (hna : fi 0 = nI na) (hnl : na ≤ 10) : Met l yX5_longestOf wsX5_longestOf (am_rm 0 0) (va_Pc [.ref (ad 0), .ref (ad 20)] (am_R nwL vwCl D (rm_w ad cI cL cZ fi fl ai al) [(cI, .int), (cL, .long), (cZ, .boolean)])) (vp_Sl (fun r => r = rc_lo (ai 20) (al 4) na 4)) 0 0 am_No := by
  refine am_startR (cc := cX5_longestOf) (maxL := 8) (ret := (some .long)) (by decide) rfl (Nat.le_of_ble_eq_true rfl) [(0, .ref (ad 0)), (1, .ref (ad 20))] rfl ?_
  intro p e s m below meth c ls hx hb hr hml hown hts hlocks hP hK hN hl
  have hown : s.vm.findClass RX5 = some m.cls := hown
  have ht := am_ht hts
  have hin_X5 : ∀ w ∈ u_ws RX5 TX5 31, w ∈ wsX5_longestOf := fun w h => List.mem_cons_of_mem _ (am_inX5 w h)
  have hf_19 := ht 434 (.fieldLink RX5 19 "ApartCostModel" "costs" "[J") rfl
  have hf_86 := ht 430 (.fieldLink RX5 86 "ApartCostModel" "count" "I") rfl
  refine lv_lconst (v := 0) hx hb dX5_longestOf_0 (by decide) ?_
  refine lv_lstore_n (lv' := [(2, .long 0), (0, .ref (ad 0)), (1, .ref (ad 20))]) hx hb dX5_longestOf_1 rfl hl (by decide) rfl (fun ls hl => ?_)
  refine lv_iconst (v := 0) hx hb dX5_longestOf_2 (by decide) ?_
  refine lv_istore (lv' := [(4, .int 0), (2, .long 0), (0, .ref (ad 0)), (1, .ref (ad 20))]) hx hb dX5_longestOf_3 hl (by decide) rfl (fun ls hl => ?_)
  refine am_loopR (σ := Nat) (fun q n9 ls => n9 = 4 - q ∧ q ≤ 4 ∧ lv_has ls 8 [(0, .ref (ad 0)), (1, .ref (ad 20)), (2, .long (rc_lo (ai 20) (al 4) na q)), (4, .int (nI q))]) ?_ 0 (4 - 0) ls ⟨rfl, (by omega), lv_sub hl [2, 3, 1, 0] rfl⟩
  rintro q9 n9 ls ⟨hn_5, hkq9, hl⟩ ih_5
  refine lv_iload hx hb dX5_longestOf_5 (lv_at hl 3 rfl) ?_
  refine lv_iconst (v := 4) hx hb dX5_longestOf_7 (by decide) ?_
  refine lv_icmp_ge (tgt := 77) hx hb dX5_longestOf_8 (by decide) (fun c_8 => ?_) (fun c_8 => ?_)
  · skip
    have c_8 : 4 ≤ (nI q9) := c_8
    have hke_8 : 4 ≤ q9 := (am_ge (rfl : (4 : Int32) = nI 4) (by decide) (by omega)).mp c_8
    have hkq_8 : q9 = 4 := by omega
    subst hkq_8
    refine lv_lload_n hx hb dX5_longestOf_77 rfl (lv_at hl 2 rfl) ?_
    exact am_lretR hx hb hr hlocks (by first | rfl | (simp only [c_8, if_true, if_false, eq_self, not_true_eq_false, not_false_eq_true, ite_true, ite_false, ↓reduceIte]; done) | (simp [c_8]; done)) dX5_longestOf_78
  · skip
    have c_8 : ¬ (4 ≤ (nI q9)) := c_8
    have hkl_8 : q9 < 4 := Nat.lt_of_not_le (fun z => c_8 ((am_ge (rfl : (4 : Int32) = nI 4) (by decide) (by omega)).mpr z))
    refine lv_lconst (v := 0) hx hb dX5_longestOf_11 (by decide) ?_
    refine lv_lstore (lv' := [(5, .long 0), (0, .ref (ad 0)), (1, .ref (ad 20)), (2, .long (rc_lo (ai 20) (al 4) na q9)), (4, .int (nI q9))]) hx hb dX5_longestOf_12 hl (by decide) rfl (fun ls hl => ?_)
    refine lv_iconst (v := 0) hx hb dX5_longestOf_14 (by decide) ?_
    refine lv_istore (lv' := [(7, .int 0), (5, .long 0), (0, .ref (ad 0)), (1, .ref (ad 20)), (2, .long (rc_lo (ai 20) (al 4) na q9)), (4, .int (nI q9))]) hx hb dX5_longestOf_15 hl (by decide) rfl (fun ls hl => ?_)
    refine am_loopR (σ := Nat) (fun q n9 ls => n9 = na - q ∧ q ≤ na ∧ lv_has ls 8 [(0, .ref (ad 0)), (1, .ref (ad 20)), (2, .long (rc_lo (ai 20) (al 4) na q9)), (4, .int (nI q9)), (5, .long (rc_ls (ai 20) (al 4) q9 q)), (7, .int (nI q))]) ?_ 0 (na - 0) ls ⟨rfl, (by omega), lv_sub hl [2, 3, 4, 5, 1, 0] rfl⟩
    rintro a n9 ls ⟨hn_17, hka, hl⟩ ih_17
    refine lv_iload hx hb dX5_longestOf_17 (lv_at hl 5 rfl) ?_
    refine lv_aload_n hx hb dX5_longestOf_19 rfl (lv_at hl 0 rfl) ?_
    refine va_get (D := D) (ci := 5) (v := .int (fi 0)) (C := RX5) (T := TX5) (N := 31) hx hb hts hin_X5 hown hK hP 0 rfl rfl 0 (by decide) hf_86 (fun _ h9 => h9) rfl dX5_longestOf_20 ?_
    refine lv_icmp_ge (tgt := 57) hx hb dX5_longestOf_23 (by decide) (fun c_23 => ?_) (fun c_23 => ?_)
    · skip
      have c_23 : (fi 0) ≤ (nI a) := c_23
      have hke_23 : na ≤ a := (am_ge hna (by omega) (by omega)).mp c_23
      have hkq_23 : na = a := by omega
      subst hkq_23
      refine lv_lload hx hb dX5_longestOf_57 (lv_at hl 4 rfl) ?_
      refine lv_lload_n hx hb dX5_longestOf_59 rfl (lv_at hl 2 rfl) ?_
      refine W.lcmp hx hb dX5_longestOf_60 ?_
      refine lv_if_le (tgt := 69) hx hb dX5_longestOf_61 (by decide) (fun c_61 => ?_) (fun c_61 => ?_)
      · skip
        have c_61 : (rc_ls (ai 20) (al 4) q9 na) ≤ (rc_lo (ai 20) (al 4) na q9) := (lg_cmp_le _ _).mp c_61
        refine lv_lload_n hx hb dX5_longestOf_69 rfl (lv_at hl 2 rfl) ?_
        refine lv_lstore_n (lv' := [(2, .long (rc_lo (ai 20) (al 4) na q9)), (0, .ref (ad 0)), (1, .ref (ad 20)), (4, .int (nI q9)), (5, .long (rc_ls (ai 20) (al 4) q9 na)), (7, .int (nI na))]) hx hb dX5_longestOf_70 rfl hl (by decide) rfl (fun ls hl => ?_)
        refine lv_iinc (v := nI (q9 + 1)) (lv' := [(4, .int (nI (q9 + 1))), (2, .long (rc_lo (ai 20) (al 4) na q9)), (0, .ref (ad 0)), (1, .ref (ad 20)), (5, .long (rc_ls (ai 20) (al 4) q9 na)), (7, .int (nI na))]) hx hb dX5_longestOf_71 hl (k := 3) rfl (nI_1 q9) (by decide) rfl (fun ls hl => ?_)
        refine lv_goto (tgt := 5) hx hb dX5_longestOf_74 (by decide) ?_
        have e_5_0 : rc_lo (ai 20) (al 4) na (q9 + 1) = rc_lo (ai 20) (al 4) na q9 := by first | rfl | (simp only [rc_lo, c_8, c_23, c_61, if_true, if_false, eq_self, not_true_eq_false, not_false_eq_true, ite_true, ite_false, ↓reduceIte]; done) | (simp [rc_lo, c_8, c_23, c_61]; done)
        refine ih_5 (q9 + 1) (4 - (q9 + 1)) ls (by omega) ⟨rfl, (by omega), ?_⟩
        try dsimp only
        rw [e_5_0]
        exact lv_sub hl [2, 3, 1, 0] rfl
      · skip
        have c_61 : ¬ ((rc_ls (ai 20) (al 4) q9 na) ≤ (rc_lo (ai 20) (al 4) na q9)) := (fun z => c_61 ((lg_cmp_le _ _).mpr z))
        refine lv_lload hx hb dX5_longestOf_64 (lv_at hl 4 rfl) ?_
        refine lv_goto (tgt := 70) hx hb dX5_longestOf_66 (by decide) ?_
        refine lv_lstore_n (lv' := [(2, .long (rc_ls (ai 20) (al 4) q9 na)), (0, .ref (ad 0)), (1, .ref (ad 20)), (4, .int (nI q9)), (5, .long (rc_ls (ai 20) (al 4) q9 na)), (7, .int (nI na))]) hx hb dX5_longestOf_70 rfl hl (by decide) rfl (fun ls hl => ?_)
        refine lv_iinc (v := nI (q9 + 1)) (lv' := [(4, .int (nI (q9 + 1))), (2, .long (rc_ls (ai 20) (al 4) q9 na)), (0, .ref (ad 0)), (1, .ref (ad 20)), (5, .long (rc_ls (ai 20) (al 4) q9 na)), (7, .int (nI na))]) hx hb dX5_longestOf_71 hl (k := 3) rfl (nI_1 q9) (by decide) rfl (fun ls hl => ?_)
        refine lv_goto (tgt := 5) hx hb dX5_longestOf_74 (by decide) ?_
        have e_5_0 : rc_lo (ai 20) (al 4) na (q9 + 1) = rc_ls (ai 20) (al 4) q9 na := by first | rfl | (simp only [rc_lo, c_8, c_23, c_61, if_true, if_false, eq_self, not_true_eq_false, not_false_eq_true, ite_true, ite_false, ↓reduceIte]; done) | (simp [rc_lo, c_8, c_23, c_61]; done)
        refine ih_5 (q9 + 1) (4 - (q9 + 1)) ls (by omega) ⟨rfl, (by omega), ?_⟩
        try dsimp only
        rw [e_5_0]
        exact lv_sub hl [2, 3, 1, 0] rfl
    · skip
      have c_23 : ¬ ((fi 0) ≤ (nI a)) := c_23
      have hkl_23 : a < na := Nat.lt_of_not_le (fun z => c_23 ((am_ge hna (by omega) (by omega)).mpr z))
      refine lv_lload hx hb dX5_longestOf_26 (lv_at hl 4 rfl) ?_
      refine lv_aload_n hx hb dX5_longestOf_28 rfl (lv_at hl 1 rfl) ?_
      refine lv_iload hx hb dX5_longestOf_29 (lv_at hl 5 rfl) ?_
      refine am_iald hx hb hK hP 20 0 rfl rfl a rfl (by omega) (by decide) dX5_longestOf_31 ?_
      refine lv_iload hx hb dX5_longestOf_32 (lv_at hl 3 rfl) ?_
      refine lv_icmp_ne (tgt := 47) hx hb dX5_longestOf_34 (by decide) (fun c_34 => ?_) (fun c_34 => ?_)
      · skip
        have c_34 : ¬ ((ai 20) a) = (nI q9) := c_34
        refine lv_lconst (v := 0) hx hb dX5_longestOf_47 (by decide) ?_
        refine lv_ladd hx hb dX5_longestOf_48 ?_
        refine lv_lstore (lv' := [(5, .long ((rc_ls (ai 20) (al 4) q9 a) + 0)), (0, .ref (ad 0)), (1, .ref (ad 20)), (2, .long (rc_lo (ai 20) (al 4) na q9)), (4, .int (nI q9)), (7, .int (nI a))]) hx hb dX5_longestOf_49 hl (by decide) rfl (fun ls hl => ?_)
        refine lv_iinc (v := nI (a + 1)) (lv' := [(7, .int (nI (a + 1))), (5, .long ((rc_ls (ai 20) (al 4) q9 a) + 0)), (0, .ref (ad 0)), (1, .ref (ad 20)), (2, .long (rc_lo (ai 20) (al 4) na q9)), (4, .int (nI q9))]) hx hb dX5_longestOf_51 hl (k := 5) rfl (nI_1 a) (by decide) rfl (fun ls hl => ?_)
        refine lv_goto (tgt := 17) hx hb dX5_longestOf_54 (by decide) ?_
        have e_17_0 : rc_ls (ai 20) (al 4) q9 (a + 1) = (rc_ls (ai 20) (al 4) q9 a) + 0 := by first | rfl | (simp only [rc_ls, c_8, c_23, c_34, if_true, if_false, eq_self, not_true_eq_false, not_false_eq_true, ite_true, ite_false, ↓reduceIte]; done) | (simp [rc_ls, c_8, c_23, c_34]; done)
        refine ih_17 (a + 1) (na - (a + 1)) ls (by omega) ⟨rfl, (by omega), ?_⟩
        try dsimp only
        rw [e_17_0]
        exact lv_sub hl [2, 3, 4, 5, 1, 0] rfl
      · skip
        have c_34 : ((ai 20) a) = (nI q9) := c_34
        refine lv_aload_n hx hb dX5_longestOf_37 rfl (lv_at hl 0 rfl) ?_
        refine va_get (D := D) (ci := 5) (v := .ref (ad 4)) (C := RX5) (T := TX5) (N := 31) hx hb hts hin_X5 hown hK hP 0 rfl rfl 4 (by decide) hf_19 (fun _ h9 => h9) rfl dX5_longestOf_38 ?_
        refine lv_iload hx hb dX5_longestOf_41 (lv_at hl 5 rfl) ?_
        refine am_lald hx hb hK hP 4 1 rfl rfl a rfl (by omega) (by decide) dX5_longestOf_43 ?_
        refine lv_goto (tgt := 48) hx hb dX5_longestOf_44 (by decide) ?_
        refine lv_ladd hx hb dX5_longestOf_48 ?_
        refine lv_lstore (lv' := [(5, .long ((rc_ls (ai 20) (al 4) q9 a) + ((al 4) a))), (0, .ref (ad 0)), (1, .ref (ad 20)), (2, .long (rc_lo (ai 20) (al 4) na q9)), (4, .int (nI q9)), (7, .int (nI a))]) hx hb dX5_longestOf_49 hl (by decide) rfl (fun ls hl => ?_)
        refine lv_iinc (v := nI (a + 1)) (lv' := [(7, .int (nI (a + 1))), (5, .long ((rc_ls (ai 20) (al 4) q9 a) + ((al 4) a))), (0, .ref (ad 0)), (1, .ref (ad 20)), (2, .long (rc_lo (ai 20) (al 4) na q9)), (4, .int (nI q9))]) hx hb dX5_longestOf_51 hl (k := 5) rfl (nI_1 a) (by decide) rfl (fun ls hl => ?_)
        refine lv_goto (tgt := 17) hx hb dX5_longestOf_54 (by decide) ?_
        have e_17_0 : rc_ls (ai 20) (al 4) q9 (a + 1) = (rc_ls (ai 20) (al 4) q9 a) + ((al 4) a) := by first | rfl | (simp only [rc_ls, c_8, c_23, c_34, if_true, if_false, eq_self, not_true_eq_false, not_false_eq_true, ite_true, ite_false, ↓reduceIte]; done) | (simp [rc_ls, c_8, c_23, c_34]; done)
        refine ih_17 (a + 1) (na - (a + 1)) ls (by omega) ⟨rfl, (by omega), ?_⟩
        try dsimp only
        rw [e_17_0]
        exact lv_sub hl [2, 3, 4, 5, 1, 0] rfl

set_option maxHeartbeats 4000000 in
set_option maxRecDepth 100000 in
theorem c_X5_next (l : Launch) (D : va_G) (ad : Nat → Nat) (cI cL cZ : ClassId) (fi : Nat → Int32) (fl : Nat → Int64) (ai : Nat → Nat → Int32) (al : Nat → Nat → Int64) (A : Nat → Prop) (st : Nat) (na : Nat) (hna : fi 0 = nI na) (hnl : na ≤ 10) : Met l yX5_next wsX5_next (am_rm 0 0) (va_Pc [.ref (ad 0), .int (nI st)] (am_M nwL vwCl D A (rm_w ad cI cL cZ fi fl ai al) [(cI, .int), (cL, .long), (cZ, .boolean)])) (am_Mi vwCl D ((rc_next (nI st) na (ai 20)).2) (rm_w ad cI cL cZ fi fl (va_up ai 20 ((rc_next (nI st) na (ai 20)).1)) al) A) 0 0 A := by
  refine am_startM (cc := cX5_next) (maxL := 3) (ret := (some .boolean)) (by decide) rfl (Nat.le_of_ble_eq_true rfl) [(0, .ref (ad 0)), (1, .int (nI st))] rfl ?_
  intro p e s m below meth c ls hx hb hr hml hown hts hlocks hK hN hD H locs hP hS hl
  have hown : s.vm.findClass RX5 = some m.cls := hown
  have ht := am_ht hts
  have hin_X5 : ∀ w ∈ u_ws RX5 TX5 31, w ∈ wsX5_next := fun w h => List.mem_cons_of_mem _ (am_inX5 w h)
  have hf_76 := ht 459 (.fieldLink RX5 76 "ApartCostModel" "tried" "[I") rfl
  have hf_86 := ht 430 (.fieldLink RX5 86 "ApartCostModel" "count" "I") rfl
  refine lv_aload_n hx hb dX5_next_0 rfl (lv_at hl 0 rfl) ?_
  refine va_get (D := D) (ci := 5) (v := .int (fi 0)) (C := RX5) (T := TX5) (N := 31) hx hb hts hin_X5 hown hK hP 0 rfl rfl 0 (by decide) hf_86 (fun _ h9 => h9) rfl dX5_next_1 ?_
  refine lv_iconst (v := 1) hx hb dX5_next_4 (by decide) ?_
  refine lv_isub hx hb dX5_next_5 ?_
  refine am_topi (ac_la_sub hna) ?_
  refine lv_istore_n (lv' := [(2, .int (ac_la na)), (0, .ref (ad 0)), (1, .int (nI st))]) hx hb dX5_next_6 rfl hl (by decide) rfl (fun ls hl => ?_)
  refine am_loop (σ := (Nat) × (Nat → Int32)) (fun q n9 H locs ls => n9 = q.1 ∧ q.1 ≤ na ∧ rc_next (nI st) q.1 q.2 = rc_next (nI st) na (ai 20) ∧ va_P D vwCl (rm_w ad cI cL cZ fi fl (va_up ai 20 q.2) al) H ∧ va_S A s.heap H locs ∧ lv_has ls 3 [(0, .ref (ad 0)), (1, .int (nI st)), (2, .int (ac_la q.1))]) ?_ (na, (ai 20)) (na) H locs ls ⟨rfl, (by first | omega | (dsimp only; omega)), rfl, hP, hS, lv_sub hl [1, 2, 0] rfl⟩
  rintro ⟨j, ff⟩ n9 H locs ls ⟨hn_7, hjk, hm, hP, hS, hl⟩ ih_7
  dsimp only at hn_7 hjk hm hP hl
  have hD : va_D A (rm_w ad cI cL cZ fi fl (va_up ai 20 ff) al) := am_D hD rfl
  refine lv_iload_n hx hb dX5_next_7 rfl (lv_at hl 2 rfl) ?_
  refine lv_if_lt (tgt := 70) hx hb dX5_next_8 (by decide) (fun c_8 => ?_) (fun c_8 => ?_)
  · skip
    have c_8 : (ac_la j) < 0 := c_8
    obtain rfl : j = 0 := (ac_la_lt (by omega)).mp c_8
    have hl : lv_has ls 3 [(0, .ref (ad 0)), (1, .int (nI st)), (2, .int (-1))] := hl
    refine lv_iconst (v := 0) hx hb dX5_next_70 (by decide) ?_
    have hq : (rc_next (nI st) na (ai 20)) = (ff, 0) := by rw [← hm, rc_next]
    exact am_zretM hx hb hr hlocks (Or.inl rfl) (by rw [hq]; exact hP) hS (by rw [hq]) dX5_next_71
  · skip
    have c_8 : ¬ ((ac_la j) < 0) := c_8
    obtain ⟨a, rfl⟩ : ∃ z, j = z + 1 := by cases j with | zero => exact absurd (by decide +kernel) c_8 | succ z => exact ⟨z, rfl⟩
    have hl : lv_has ls 3 [(0, .ref (ad 0)), (1, .int (nI st)), (2, .int (nI a))] := hl
    refine lv_aload_n hx hb dX5_next_11 rfl (lv_at hl 0 rfl) ?_
    refine va_get (D := D) (ci := 5) (v := .ref (ad 20)) (C := RX5) (T := TX5) (N := 31) hx hb hts hin_X5 hown hK hP 0 rfl rfl 29 (by decide) hf_76 (fun _ h9 => h9) rfl dX5_next_12 ?_
    refine lv_iload_n hx hb dX5_next_15 rfl (lv_at hl 2 rfl) ?_
    refine am_iald hx hb hK hP 20 0 rfl rfl a rfl (by omega) (by decide) dX5_next_16 ?_
    refine lv_if_lt (tgt := 44) hx hb dX5_next_17 (by decide) (fun c_17 => ?_) (fun c_17 => ?_)
    · skip
      have c_17 : (ff a) < 0 := c_17
      refine lv_aload_n hx hb dX5_next_44 rfl (lv_at hl 0 rfl) ?_
      refine va_get (D := D) (ci := 5) (v := .ref (ad 20)) (C := RX5) (T := TX5) (N := 31) hx hb hts hin_X5 hown hK hP 0 rfl rfl 29 (by decide) hf_76 (fun _ h9 => h9) rfl dX5_next_45 ?_
      refine lv_iload_n hx hb dX5_next_48 rfl (lv_at hl 2 rfl) ?_
      refine lv_aload_n hx hb dX5_next_49 rfl (lv_at hl 0 rfl) ?_
      refine va_get (D := D) (ci := 5) (v := .ref (ad 20)) (C := RX5) (T := TX5) (N := 31) hx hb hts hin_X5 hown hK hP 0 rfl rfl 29 (by decide) hf_76 (fun _ h9 => h9) rfl dX5_next_50 ?_
      refine lv_iload_n hx hb dX5_next_53 rfl (lv_at hl 2 rfl) ?_
      refine am_iald hx hb hK hP 20 0 rfl rfl a rfl (by omega) (by decide) dX5_next_54 ?_
      refine lv_if_ge (tgt := 62) hx hb dX5_next_55 (by decide) (fun c_55 => ?_) (fun c_55 => ?_)
      · skip
        have c_55 : 0 ≤ (ff a) := c_55
        exact absurd c_17 (Int32.not_lt.mpr c_55)
      · skip
        have c_55 : ¬ (0 ≤ (ff a)) := c_55
        refine lv_iconst (v := (-1)) hx hb dX5_next_58 (by decide) ?_
        refine lv_goto (tgt := 63) hx hb dX5_next_59 (by decide) ?_
        refine am_iast hx hb hK hP hD hS 20 0 rfl rfl a rfl (by omega) (by decide) (rm_w ad cI cL cZ fi fl (va_up ai 20 (upd ff a (-1))) al) rfl dX5_next_63 (fun H locs hP hD hS => ?_)
        refine lv_iinc (v := ac_la a) (lv' := [(2, .int (ac_la a)), (0, .ref (ad 0)), (1, .int (nI st))]) hx hb dX5_next_64 hl (k := 2) rfl (ac_la_dec a) (by decide) rfl (fun ls hl => ?_)
        refine lv_goto (tgt := 7) hx hb dX5_next_67 (by decide) ?_
        refine ih_7 (a, (upd ff a (-1))) (a) H locs ls (by first | omega | (dsimp only; omega)) ⟨rfl, (by first | omega | (dsimp only; omega)), (by dsimp only; rw [← hm, rc_next]; rw [if_pos c_17]), ?_, hS, ?_⟩
        · exact hP
        · exact lv_sub hl [1, 2, 0] rfl
    · skip
      have c_17 : ¬ ((ff a) < 0) := c_17
      refine lv_aload_n hx hb dX5_next_20 rfl (lv_at hl 0 rfl) ?_
      refine va_get (D := D) (ci := 5) (v := .ref (ad 20)) (C := RX5) (T := TX5) (N := 31) hx hb hts hin_X5 hown hK hP 0 rfl rfl 29 (by decide) hf_76 (fun _ h9 => h9) rfl dX5_next_21 ?_
      refine lv_iload_n hx hb dX5_next_24 rfl (lv_at hl 2 rfl) ?_
      refine am_iald hx hb hK hP 20 0 rfl rfl a rfl (by omega) (by decide) dX5_next_25 ?_
      refine lv_iload_n hx hb dX5_next_26 rfl (lv_at hl 1 rfl) ?_
      refine lv_iconst (v := 1) hx hb dX5_next_27 (by decide) ?_
      refine lv_isub hx hb dX5_next_28 ?_
      refine lv_icmp_ge (tgt := 44) hx hb dX5_next_29 (by decide) (fun c_29 => ?_) (fun c_29 => ?_)
      · skip
        have c_29 : ((nI st) - 1) ≤ (ff a) := c_29
        refine lv_aload_n hx hb dX5_next_44 rfl (lv_at hl 0 rfl) ?_
        refine va_get (D := D) (ci := 5) (v := .ref (ad 20)) (C := RX5) (T := TX5) (N := 31) hx hb hts hin_X5 hown hK hP 0 rfl rfl 29 (by decide) hf_76 (fun _ h9 => h9) rfl dX5_next_45 ?_
        refine lv_iload_n hx hb dX5_next_48 rfl (lv_at hl 2 rfl) ?_
        refine lv_aload_n hx hb dX5_next_49 rfl (lv_at hl 0 rfl) ?_
        refine va_get (D := D) (ci := 5) (v := .ref (ad 20)) (C := RX5) (T := TX5) (N := 31) hx hb hts hin_X5 hown hK hP 0 rfl rfl 29 (by decide) hf_76 (fun _ h9 => h9) rfl dX5_next_50 ?_
        refine lv_iload_n hx hb dX5_next_53 rfl (lv_at hl 2 rfl) ?_
        refine am_iald hx hb hK hP 20 0 rfl rfl a rfl (by omega) (by decide) dX5_next_54 ?_
        refine lv_if_ge (tgt := 62) hx hb dX5_next_55 (by decide) (fun c_55 => ?_) (fun c_55 => ?_)
        · skip
          have c_55 : 0 ≤ (ff a) := c_55
          refine lv_iconst (v := 0) hx hb dX5_next_62 (by decide) ?_
          refine am_iast hx hb hK hP hD hS 20 0 rfl rfl a rfl (by omega) (by decide) (rm_w ad cI cL cZ fi fl (va_up ai 20 (upd ff a 0)) al) rfl dX5_next_63 (fun H locs hP hD hS => ?_)
          refine lv_iinc (v := ac_la a) (lv' := [(2, .int (ac_la a)), (0, .ref (ad 0)), (1, .int (nI st))]) hx hb dX5_next_64 hl (k := 2) rfl (ac_la_dec a) (by decide) rfl (fun ls hl => ?_)
          refine lv_goto (tgt := 7) hx hb dX5_next_67 (by decide) ?_
          refine ih_7 (a, (upd ff a 0)) (a) H locs ls (by first | omega | (dsimp only; omega)) ⟨rfl, (by first | omega | (dsimp only; omega)), (by dsimp only; rw [← hm, rc_next]; rw [if_neg c_17, if_pos c_29]), ?_, hS, ?_⟩
          · exact hP
          · exact lv_sub hl [1, 2, 0] rfl
        · skip
          have c_55 : ¬ (0 ≤ (ff a)) := c_55
          exact absurd (Int32.not_lt.mp c_17) c_55
      · skip
        have c_29 : ¬ (((nI st) - 1) ≤ (ff a)) := c_29
        refine lv_aload_n hx hb dX5_next_32 rfl (lv_at hl 0 rfl) ?_
        refine va_get (D := D) (ci := 5) (v := .ref (ad 20)) (C := RX5) (T := TX5) (N := 31) hx hb hts hin_X5 hown hK hP 0 rfl rfl 29 (by decide) hf_76 (fun _ h9 => h9) rfl dX5_next_33 ?_
        refine lv_iload_n hx hb dX5_next_36 rfl (lv_at hl 2 rfl) ?_
        refine lv_dup2_11 hx hb dX5_next_37 rfl rfl ?_
        refine am_iald hx hb hK hP 20 0 rfl rfl a rfl (by omega) (by decide) dX5_next_38 ?_
        refine lv_iconst (v := 1) hx hb dX5_next_39 (by decide) ?_
        refine lv_iadd hx hb dX5_next_40 ?_
        refine am_iast hx hb hK hP hD hS 20 0 rfl rfl a rfl (by omega) (by decide) (rm_w ad cI cL cZ fi fl (va_up ai 20 (upd ff a ((ff a) + 1))) al) rfl dX5_next_41 (fun H locs hP hD hS => ?_)
        refine lv_iconst (v := 1) hx hb dX5_next_42 (by decide) ?_
        have hq : (rc_next (nI st) na (ai 20)) = (upd ff a (ff a + 1), 1) := by rw [← hm, rc_next, if_neg c_17, if_neg c_29]
        exact am_zretM hx hb hr hlocks (Or.inr rfl) (by rw [hq]; exact hP) hS (by rw [hq]) dX5_next_43

set_option maxHeartbeats 4000000 in
set_option maxRecDepth 100000 in
theorem c_X5_bestWith (l : Launch) (D : va_G) (ad : Nat → Nat) (cI cL cZ : ClassId) (fi : Nat → Int32) (fl : Nat → Int64) (ai : Nat → Nat → Int32) (al : Nat → Nat → Int64) (A : Nat → Prop) (x : Int32) (y : Int32) (na : Nat) (nr : Nat) (hna : fi 0 = nI na) (hnl : na ≤ 10) (hnr : fi 1 = nI nr) (hnrl : nr ≤ 16) (hbe : ∀ p, p < 12 → ¬ ((ai 11) p).toInt64 = 0) (hto : ∀ a, a < na → ∃ t, t < 6 ∧ (ai 2) a = nI t) (hsi : ∀ a, a < na → ∃ t, t < 6 ∧ (ai 3) a = nI t) : Met l yX5_bestWith wsX5_bestWith (am_rm 4 101) (va_Pc [.ref (ad 0), .int x, .int y] (am_M nwL vwCl D A (rm_w ad cI cL cZ fi fl ai al) [(cI, .int), (cL, .long), (cZ, .boolean)])) (am_Ml vwCl D ((rc_best (rc_no (ai 6) na (ai 17) na) (rc_step (ai 2) (ai 3) (al 4) (al 7) (al 8)) (rc_vals (rc_val (ai 1) (ai 5) (ai 10) (ai 11) (ai 12) (al 9) (al 13) x y na nr) (al 19) (2 ^ na)) na 0 0 0 (al 18)).1) (rm_w ad cI cL cZ (upd (upd fi 7 (-1)) 8 y) fl (va_up ai 17 (rc_no (ai 6) na (ai 17) na)) (va_up (va_up al 18 ((rc_best (rc_no (ai 6) na (ai 17) na) (rc_step (ai 2) (ai 3) (al 4) (al 7) (al 8)) (rc_vals (rc_val (ai 1) (ai 5) (ai 10) (ai 11) (ai 12) (al 9) (al 13) x y na nr) (al 19) (2 ^ na)) na 0 0 0 (al 18)).2)) 19 (rc_vals (rc_val (ai 1) (ai 5) (ai 10) (ai 11) (ai 12) (al 9) (al 13) x y na nr) (al 19) (2 ^ na)))) A) 0 0 A := by
  refine am_startM (cc := cX5_bestWith) (maxL := 5) (ret := (some .long)) (by decide) rfl (Nat.le_of_ble_eq_true rfl) [(0, .ref (ad 0)), (1, .int x), (2, .int y)] rfl ?_
  intro p e s m below meth c ls hx hb hr hml hown hts hlocks hK hN hD H locs hP hS hl
  have hown : s.vm.findClass RX5 = some m.cls := hown
  have ht := am_ht hts
  have hin_X5 : ∀ w ∈ u_ws RX5 TX5 31, w ∈ wsX5_bestWith := fun w h => List.mem_cons_of_mem _ (am_inX5 w h)
  have hf_127 := ht 455 (.fieldLink RX5 127 "ApartCostModel" "testedAs" "I") rfl
  have hf_64 := ht 454 (.fieldLink RX5 64 "ApartCostModel" "tested" "I") rfl
  have hp2 := am_p2 hnl
  refine lv_aload_n hx hb dX5_bestWith_0 rfl (lv_at hl 0 rfl) ?_
  refine lv_iload_n hx hb dX5_bestWith_1 rfl (lv_at hl 1 rfl) ?_
  refine va_put (D := D) (ci := 5) (v := .int x) (ty := .int) (C := RX5) (T := TX5) (N := 31) hx hb hts hin_X5 tyX5 tyX5_ok nmX5 hown hK hP hD hS 0 rfl rfl 24 (by decide) hf_64 (fun _ h9 => h9) rfl (by decide +kernel) rfl rfl (Nat.le_of_ble_eq_true rfl) dX5_bestWith_2 (fun H locs hP hD hS => ?_)
  have hP : va_P D vwCl (rm_w ad cI cL cZ (upd fi 7 x) fl ai al) H := hP
  have hD : va_D A (rm_w ad cI cL cZ (upd fi 7 x) fl ai al) := am_D hD rfl
  refine lv_aload_n hx hb dX5_bestWith_5 rfl (lv_at hl 0 rfl) ?_
  refine lv_iload_n hx hb dX5_bestWith_6 rfl (lv_at hl 2 rfl) ?_
  refine va_put (D := D) (ci := 5) (v := .int y) (ty := .int) (C := RX5) (T := TX5) (N := 31) hx hb hts hin_X5 tyX5 tyX5_ok nmX5 hown hK hP hD hS 0 rfl rfl 25 (by decide) hf_127 (fun _ h9 => h9) rfl (by decide +kernel) rfl rfl (Nat.le_of_ble_eq_true rfl) dX5_bestWith_7 (fun H locs hP hD hS => ?_)
  have hP : va_P D vwCl (rm_w ad cI cL cZ (upd (upd fi 7 x) 8 y) fl ai al) H := hP
  have hD : va_D A (rm_w ad cI cL cZ (upd (upd fi 7 x) 8 y) fl ai al) := am_D hD rfl
  refine lv_aload_n hx hb dX5_bestWith_10 rfl (lv_at hl 0 rfl) ?_
  refine am_callMv (va_runV (As := []) (rest := []) ⟨hx, hb, hml, hown, hts⟩ (c_X5_reckonValues l D ad cI cL cZ (upd (upd fi 7 x) 8 y) fl ai al A na nr hna hnl hnr hnrl hbe) (cwV 0 hts (am_gV (am_in 562 rfl) (am_in 563 rfl) (am_in 15 rfl) (am_in 35 rfl) (am_in 564 rfl)) rfl rfl rfl (by decide +kernel) ⟨Nat.le_of_ble_eq_true rfl, Nat.le_of_ble_eq_true rfl⟩) (am_preVM 5 0 rfl rfl rfl hP hK hN hD) rfl rfl hl.1 rfl (lv_room (Nat.le_of_ble_eq_true rfl)) dX5_bestWith_11 ⟨Nat.zero_le _, Nat.zero_le _⟩) hS (fun H locs hP hS => ?_)
  have hP : va_P D vwCl (rm_w ad cI cL cZ (upd (upd fi 7 x) 8 y) fl (va_up ai 17 (rc_no (ai 6) na (ai 17) na)) (va_up al 19 (rc_vals (rc_val (ai 1) (ai 5) (ai 10) (ai 11) (ai 12) (al 9) (al 13) x y na nr) (al 19) (2 ^ na)))) H := hP
  have hD : va_D A (rm_w ad cI cL cZ (upd (upd fi 7 x) 8 y) fl (va_up ai 17 (rc_no (ai 6) na (ai 17) na)) (va_up al 19 (rc_vals (rc_val (ai 1) (ai 5) (ai 10) (ai 11) (ai 12) (al 9) (al 13) x y na nr) (al 19) (2 ^ na)))) := am_D hD rfl
  refine lv_aload_n hx hb dX5_bestWith_14 rfl (lv_at hl 0 rfl) ?_
  refine lv_iconst (v := 0) hx hb dX5_bestWith_15 (by decide) ?_
  refine lv_iconst (v := (-1)) hx hb dX5_bestWith_16 (by decide) ?_
  refine lv_lconst (v := 0) hx hb dX5_bestWith_17 (by decide) ?_
  refine am_callMl (va_runV (As := [.int 0, .int (-1), .long 0]) (rest := []) ⟨hx, hb, hml, hown, hts⟩ (c_X5_bestFrom l D ad cI cL cZ (upd (upd fi 7 x) 8 y) fl (va_up ai 17 (rc_no (ai 6) na (ai 17) na)) (va_up al 19 (rc_vals (rc_val (ai 1) (ai 5) (ai 10) (ai 11) (ai 12) (al 9) (al 13) x y na nr) (al 19) (2 ^ na))) A 0 0 0 na hna hnl hto hsi (by omega) (by omega)) (cwV 3 hts (am_gV (am_in 575 rfl) (am_in 576 rfl) (am_in 19 rfl) (am_in 35 rfl) (am_in 577 rfl)) rfl rfl rfl (by decide +kernel) ⟨Nat.le_of_ble_eq_true rfl, Nat.le_of_ble_eq_true rfl⟩) (am_preVM 5 0 rfl rfl rfl hP hK hN hD) rfl rfl hl.1 rfl (lv_room (Nat.le_of_ble_eq_true rfl)) dX5_bestWith_18 ⟨Nat.zero_le _, Nat.zero_le _⟩) hS (fun H locs hP hS => ?_)
  have hP : va_P D vwCl (rm_w ad cI cL cZ (upd (upd fi 7 x) 8 y) fl (va_up ai 17 (rc_no (ai 6) na (ai 17) na)) (va_up (va_up al 18 ((rc_best (rc_no (ai 6) na (ai 17) na) (rc_step (ai 2) (ai 3) (al 4) (al 7) (al 8)) (rc_vals (rc_val (ai 1) (ai 5) (ai 10) (ai 11) (ai 12) (al 9) (al 13) x y na nr) (al 19) (2 ^ na)) na 0 0 0 (al 18)).2)) 19 (rc_vals (rc_val (ai 1) (ai 5) (ai 10) (ai 11) (ai 12) (al 9) (al 13) x y na nr) (al 19) (2 ^ na)))) H := hP
  have hD : va_D A (rm_w ad cI cL cZ (upd (upd fi 7 x) 8 y) fl (va_up ai 17 (rc_no (ai 6) na (ai 17) na)) (va_up (va_up al 18 ((rc_best (rc_no (ai 6) na (ai 17) na) (rc_step (ai 2) (ai 3) (al 4) (al 7) (al 8)) (rc_vals (rc_val (ai 1) (ai 5) (ai 10) (ai 11) (ai 12) (al 9) (al 13) x y na nr) (al 19) (2 ^ na)) na 0 0 0 (al 18)).2)) 19 (rc_vals (rc_val (ai 1) (ai 5) (ai 10) (ai 11) (ai 12) (al 9) (al 13) x y na nr) (al 19) (2 ^ na)))) := am_D hD rfl
  refine lv_lstore_n (lv' := [(3, .long ((rc_best (rc_no (ai 6) na (ai 17) na) (rc_step (ai 2) (ai 3) (al 4) (al 7) (al 8)) (rc_vals (rc_val (ai 1) (ai 5) (ai 10) (ai 11) (ai 12) (al 9) (al 13) x y na nr) (al 19) (2 ^ na)) na 0 0 0 (al 18)).1)), (0, .ref (ad 0)), (1, .int x), (2, .int y)]) hx hb dX5_bestWith_21 rfl hl (by decide) rfl (fun ls hl => ?_)
  refine lv_aload_n hx hb dX5_bestWith_22 rfl (lv_at hl 1 rfl) ?_
  refine lv_iconst (v := (-1)) hx hb dX5_bestWith_23 (by decide) ?_
  refine va_put (D := D) (ci := 5) (v := .int (-1)) (ty := .int) (C := RX5) (T := TX5) (N := 31) hx hb hts hin_X5 tyX5 tyX5_ok nmX5 hown hK hP hD hS 0 rfl rfl 24 (by decide) hf_64 (fun _ h9 => h9) rfl (by decide +kernel) rfl rfl (Nat.le_of_ble_eq_true rfl) dX5_bestWith_24 (fun H locs hP hD hS => ?_)
  have hP : va_P D vwCl (rm_w ad cI cL cZ (upd (upd fi 7 (-1)) 8 y) fl (va_up ai 17 (rc_no (ai 6) na (ai 17) na)) (va_up (va_up al 18 ((rc_best (rc_no (ai 6) na (ai 17) na) (rc_step (ai 2) (ai 3) (al 4) (al 7) (al 8)) (rc_vals (rc_val (ai 1) (ai 5) (ai 10) (ai 11) (ai 12) (al 9) (al 13) x y na nr) (al 19) (2 ^ na)) na 0 0 0 (al 18)).2)) 19 (rc_vals (rc_val (ai 1) (ai 5) (ai 10) (ai 11) (ai 12) (al 9) (al 13) x y na nr) (al 19) (2 ^ na)))) H := hP
  have hD : va_D A (rm_w ad cI cL cZ (upd (upd fi 7 (-1)) 8 y) fl (va_up ai 17 (rc_no (ai 6) na (ai 17) na)) (va_up (va_up al 18 ((rc_best (rc_no (ai 6) na (ai 17) na) (rc_step (ai 2) (ai 3) (al 4) (al 7) (al 8)) (rc_vals (rc_val (ai 1) (ai 5) (ai 10) (ai 11) (ai 12) (al 9) (al 13) x y na nr) (al 19) (2 ^ na)) na 0 0 0 (al 18)).2)) 19 (rc_vals (rc_val (ai 1) (ai 5) (ai 10) (ai 11) (ai 12) (al 9) (al 13) x y na nr) (al 19) (2 ^ na)))) := am_D hD rfl
  refine lv_lload_n hx hb dX5_bestWith_27 rfl (lv_at hl 0 rfl) ?_
  exact am_lretM hx hb hr hlocks hP hS rfl dX5_bestWith_28
set_option maxHeartbeats 4000000 in
set_option maxRecDepth 100000 in
theorem c_X5_sure (l : Launch) (D : va_G) (ad : Nat → Nat) (cI cL cZ : ClassId) (fi : Nat → Int32) (fl : Nat → Int64) (ai : Nat → Nat → Int32) (al : Nat → Nat → Int64) (A : Nat → Prop) (x : Int32) (u : Int64) (v : Int64) : Met l yX5_sure wsX5_sure (am_rm 1 20) (va_Pc [.ref (ad 0), .int x, .long u, .long v] (am_M nwL vwCl D A (rm_w ad cI cL cZ fi fl ai al) [(cI, .int), (cL, .long), (cZ, .boolean)])) (am_Mi vwCl D (if ac_surOk x u v then 1 else 0) (rm_w ad cI cL cZ (upd fi 3 (if ac_surOk x u v then 0 else (fi 3))) fl (va_up (va_up ai 10 (if ac_surOk x u v then upd (ai 10) x.toNatClampNeg u.toInt32 else (ai 10))) 11 (if ac_surOk x u v then upd (ai 11) x.toNatClampNeg v.toInt32 else (ai 11))) al) A) 0 0 A := by
  refine am_startM (cc := cX5_sure) (maxL := 6) (ret := (some .boolean)) (by decide) rfl (Nat.le_of_ble_eq_true rfl) [(0, .ref (ad 0)), (1, .int x), (2, .long u), (4, .long v)] rfl ?_
  intro p e s m below meth c ls hx hb hr hml hown hts hlocks hK hN hD H locs hP hS hl
  have hown : s.vm.findClass RX5 = some m.cls := hown
  have ht := am_ht hts
  have hin_X5 : ∀ w ∈ u_ws RX5 TX5 31, w ∈ wsX5_sure := fun w h => List.mem_cons_of_mem _ (am_inX5 w h)
  have hf_39 := ht 440 (.fieldLink RX5 39 "ApartCostModel" "above" "[I") rfl
  have hf_42 := ht 441 (.fieldLink RX5 42 "ApartCostModel" "below" "[I") rfl
  have hf_97 := ht 449 (.fieldLink RX5 97 "ApartCostModel" "isFresh" "Z") rfl
  refine lv_iload_n hx hb dX5_sure_0 rfl (lv_at hl 1 rfl) ?_
  refine am_callRi (W.runS (As := [.int x]) (rest := []) ⟨hx, hb, hml, hown, hts⟩ (c_X5_isPart l D _ _ x) (va_cwS 1 hts (am_gS (am_in 526 rfl) (am_in 527 rfl) (am_in 35 rfl) (am_in 528 rfl)) rfl rfl rfl (by decide +kernel) ⟨Nat.le_of_ble_eq_true rfl, Nat.le_of_ble_eq_true rfl⟩) (am_preSR hP hK hN) rfl rfl hl.1 rfl (lv_room (Nat.le_of_ble_eq_true rfl)) dX5_sure_1 ⟨Nat.zero_le _, Nat.zero_le _⟩) ?_
  refine lv_if_eq (tgt := 36) hx hb dX5_sure_4 (by decide) (fun c_4 => ?_) (fun c_4 => ?_)
  · skip
    have c_4 : (ac_isPart x) = 0 := c_4
    refine lv_iconst (v := 0) hx hb dX5_sure_36 (by decide) ?_
    have hok : ¬ (ac_surOk x u v) := by first | rfl | (simp only [ac_surOk, c_4, if_true, if_false, eq_self, not_true_eq_false, not_false_eq_true, ite_true, ite_false, ↓reduceIte]; done) | (simp [ac_surOk, c_4]; done)
    exact am_zretM hx hb hr hlocks (Or.inl rfl) (by simp only [if_neg hok]; exact hP) hS (by rw [if_neg hok]; first | done | rfl) dX5_sure_37
  · skip
    have c_4 : ¬ ((ac_isPart x) = 0) := c_4
    obtain ⟨a, hq_a, ea⟩ : ∃ z, z < 12 ∧ x = nI z := am_isPart c_4
    have nn_a : x.toNatClampNeg = a := by rw [ea]; exact nI_clamp (by omega)
    have mm_a : (nI a).toNatClampNeg = a := nI_clamp (by omega)
    refine lv_lload hx hb dX5_sure_7 (lv_at hl 3 rfl) ?_
    refine lv_lconst (v := 1) hx hb dX5_sure_9 (by decide) ?_
    refine W.lcmp hx hb dX5_sure_10 ?_
    refine lv_if_lt (tgt := 36) hx hb dX5_sure_11 (by decide) (fun c_11 => ?_) (fun c_11 => ?_)
    · skip
      have c_11 : v < 1 := (lg_cmp_lt _ _).mp c_11
      refine lv_iconst (v := 0) hx hb dX5_sure_36 (by decide) ?_
      have hok : ¬ (ac_surOk x u v) := by first | rfl | (simp only [ac_surOk, c_4, c_11, nn_a, if_true, if_false, eq_self, not_true_eq_false, not_false_eq_true, ite_true, ite_false, ↓reduceIte]; done) | (simp [ac_surOk, c_4, c_11, nn_a]; done)
      exact am_zretM hx hb hr hlocks (Or.inl rfl) (by simp only [if_neg hok]; exact hP) hS (by rw [if_neg hok]; first | done | rfl) dX5_sure_37
    · skip
      have c_11 : ¬ (v < 1) := (fun z => c_11 ((lg_cmp_lt _ _).mpr z))
      refine lv_lload hx hb dX5_sure_14 (lv_at hl 3 rfl) ?_
      refine lv_ldc2 (v := 12) hx hb hown (ht 546 _ rfl) dX5_sure_16 ?_
      refine W.lcmp hx hb dX5_sure_19 ?_
      refine lv_if_gt (tgt := 36) hx hb dX5_sure_20 (by decide) (fun c_20 => ?_) (fun c_20 => ?_)
      · skip
        have c_20 : 12 < v := (lg_cmp_gt _ _).mp c_20
        refine lv_iconst (v := 0) hx hb dX5_sure_36 (by decide) ?_
        have hok : ¬ (ac_surOk x u v) := by first | rfl | (simp only [ac_surOk, c_4, c_11, c_20, nn_a, if_true, if_false, eq_self, not_true_eq_false, not_false_eq_true, ite_true, ite_false, ↓reduceIte]; done) | (simp [ac_surOk, c_4, c_11, c_20, nn_a]; done)
        exact am_zretM hx hb hr hlocks (Or.inl rfl) (by simp only [if_neg hok]; exact hP) hS (by rw [if_neg hok]; first | done | rfl) dX5_sure_37
      · skip
        have c_20 : ¬ (12 < v) := (fun z => c_20 ((lg_cmp_gt _ _).mpr z))
        refine lv_lload_n hx hb dX5_sure_23 rfl (lv_at hl 2 rfl) ?_
        refine lv_lconst (v := 0) hx hb dX5_sure_24 (by decide) ?_
        refine W.lcmp hx hb dX5_sure_25 ?_
        refine lv_if_lt (tgt := 36) hx hb dX5_sure_26 (by decide) (fun c_26 => ?_) (fun c_26 => ?_)
        · skip
          have c_26 : u < 0 := (lg_cmp_lt _ _).mp c_26
          refine lv_iconst (v := 0) hx hb dX5_sure_36 (by decide) ?_
          have hok : ¬ (ac_surOk x u v) := by first | rfl | (simp only [ac_surOk, c_4, c_11, c_20, c_26, nn_a, if_true, if_false, eq_self, not_true_eq_false, not_false_eq_true, ite_true, ite_false, ↓reduceIte]; done) | (simp [ac_surOk, c_4, c_11, c_20, c_26, nn_a]; done)
          exact am_zretM hx hb hr hlocks (Or.inl rfl) (by simp only [if_neg hok]; exact hP) hS (by rw [if_neg hok]; first | done | rfl) dX5_sure_37
        · skip
          have c_26 : ¬ (u < 0) := (fun z => c_26 ((lg_cmp_lt _ _).mpr z))
          refine lv_lload_n hx hb dX5_sure_29 rfl (lv_at hl 2 rfl) ?_
          refine lv_lload hx hb dX5_sure_30 (lv_at hl 3 rfl) ?_
          refine W.lcmp hx hb dX5_sure_32 ?_
          refine lv_if_le (tgt := 38) hx hb dX5_sure_33 (by decide) (fun c_33 => ?_) (fun c_33 => ?_)
          · skip
            have c_33 : u ≤ v := (lg_cmp_le _ _).mp c_33
            refine lv_aload_n hx hb dX5_sure_38 rfl (lv_at hl 0 rfl) ?_
            refine va_get (D := D) (ci := 5) (v := .ref (ad 10)) (C := RX5) (T := TX5) (N := 31) hx hb hts hin_X5 hown hK hP 0 rfl rfl 10 (by decide) hf_39 (fun _ h9 => h9) rfl dX5_sure_39 ?_
            refine lv_iload_n hx hb dX5_sure_42 rfl (lv_at hl 1 rfl) ?_
            refine lv_lload_n hx hb dX5_sure_43 rfl (lv_at hl 2 rfl) ?_
            refine lv_l2i (v := u.toInt32) hx hb dX5_sure_44 rfl ?_
            refine lv_topi (fun w10 ew10 => ?_)
            refine am_iast hx hb hK hP hD hS 10 0 rfl rfl a ea (by omega) (by decide) (rm_w ad cI cL cZ fi fl (va_up ai 10 (upd (ai 10) a w10)) al) rfl dX5_sure_45 (fun H locs hP hD hS => ?_)
            refine lv_aload_n hx hb dX5_sure_46 rfl (lv_at hl 0 rfl) ?_
            refine va_get (D := D) (ci := 5) (v := .ref (ad 11)) (C := RX5) (T := TX5) (N := 31) hx hb hts hin_X5 hown hK hP 0 rfl rfl 11 (by decide) hf_42 (fun _ h9 => h9) rfl dX5_sure_47 ?_
            refine lv_iload_n hx hb dX5_sure_50 rfl (lv_at hl 1 rfl) ?_
            refine lv_lload hx hb dX5_sure_51 (lv_at hl 3 rfl) ?_
            refine lv_l2i (v := v.toInt32) hx hb dX5_sure_53 rfl ?_
            refine lv_topi (fun w11 ew11 => ?_)
            refine am_iast hx hb hK hP hD hS 11 0 rfl rfl a ea (by omega) (by decide) (rm_w ad cI cL cZ fi fl (va_up (va_up ai 10 (upd (ai 10) a w10)) 11 (upd (ai 11) a w11)) al) rfl dX5_sure_54 (fun H locs hP hD hS => ?_)
            refine lv_aload_n hx hb dX5_sure_55 rfl (lv_at hl 0 rfl) ?_
            refine lv_iconst (v := 0) hx hb dX5_sure_56 (by decide) ?_
            refine va_put (D := D) (ci := 5) (v := .int 0) (ty := .boolean) (C := RX5) (T := TX5) (N := 31) hx hb hts hin_X5 tyX5 tyX5_ok nmX5 hown hK hP hD hS 0 rfl rfl 19 (by decide) hf_97 (fun _ h9 => h9) rfl (by decide +kernel) rfl rfl (Nat.le_of_ble_eq_true rfl) dX5_sure_57 (fun H locs hP hD hS => ?_)
            have hP : va_P D vwCl (rm_w ad cI cL cZ (upd fi 3 0) fl (va_up (va_up ai 10 (upd (ai 10) a w10)) 11 (upd (ai 11) a w11)) al) H := hP
            have hD : va_D A (rm_w ad cI cL cZ (upd fi 3 0) fl (va_up (va_up ai 10 (upd (ai 10) a w10)) 11 (upd (ai 11) a w11)) al) := am_D hD rfl
            refine lv_iconst (v := 1) hx hb dX5_sure_60 (by decide) ?_
            have hok : ac_surOk x u v := by first | rfl | (simp only [ac_surOk, c_4, c_11, c_20, c_26, c_33, nn_a, if_true, if_false, eq_self, not_true_eq_false, not_false_eq_true, ite_true, ite_false, ↓reduceIte]; done) | (simp [ac_surOk, c_4, c_11, c_20, c_26, c_33, nn_a]; done)
            exact am_zretM hx hb hr hlocks (Or.inr rfl) (by simp only [if_pos hok, nn_a, ← ew10, ← ew11]; exact hP) hS (by rw [if_pos hok]; first | done | rfl) dX5_sure_61
          · skip
            have c_33 : ¬ (u ≤ v) := (fun z => c_33 ((lg_cmp_le _ _).mpr z))
            refine lv_iconst (v := 0) hx hb dX5_sure_36 (by decide) ?_
            have hok : ¬ (ac_surOk x u v) := by first | rfl | (simp only [ac_surOk, c_4, c_11, c_20, c_26, c_33, nn_a, if_true, if_false, eq_self, not_true_eq_false, not_false_eq_true, ite_true, ite_false, ↓reduceIte]; done) | (simp [ac_surOk, c_4, c_11, c_20, c_26, c_33, nn_a]; done)
            exact am_zretM hx hb hr hlocks (Or.inl rfl) (by simp only [if_neg hok]; exact hP) hS (by rw [if_neg hok]; first | done | rfl) dX5_sure_37
section AMN3
variable {p : Program} {l : Launch} {e : Env} {R : Room} {s : State} {m : MethodId} {args : Array Value} {below : List Frame} {meth : Method} {c : Code} {H : Heap} {locs : List Loc} {cells slots : Nat} {Q : State → Prop}
variable {cc : ByteArray} {pc : Nat} {ls : Array Slot} {rest : List Value} {D : va_G} {cl : List vw_C} {A : Nat → Prop} {ws : va_W} {H0 : Heap} {cI cL cZ : ClassId}
theorem am_new3I (hexec : p.tables.exec = Jvm.exec) (hb : c.code = cc) (harr : (Cond.arrayClass .int).before args s = true) (hK : va_K D cl [(cI, .int), (cL, .long), (cZ, .boolean)] s) (hP : va_P D cl ws H) (hD : va_D A ws) (hS : va_S A H0 H locs) (hA : ∀ q, H0.size ≤ q → A q)
    {n : Int32} (N : Nat) (hn : ¬ n < 0) (hN : n.toNatClampNeg = N) (hbytes : N * componentBytes .int ≤ 536870912) (hcells : cells + 1 ≤ R.cells) (hslots : slots + N ≤ R.slots) (hdg : decode cc pc = .ok (.newarray .int, 2))
    (kk : ∀ (q : Nat) (H1 : Heap), va_P D cl (ws ++ [(q, .inl (cI, N, .inl (fun _ => 0)))]) H1 → va_D A (ws ++ [(q, .inl (cI, N, .inl (fun _ => 0)))]) → va_S A H0 H1 locs →
      W p l e R s m args below meth c H1 locs (cells + 1) (slots + N) Q (F0 m (pc + 2) ls (.ref q :: rest))) : W p l e R s m args below meth c H locs cells slots Q (F0 m pc ls (.int n :: rest)) :=
  va_newa (atype := .int) hexec hb harr rfl hK hP hD hS hA (a0 := (N, .inl (fun _ => 0))) (fun _ => rfl) hn hN hbytes hcells hslots hdg (fun q cA H1 hK1 hP1 hD1 hS1 => by
    have h1 := (hK1.2 0 _ rfl).2
    have h2 := (hK1.2 3 _ rfl).2
    have e : cA = cI := Option.some.inj (h2.symm.trans h1)
    subst e
    exact kk q H1 hP1 hD1 hS1)
theorem am_new3L (hexec : p.tables.exec = Jvm.exec) (hb : c.code = cc) (harr : (Cond.arrayClass .long).before args s = true) (hK : va_K D cl [(cI, .int), (cL, .long), (cZ, .boolean)] s) (hP : va_P D cl ws H) (hD : va_D A ws) (hS : va_S A H0 H locs) (hA : ∀ q, H0.size ≤ q → A q)
    {n : Int32} (N : Nat) (hn : ¬ n < 0) (hN : n.toNatClampNeg = N) (hbytes : N * componentBytes .long ≤ 536870912) (hcells : cells + 1 ≤ R.cells) (hslots : slots + N ≤ R.slots) (hdg : decode cc pc = .ok (.newarray .long, 2))
    (kk : ∀ (q : Nat) (H1 : Heap), va_P D cl (ws ++ [(q, .inl (cL, N, .inr (.inl (fun _ => 0))))]) H1 → va_D A (ws ++ [(q, .inl (cL, N, .inr (.inl (fun _ => 0))))]) → va_S A H0 H1 locs →
      W p l e R s m args below meth c H1 locs (cells + 1) (slots + N) Q (F0 m (pc + 2) ls (.ref q :: rest))) : W p l e R s m args below meth c H locs cells slots Q (F0 m pc ls (.int n :: rest)) :=
  va_newa (atype := .long) hexec hb harr rfl hK hP hD hS hA (a0 := (N, .inr (.inl (fun _ => 0)))) (fun _ => rfl) hn hN hbytes hcells hslots hdg (fun q cA H1 hK1 hP1 hD1 hS1 => by
    have h1 := (hK1.2 1 _ rfl).2
    have h2 := (hK1.2 3 _ rfl).2
    have e : cA = cL := Option.some.inj (h2.symm.trans h1)
    subst e
    exact kk q H1 hP1 hD1 hS1)
theorem am_new3Z (hexec : p.tables.exec = Jvm.exec) (hb : c.code = cc) (harr : (Cond.arrayClass .boolean).before args s = true) (hK : va_K D cl [(cI, .int), (cL, .long), (cZ, .boolean)] s) (hP : va_P D cl ws H) (hD : va_D A ws) (hS : va_S A H0 H locs) (hA : ∀ q, H0.size ≤ q → A q)
    {n : Int32} (N : Nat) (hn : ¬ n < 0) (hN : n.toNatClampNeg = N) (hbytes : N * componentBytes .boolean ≤ 536870912) (hcells : cells + 1 ≤ R.cells) (hslots : slots + N ≤ R.slots) (hdg : decode cc pc = .ok (.newarray .boolean, 2))
    (kk : ∀ (q : Nat) (H1 : Heap), va_P D cl (ws ++ [(q, .inl (cZ, N, .inl (fun _ => 0)))]) H1 → va_D A (ws ++ [(q, .inl (cZ, N, .inl (fun _ => 0)))]) → va_S A H0 H1 locs →
      W p l e R s m args below meth c H1 locs (cells + 1) (slots + N) Q (F0 m (pc + 2) ls (.ref q :: rest))) : W p l e R s m args below meth c H locs cells slots Q (F0 m pc ls (.int n :: rest)) :=
  va_newa (atype := .boolean) hexec hb harr rfl hK hP hD hS hA (a0 := (N, .inl (fun _ => 0))) (fun _ => rfl) hn hN hbytes hcells hslots hdg (fun q cA H1 hK1 hP1 hD1 hS1 => by
    have h1 := (hK1.2 2 _ rfl).2
    have h2 := (hK1.2 3 _ rfl).2
    have e : cA = cZ := Option.some.inj (h2.symm.trans h1)
    subst e
    exact kk q H1 hP1 hD1 hS1)
end AMN3
def rc_fi0 : Nat → Int32 := upd (upd (fun _ => 0) 2 (-1)) 7 (-1)
def rc_ai0 (k : Nat) : Nat → Nat → Int32 := va_up (va_up (fun _ _ => 0) 10 (ac_fillI 1 (fun _ => 0) k)) 11 (ac_fillI 1 (fun _ => 0) k)
set_option maxHeartbeats 8000000 in
set_option maxRecDepth 100000 in
theorem c_X5_init (l : Launch) (D : va_G) (cI cL cZ : ClassId) (h0 sz : Nat) : Met l yX5_init wsX5_init { frames := 1, cells := 21, slots := 11706, locals := 12 } (va_Pc [.ref h0] (fun U => U.heap.size = sz ∧ am_M nwL vwCl D (fun _ => True) [(h0, .inr (5, [.int 0, .null, .null, .null, .null, .null, .null, .null, .null, .null, .null, .null, .null, .null, .int 0, .null, .int 0, .long 0, .null, .int 0, .int 0, .int 0, .null, .int 0, .int 0, .int 0, .null, .null, .null, .null, .null]))] [(cI, .int), (cL, .long), (cZ, .boolean)] U)) (va_Qv (fun (u : Nat → Nat) => u 0 = h0) (fun u t => va_P D vwCl (rm_w u cI cL cZ rc_fi0 (fun _ => 0) (rc_ai0 12) (fun _ _ => 0)) t.heap ∧ va_D (va_A [(h0, .inr (5, [.int 0, .null, .null, .null, .null, .null, .null, .null, .null, .null, .null, .null, .null, .null, .int 0, .null, .int 0, .long 0, .null, .int 0, .int 0, .int 0, .null, .int 0, .int 0, .int 0, .null, .null, .null, .null, .null]))] sz) (rm_w u cI cL cZ rc_fi0 (fun _ => 0) (rc_ai0 12) (fun _ _ => 0))) (va_A [(h0, .inr (5, [.int 0, .null, .null, .null, .null, .null, .null, .null, .null, .null, .null, .null, .null, .null, .int 0, .null, .int 0, .long 0, .null, .int 0, .int 0, .int 0, .null, .int 0, .int 0, .int 0, .null, .null, .null, .null, .null]))] sz)) 21 11706 (va_A [(h0, .inr (5, [.int 0, .null, .null, .null, .null, .null, .null, .null, .null, .null, .null, .null, .null, .null, .int 0, .null, .int 0, .long 0, .null, .int 0, .int 0, .int 0, .null, .int 0, .int 0, .int 0, .null, .null, .null, .null, .null]))] sz) := by
  refine Met.ofW (cc := cX5_init) (maxL := 2) (ret := none) (by decide) rfl ?_
  intro p e s m args below meth c s₁ B hml hv
  obtain ⟨rfl, hsz, hP, hK, hN, hD0⟩ := hv
  have hx := B.exec
  have hb := B.bytes
  have hr := B.returns
  have hts := atoms_spec (ws := wsX5_init) B.pre
  have hown : s.vm.findClass RX5 = some m.cls := findClass_of_methodNamed B.named
  have hlocks := B.notSynchronized
  have hin9 : meth.name = "<init>" := (name_of_methodNamed B.named B.method).1
  subst hsz
  have hD := hD0.self (sz := s.heap.size)
  generalize hAe : va_A [(h0, .inr (5, [.int 0, .null, .null, .null, .null, .null, .null, .null, .null, .null, .null, .null, .null, .null, .int 0, .null, .int 0, .long 0, .null, .int 0, .int 0, .int 0, .null, .int 0, .int 0, .int 0, .null, .null, .null, .null, .null]))] s.heap.size = A at hD ⊢
  have hA : ∀ q : Nat, s.heap.size ≤ q → A q := fun q h => by rw [← hAe]; exact Or.inr h
  have hS : va_S A s.heap s.heap [] := va_S.rf
  have hl := lv_entry ([.ref h0]) (n := 2) (Nat.le_of_ble_eq_true rfl)
  rw [lg_entry_eq]
  generalize (lg_sl ([.ref h0]) ++ List.replicate (2 - (lg_sl ([.ref h0])).length) Slot.unset).toArray = ls at hl ⊢
  have hl : lv_has ls 2 [(0, .ref h0)] := hl
  have ht := am_ht hts
  have hin_X5 : ∀ w ∈ u_ws RX5 TX5 31, w ∈ wsX5_init := fun w h => List.mem_cons_of_mem _ (am_inX5 w h)
  have hf_13 := ht 432 (.fieldLink RX5 13 "ApartCostModel" "tools" "[I") rfl
  have hf_16 := ht 433 (.fieldLink RX5 16 "ApartCostModel" "sides" "[I") rfl
  have hf_19 := ht 434 (.fieldLink RX5 19 "ApartCostModel" "costs" "[J") rfl
  have hf_23 := ht 435 (.fieldLink RX5 23 "ApartCostModel" "breaking" "[Z") rfl
  have hf_27 := ht 436 (.fieldLink RX5 27 "ApartCostModel" "needs" "[Z") rfl
  have hf_30 := ht 437 (.fieldLink RX5 30 "ApartCostModel" "changes" "[J") rfl
  have hf_33 := ht 438 (.fieldLink RX5 33 "ApartCostModel" "turns" "[J") rfl
  have hf_36 := ht 439 (.fieldLink RX5 36 "ApartCostModel" "worths" "[J") rfl
  have hf_39 := ht 440 (.fieldLink RX5 39 "ApartCostModel" "above" "[I") rfl
  have hf_42 := ht 441 (.fieldLink RX5 42 "ApartCostModel" "below" "[I") rfl
  have hf_45 := ht 442 (.fieldLink RX5 45 "ApartCostModel" "rests" "[I") rfl
  have hf_48 := ht 443 (.fieldLink RX5 48 "ApartCostModel" "restWorths" "[J") rfl
  have hf_51 := ht 445 (.fieldLink RX5 51 "ApartCostModel" "row" "[I") rfl
  have hf_54 := ht 446 (.fieldLink RX5 54 "ApartCostModel" "length" "I") rfl
  have hf_58 := ht 448 (.fieldLink RX5 58 "ApartCostModel" "brought" "[J") rfl
  have hf_61 := ht 452 (.fieldLink RX5 61 "ApartCostModel" "places" "[I") rfl
  have hf_64 := ht 454 (.fieldLink RX5 64 "ApartCostModel" "tested" "I") rfl
  have hf_67 := ht 456 (.fieldLink RX5 67 "ApartCostModel" "needed" "[I") rfl
  have hf_7 := ht 431 (.fieldLink RX5 7 "ApartCostModel" "freed" "[I") rfl
  have hf_70 := ht 457 (.fieldLink RX5 70 "ApartCostModel" "least" "[J") rfl
  have hf_73 := ht 458 (.fieldLink RX5 73 "ApartCostModel" "values" "[J") rfl
  have hf_76 := ht 459 (.fieldLink RX5 76 "ApartCostModel" "tried" "[I") rfl
  have hf_79 := ht 460 (.fieldLink RX5 79 "ApartCostModel" "behind" "[Z") rfl
  refine lv_aload_n hx hb dX5_init_0 rfl (lv_at hl 0 rfl) ?_
  refine W.objInit hx hb hown (ht 429 _ rfl) (ht 44 _ rfl) (ht 45 _ rfl) rfl (by rw [hml]; exact hl.1) rfl dX5_init_1 (Nat.le_of_ble_eq_true rfl) (Nat.le_of_ble_eq_true rfl) ?_
  refine W.eq (g2 := F0 m 4 ls []) rfl ?_
  refine lv_aload_n hx hb dX5_init_4 rfl (lv_at hl 0 rfl) ?_
  refine lv_bipush (v := 10) hx hb dX5_init_5 (by decide) ?_
  refine am_new3I hx hb (ht 98 _ rfl) hK hP hD hS hA 10 (by decide) (by decide) (by decide) (Nat.le_of_ble_eq_true rfl) (Nat.le_of_ble_eq_true rfl) dX5_init_7 (fun q7 H hP hD hS => ?_)
  have hP : va_P D vwCl [(h0, .inr (5, [.int 0, .null, .null, .null, .null, .null, .null, .null, .null, .null, .null, .null, .null, .null, .int 0, .null, .int 0, .long 0, .null, .int 0, .int 0, .int 0, .null, .int 0, .int 0, .int 0, .null, .null, .null, .null, .null])), (q7, .inl (cI, 10, .inl (fun _ => 0)))] H := hP
  have hD : va_D A [(h0, .inr (5, [.int 0, .null, .null, .null, .null, .null, .null, .null, .null, .null, .null, .null, .null, .null, .int 0, .null, .int 0, .long 0, .null, .int 0, .int 0, .int 0, .null, .int 0, .int 0, .int 0, .null, .null, .null, .null, .null])), (q7, .inl (cI, 10, .inl (fun _ => 0)))] := hD
  refine W.widen (k := 1) (n := 10) (by omega) (by omega) ?_
  refine va_putF (D := D) (ci := 5) (v := .ref q7) (ty := .array .int) (C := RX5) (T := TX5) (N := 31) hx hb hts hin_X5 tyX5 tyX5_ok nmX5 hown hK hP hD hS 0 rfl rfl 1 (by decide) hf_7 (fun _ h9 => h9) rfl hin9 rfl (by decide +kernel) rfl rfl (Nat.le_of_ble_eq_true rfl) dX5_init_9 (fun H locs hP hD hS => ?_)
  have hP : va_P D vwCl [(h0, .inr (5, [.int 0, .ref q7, .null, .null, .null, .null, .null, .null, .null, .null, .null, .null, .null, .null, .int 0, .null, .int 0, .long 0, .null, .int 0, .int 0, .int 0, .null, .int 0, .int 0, .int 0, .null, .null, .null, .null, .null])), (q7, .inl (cI, 10, .inl (fun _ => 0)))] H := hP
  have hD : va_D A [(h0, .inr (5, [.int 0, .ref q7, .null, .null, .null, .null, .null, .null, .null, .null, .null, .null, .null, .null, .int 0, .null, .int 0, .long 0, .null, .int 0, .int 0, .int 0, .null, .int 0, .int 0, .int 0, .null, .null, .null, .null, .null])), (q7, .inl (cI, 10, .inl (fun _ => 0)))] := hD
  refine lv_aload_n hx hb dX5_init_12 rfl (lv_at hl 0 rfl) ?_
  refine lv_bipush (v := 10) hx hb dX5_init_13 (by decide) ?_
  refine am_new3I hx hb (ht 98 _ rfl) hK hP hD hS hA 10 (by decide) (by decide) (by decide) (Nat.le_of_ble_eq_true rfl) (Nat.le_of_ble_eq_true rfl) dX5_init_15 (fun q15 H hP hD hS => ?_)
  have hP : va_P D vwCl [(h0, .inr (5, [.int 0, .ref q7, .null, .null, .null, .null, .null, .null, .null, .null, .null, .null, .null, .null, .int 0, .null, .int 0, .long 0, .null, .int 0, .int 0, .int 0, .null, .int 0, .int 0, .int 0, .null, .null, .null, .null, .null])), (q7, .inl (cI, 10, .inl (fun _ => 0))), (q15, .inl (cI, 10, .inl (fun _ => 0)))] H := hP
  have hD : va_D A [(h0, .inr (5, [.int 0, .ref q7, .null, .null, .null, .null, .null, .null, .null, .null, .null, .null, .null, .null, .int 0, .null, .int 0, .long 0, .null, .int 0, .int 0, .int 0, .null, .int 0, .int 0, .int 0, .null, .null, .null, .null, .null])), (q7, .inl (cI, 10, .inl (fun _ => 0))), (q15, .inl (cI, 10, .inl (fun _ => 0)))] := hD
  refine W.widen (k := 2) (n := 20) (by omega) (by omega) ?_
  refine va_putF (D := D) (ci := 5) (v := .ref q15) (ty := .array .int) (C := RX5) (T := TX5) (N := 31) hx hb hts hin_X5 tyX5 tyX5_ok nmX5 hown hK hP hD hS 0 rfl rfl 2 (by decide) hf_13 (fun _ h9 => h9) rfl hin9 rfl (by decide +kernel) rfl rfl (Nat.le_of_ble_eq_true rfl) dX5_init_17 (fun H locs hP hD hS => ?_)
  have hP : va_P D vwCl [(h0, .inr (5, [.int 0, .ref q7, .ref q15, .null, .null, .null, .null, .null, .null, .null, .null, .null, .null, .null, .int 0, .null, .int 0, .long 0, .null, .int 0, .int 0, .int 0, .null, .int 0, .int 0, .int 0, .null, .null, .null, .null, .null])), (q7, .inl (cI, 10, .inl (fun _ => 0))), (q15, .inl (cI, 10, .inl (fun _ => 0)))] H := hP
  have hD : va_D A [(h0, .inr (5, [.int 0, .ref q7, .ref q15, .null, .null, .null, .null, .null, .null, .null, .null, .null, .null, .null, .int 0, .null, .int 0, .long 0, .null, .int 0, .int 0, .int 0, .null, .int 0, .int 0, .int 0, .null, .null, .null, .null, .null])), (q7, .inl (cI, 10, .inl (fun _ => 0))), (q15, .inl (cI, 10, .inl (fun _ => 0)))] := hD
  refine lv_aload_n hx hb dX5_init_20 rfl (lv_at hl 0 rfl) ?_
  refine lv_bipush (v := 10) hx hb dX5_init_21 (by decide) ?_
  refine am_new3I hx hb (ht 98 _ rfl) hK hP hD hS hA 10 (by decide) (by decide) (by decide) (Nat.le_of_ble_eq_true rfl) (Nat.le_of_ble_eq_true rfl) dX5_init_23 (fun q23 H hP hD hS => ?_)
  have hP : va_P D vwCl [(h0, .inr (5, [.int 0, .ref q7, .ref q15, .null, .null, .null, .null, .null, .null, .null, .null, .null, .null, .null, .int 0, .null, .int 0, .long 0, .null, .int 0, .int 0, .int 0, .null, .int 0, .int 0, .int 0, .null, .null, .null, .null, .null])), (q7, .inl (cI, 10, .inl (fun _ => 0))), (q15, .inl (cI, 10, .inl (fun _ => 0))), (q23, .inl (cI, 10, .inl (fun _ => 0)))] H := hP
  have hD : va_D A [(h0, .inr (5, [.int 0, .ref q7, .ref q15, .null, .null, .null, .null, .null, .null, .null, .null, .null, .null, .null, .int 0, .null, .int 0, .long 0, .null, .int 0, .int 0, .int 0, .null, .int 0, .int 0, .int 0, .null, .null, .null, .null, .null])), (q7, .inl (cI, 10, .inl (fun _ => 0))), (q15, .inl (cI, 10, .inl (fun _ => 0))), (q23, .inl (cI, 10, .inl (fun _ => 0)))] := hD
  refine W.widen (k := 3) (n := 30) (by omega) (by omega) ?_
  refine va_putF (D := D) (ci := 5) (v := .ref q23) (ty := .array .int) (C := RX5) (T := TX5) (N := 31) hx hb hts hin_X5 tyX5 tyX5_ok nmX5 hown hK hP hD hS 0 rfl rfl 3 (by decide) hf_16 (fun _ h9 => h9) rfl hin9 rfl (by decide +kernel) rfl rfl (Nat.le_of_ble_eq_true rfl) dX5_init_25 (fun H locs hP hD hS => ?_)
  have hP : va_P D vwCl [(h0, .inr (5, [.int 0, .ref q7, .ref q15, .ref q23, .null, .null, .null, .null, .null, .null, .null, .null, .null, .null, .int 0, .null, .int 0, .long 0, .null, .int 0, .int 0, .int 0, .null, .int 0, .int 0, .int 0, .null, .null, .null, .null, .null])), (q7, .inl (cI, 10, .inl (fun _ => 0))), (q15, .inl (cI, 10, .inl (fun _ => 0))), (q23, .inl (cI, 10, .inl (fun _ => 0)))] H := hP
  have hD : va_D A [(h0, .inr (5, [.int 0, .ref q7, .ref q15, .ref q23, .null, .null, .null, .null, .null, .null, .null, .null, .null, .null, .int 0, .null, .int 0, .long 0, .null, .int 0, .int 0, .int 0, .null, .int 0, .int 0, .int 0, .null, .null, .null, .null, .null])), (q7, .inl (cI, 10, .inl (fun _ => 0))), (q15, .inl (cI, 10, .inl (fun _ => 0))), (q23, .inl (cI, 10, .inl (fun _ => 0)))] := hD
  refine lv_aload_n hx hb dX5_init_28 rfl (lv_at hl 0 rfl) ?_
  refine lv_bipush (v := 10) hx hb dX5_init_29 (by decide) ?_
  refine am_new3L hx hb (ht 99 _ rfl) hK hP hD hS hA 10 (by decide) (by decide) (by decide) (Nat.le_of_ble_eq_true rfl) (Nat.le_of_ble_eq_true rfl) dX5_init_31 (fun q31 H hP hD hS => ?_)
  have hP : va_P D vwCl [(h0, .inr (5, [.int 0, .ref q7, .ref q15, .ref q23, .null, .null, .null, .null, .null, .null, .null, .null, .null, .null, .int 0, .null, .int 0, .long 0, .null, .int 0, .int 0, .int 0, .null, .int 0, .int 0, .int 0, .null, .null, .null, .null, .null])), (q7, .inl (cI, 10, .inl (fun _ => 0))), (q15, .inl (cI, 10, .inl (fun _ => 0))), (q23, .inl (cI, 10, .inl (fun _ => 0))), (q31, .inl (cL, 10, .inr (.inl (fun _ => 0))))] H := hP
  have hD : va_D A [(h0, .inr (5, [.int 0, .ref q7, .ref q15, .ref q23, .null, .null, .null, .null, .null, .null, .null, .null, .null, .null, .int 0, .null, .int 0, .long 0, .null, .int 0, .int 0, .int 0, .null, .int 0, .int 0, .int 0, .null, .null, .null, .null, .null])), (q7, .inl (cI, 10, .inl (fun _ => 0))), (q15, .inl (cI, 10, .inl (fun _ => 0))), (q23, .inl (cI, 10, .inl (fun _ => 0))), (q31, .inl (cL, 10, .inr (.inl (fun _ => 0))))] := hD
  refine W.widen (k := 4) (n := 40) (by omega) (by omega) ?_
  refine va_putF (D := D) (ci := 5) (v := .ref q31) (ty := .array .long) (C := RX5) (T := TX5) (N := 31) hx hb hts hin_X5 tyX5 tyX5_ok nmX5 hown hK hP hD hS 0 rfl rfl 4 (by decide) hf_19 (fun _ h9 => h9) rfl hin9 rfl (by decide +kernel) rfl rfl (Nat.le_of_ble_eq_true rfl) dX5_init_33 (fun H locs hP hD hS => ?_)
  have hP : va_P D vwCl [(h0, .inr (5, [.int 0, .ref q7, .ref q15, .ref q23, .ref q31, .null, .null, .null, .null, .null, .null, .null, .null, .null, .int 0, .null, .int 0, .long 0, .null, .int 0, .int 0, .int 0, .null, .int 0, .int 0, .int 0, .null, .null, .null, .null, .null])), (q7, .inl (cI, 10, .inl (fun _ => 0))), (q15, .inl (cI, 10, .inl (fun _ => 0))), (q23, .inl (cI, 10, .inl (fun _ => 0))), (q31, .inl (cL, 10, .inr (.inl (fun _ => 0))))] H := hP
  have hD : va_D A [(h0, .inr (5, [.int 0, .ref q7, .ref q15, .ref q23, .ref q31, .null, .null, .null, .null, .null, .null, .null, .null, .null, .int 0, .null, .int 0, .long 0, .null, .int 0, .int 0, .int 0, .null, .int 0, .int 0, .int 0, .null, .null, .null, .null, .null])), (q7, .inl (cI, 10, .inl (fun _ => 0))), (q15, .inl (cI, 10, .inl (fun _ => 0))), (q23, .inl (cI, 10, .inl (fun _ => 0))), (q31, .inl (cL, 10, .inr (.inl (fun _ => 0))))] := hD
  refine lv_aload_n hx hb dX5_init_36 rfl (lv_at hl 0 rfl) ?_
  refine lv_bipush (v := 10) hx hb dX5_init_37 (by decide) ?_
  refine am_new3Z hx hb (ht 492 _ rfl) hK hP hD hS hA 10 (by decide) (by decide) (by decide) (Nat.le_of_ble_eq_true rfl) (Nat.le_of_ble_eq_true rfl) dX5_init_39 (fun q39 H hP hD hS => ?_)
  have hP : va_P D vwCl [(h0, .inr (5, [.int 0, .ref q7, .ref q15, .ref q23, .ref q31, .null, .null, .null, .null, .null, .null, .null, .null, .null, .int 0, .null, .int 0, .long 0, .null, .int 0, .int 0, .int 0, .null, .int 0, .int 0, .int 0, .null, .null, .null, .null, .null])), (q7, .inl (cI, 10, .inl (fun _ => 0))), (q15, .inl (cI, 10, .inl (fun _ => 0))), (q23, .inl (cI, 10, .inl (fun _ => 0))), (q31, .inl (cL, 10, .inr (.inl (fun _ => 0)))), (q39, .inl (cZ, 10, .inl (fun _ => 0)))] H := hP
  have hD : va_D A [(h0, .inr (5, [.int 0, .ref q7, .ref q15, .ref q23, .ref q31, .null, .null, .null, .null, .null, .null, .null, .null, .null, .int 0, .null, .int 0, .long 0, .null, .int 0, .int 0, .int 0, .null, .int 0, .int 0, .int 0, .null, .null, .null, .null, .null])), (q7, .inl (cI, 10, .inl (fun _ => 0))), (q15, .inl (cI, 10, .inl (fun _ => 0))), (q23, .inl (cI, 10, .inl (fun _ => 0))), (q31, .inl (cL, 10, .inr (.inl (fun _ => 0)))), (q39, .inl (cZ, 10, .inl (fun _ => 0)))] := hD
  refine W.widen (k := 5) (n := 50) (by omega) (by omega) ?_
  refine va_putF (D := D) (ci := 5) (v := .ref q39) (ty := .array .boolean) (C := RX5) (T := TX5) (N := 31) hx hb hts hin_X5 tyX5 tyX5_ok nmX5 hown hK hP hD hS 0 rfl rfl 5 (by decide) hf_23 (fun _ h9 => h9) rfl hin9 rfl (by decide +kernel) rfl rfl (Nat.le_of_ble_eq_true rfl) dX5_init_41 (fun H locs hP hD hS => ?_)
  have hP : va_P D vwCl [(h0, .inr (5, [.int 0, .ref q7, .ref q15, .ref q23, .ref q31, .ref q39, .null, .null, .null, .null, .null, .null, .null, .null, .int 0, .null, .int 0, .long 0, .null, .int 0, .int 0, .int 0, .null, .int 0, .int 0, .int 0, .null, .null, .null, .null, .null])), (q7, .inl (cI, 10, .inl (fun _ => 0))), (q15, .inl (cI, 10, .inl (fun _ => 0))), (q23, .inl (cI, 10, .inl (fun _ => 0))), (q31, .inl (cL, 10, .inr (.inl (fun _ => 0)))), (q39, .inl (cZ, 10, .inl (fun _ => 0)))] H := hP
  have hD : va_D A [(h0, .inr (5, [.int 0, .ref q7, .ref q15, .ref q23, .ref q31, .ref q39, .null, .null, .null, .null, .null, .null, .null, .null, .int 0, .null, .int 0, .long 0, .null, .int 0, .int 0, .int 0, .null, .int 0, .int 0, .int 0, .null, .null, .null, .null, .null])), (q7, .inl (cI, 10, .inl (fun _ => 0))), (q15, .inl (cI, 10, .inl (fun _ => 0))), (q23, .inl (cI, 10, .inl (fun _ => 0))), (q31, .inl (cL, 10, .inr (.inl (fun _ => 0)))), (q39, .inl (cZ, 10, .inl (fun _ => 0)))] := hD
  refine lv_aload_n hx hb dX5_init_44 rfl (lv_at hl 0 rfl) ?_
  refine lv_bipush (v := 100) hx hb dX5_init_45 (by decide) ?_
  refine am_new3Z hx hb (ht 492 _ rfl) hK hP hD hS hA 100 (by decide) (by decide) (by decide) (Nat.le_of_ble_eq_true rfl) (Nat.le_of_ble_eq_true rfl) dX5_init_47 (fun q47 H hP hD hS => ?_)
  have hP : va_P D vwCl [(h0, .inr (5, [.int 0, .ref q7, .ref q15, .ref q23, .ref q31, .ref q39, .null, .null, .null, .null, .null, .null, .null, .null, .int 0, .null, .int 0, .long 0, .null, .int 0, .int 0, .int 0, .null, .int 0, .int 0, .int 0, .null, .null, .null, .null, .null])), (q7, .inl (cI, 10, .inl (fun _ => 0))), (q15, .inl (cI, 10, .inl (fun _ => 0))), (q23, .inl (cI, 10, .inl (fun _ => 0))), (q31, .inl (cL, 10, .inr (.inl (fun _ => 0)))), (q39, .inl (cZ, 10, .inl (fun _ => 0))), (q47, .inl (cZ, 100, .inl (fun _ => 0)))] H := hP
  have hD : va_D A [(h0, .inr (5, [.int 0, .ref q7, .ref q15, .ref q23, .ref q31, .ref q39, .null, .null, .null, .null, .null, .null, .null, .null, .int 0, .null, .int 0, .long 0, .null, .int 0, .int 0, .int 0, .null, .int 0, .int 0, .int 0, .null, .null, .null, .null, .null])), (q7, .inl (cI, 10, .inl (fun _ => 0))), (q15, .inl (cI, 10, .inl (fun _ => 0))), (q23, .inl (cI, 10, .inl (fun _ => 0))), (q31, .inl (cL, 10, .inr (.inl (fun _ => 0)))), (q39, .inl (cZ, 10, .inl (fun _ => 0))), (q47, .inl (cZ, 100, .inl (fun _ => 0)))] := hD
  refine W.widen (k := 6) (n := 150) (by omega) (by omega) ?_
  refine va_putF (D := D) (ci := 5) (v := .ref q47) (ty := .array .boolean) (C := RX5) (T := TX5) (N := 31) hx hb hts hin_X5 tyX5 tyX5_ok nmX5 hown hK hP hD hS 0 rfl rfl 6 (by decide) hf_27 (fun _ h9 => h9) rfl hin9 rfl (by decide +kernel) rfl rfl (Nat.le_of_ble_eq_true rfl) dX5_init_49 (fun H locs hP hD hS => ?_)
  have hP : va_P D vwCl [(h0, .inr (5, [.int 0, .ref q7, .ref q15, .ref q23, .ref q31, .ref q39, .ref q47, .null, .null, .null, .null, .null, .null, .null, .int 0, .null, .int 0, .long 0, .null, .int 0, .int 0, .int 0, .null, .int 0, .int 0, .int 0, .null, .null, .null, .null, .null])), (q7, .inl (cI, 10, .inl (fun _ => 0))), (q15, .inl (cI, 10, .inl (fun _ => 0))), (q23, .inl (cI, 10, .inl (fun _ => 0))), (q31, .inl (cL, 10, .inr (.inl (fun _ => 0)))), (q39, .inl (cZ, 10, .inl (fun _ => 0))), (q47, .inl (cZ, 100, .inl (fun _ => 0)))] H := hP
  have hD : va_D A [(h0, .inr (5, [.int 0, .ref q7, .ref q15, .ref q23, .ref q31, .ref q39, .ref q47, .null, .null, .null, .null, .null, .null, .null, .int 0, .null, .int 0, .long 0, .null, .int 0, .int 0, .int 0, .null, .int 0, .int 0, .int 0, .null, .null, .null, .null, .null])), (q7, .inl (cI, 10, .inl (fun _ => 0))), (q15, .inl (cI, 10, .inl (fun _ => 0))), (q23, .inl (cI, 10, .inl (fun _ => 0))), (q31, .inl (cL, 10, .inr (.inl (fun _ => 0)))), (q39, .inl (cZ, 10, .inl (fun _ => 0))), (q47, .inl (cZ, 100, .inl (fun _ => 0)))] := hD
  refine lv_aload_n hx hb dX5_init_52 rfl (lv_at hl 0 rfl) ?_
  refine lv_bipush (v := 36) hx hb dX5_init_53 (by decide) ?_
  refine am_new3L hx hb (ht 99 _ rfl) hK hP hD hS hA 36 (by decide) (by decide) (by decide) (Nat.le_of_ble_eq_true rfl) (Nat.le_of_ble_eq_true rfl) dX5_init_55 (fun q55 H hP hD hS => ?_)
  have hP : va_P D vwCl [(h0, .inr (5, [.int 0, .ref q7, .ref q15, .ref q23, .ref q31, .ref q39, .ref q47, .null, .null, .null, .null, .null, .null, .null, .int 0, .null, .int 0, .long 0, .null, .int 0, .int 0, .int 0, .null, .int 0, .int 0, .int 0, .null, .null, .null, .null, .null])), (q7, .inl (cI, 10, .inl (fun _ => 0))), (q15, .inl (cI, 10, .inl (fun _ => 0))), (q23, .inl (cI, 10, .inl (fun _ => 0))), (q31, .inl (cL, 10, .inr (.inl (fun _ => 0)))), (q39, .inl (cZ, 10, .inl (fun _ => 0))), (q47, .inl (cZ, 100, .inl (fun _ => 0))), (q55, .inl (cL, 36, .inr (.inl (fun _ => 0))))] H := hP
  have hD : va_D A [(h0, .inr (5, [.int 0, .ref q7, .ref q15, .ref q23, .ref q31, .ref q39, .ref q47, .null, .null, .null, .null, .null, .null, .null, .int 0, .null, .int 0, .long 0, .null, .int 0, .int 0, .int 0, .null, .int 0, .int 0, .int 0, .null, .null, .null, .null, .null])), (q7, .inl (cI, 10, .inl (fun _ => 0))), (q15, .inl (cI, 10, .inl (fun _ => 0))), (q23, .inl (cI, 10, .inl (fun _ => 0))), (q31, .inl (cL, 10, .inr (.inl (fun _ => 0)))), (q39, .inl (cZ, 10, .inl (fun _ => 0))), (q47, .inl (cZ, 100, .inl (fun _ => 0))), (q55, .inl (cL, 36, .inr (.inl (fun _ => 0))))] := hD
  refine W.widen (k := 7) (n := 186) (by omega) (by omega) ?_
  refine va_putF (D := D) (ci := 5) (v := .ref q55) (ty := .array .long) (C := RX5) (T := TX5) (N := 31) hx hb hts hin_X5 tyX5 tyX5_ok nmX5 hown hK hP hD hS 0 rfl rfl 7 (by decide) hf_30 (fun _ h9 => h9) rfl hin9 rfl (by decide +kernel) rfl rfl (Nat.le_of_ble_eq_true rfl) dX5_init_57 (fun H locs hP hD hS => ?_)
  have hP : va_P D vwCl [(h0, .inr (5, [.int 0, .ref q7, .ref q15, .ref q23, .ref q31, .ref q39, .ref q47, .ref q55, .null, .null, .null, .null, .null, .null, .int 0, .null, .int 0, .long 0, .null, .int 0, .int 0, .int 0, .null, .int 0, .int 0, .int 0, .null, .null, .null, .null, .null])), (q7, .inl (cI, 10, .inl (fun _ => 0))), (q15, .inl (cI, 10, .inl (fun _ => 0))), (q23, .inl (cI, 10, .inl (fun _ => 0))), (q31, .inl (cL, 10, .inr (.inl (fun _ => 0)))), (q39, .inl (cZ, 10, .inl (fun _ => 0))), (q47, .inl (cZ, 100, .inl (fun _ => 0))), (q55, .inl (cL, 36, .inr (.inl (fun _ => 0))))] H := hP
  have hD : va_D A [(h0, .inr (5, [.int 0, .ref q7, .ref q15, .ref q23, .ref q31, .ref q39, .ref q47, .ref q55, .null, .null, .null, .null, .null, .null, .int 0, .null, .int 0, .long 0, .null, .int 0, .int 0, .int 0, .null, .int 0, .int 0, .int 0, .null, .null, .null, .null, .null])), (q7, .inl (cI, 10, .inl (fun _ => 0))), (q15, .inl (cI, 10, .inl (fun _ => 0))), (q23, .inl (cI, 10, .inl (fun _ => 0))), (q31, .inl (cL, 10, .inr (.inl (fun _ => 0)))), (q39, .inl (cZ, 10, .inl (fun _ => 0))), (q47, .inl (cZ, 100, .inl (fun _ => 0))), (q55, .inl (cL, 36, .inr (.inl (fun _ => 0))))] := hD
  refine lv_aload_n hx hb dX5_init_60 rfl (lv_at hl 0 rfl) ?_
  refine lv_bipush (v := 36) hx hb dX5_init_61 (by decide) ?_
  refine am_new3L hx hb (ht 99 _ rfl) hK hP hD hS hA 36 (by decide) (by decide) (by decide) (Nat.le_of_ble_eq_true rfl) (Nat.le_of_ble_eq_true rfl) dX5_init_63 (fun q63 H hP hD hS => ?_)
  have hP : va_P D vwCl [(h0, .inr (5, [.int 0, .ref q7, .ref q15, .ref q23, .ref q31, .ref q39, .ref q47, .ref q55, .null, .null, .null, .null, .null, .null, .int 0, .null, .int 0, .long 0, .null, .int 0, .int 0, .int 0, .null, .int 0, .int 0, .int 0, .null, .null, .null, .null, .null])), (q7, .inl (cI, 10, .inl (fun _ => 0))), (q15, .inl (cI, 10, .inl (fun _ => 0))), (q23, .inl (cI, 10, .inl (fun _ => 0))), (q31, .inl (cL, 10, .inr (.inl (fun _ => 0)))), (q39, .inl (cZ, 10, .inl (fun _ => 0))), (q47, .inl (cZ, 100, .inl (fun _ => 0))), (q55, .inl (cL, 36, .inr (.inl (fun _ => 0)))), (q63, .inl (cL, 36, .inr (.inl (fun _ => 0))))] H := hP
  have hD : va_D A [(h0, .inr (5, [.int 0, .ref q7, .ref q15, .ref q23, .ref q31, .ref q39, .ref q47, .ref q55, .null, .null, .null, .null, .null, .null, .int 0, .null, .int 0, .long 0, .null, .int 0, .int 0, .int 0, .null, .int 0, .int 0, .int 0, .null, .null, .null, .null, .null])), (q7, .inl (cI, 10, .inl (fun _ => 0))), (q15, .inl (cI, 10, .inl (fun _ => 0))), (q23, .inl (cI, 10, .inl (fun _ => 0))), (q31, .inl (cL, 10, .inr (.inl (fun _ => 0)))), (q39, .inl (cZ, 10, .inl (fun _ => 0))), (q47, .inl (cZ, 100, .inl (fun _ => 0))), (q55, .inl (cL, 36, .inr (.inl (fun _ => 0)))), (q63, .inl (cL, 36, .inr (.inl (fun _ => 0))))] := hD
  refine W.widen (k := 8) (n := 222) (by omega) (by omega) ?_
  refine va_putF (D := D) (ci := 5) (v := .ref q63) (ty := .array .long) (C := RX5) (T := TX5) (N := 31) hx hb hts hin_X5 tyX5 tyX5_ok nmX5 hown hK hP hD hS 0 rfl rfl 8 (by decide) hf_33 (fun _ h9 => h9) rfl hin9 rfl (by decide +kernel) rfl rfl (Nat.le_of_ble_eq_true rfl) dX5_init_65 (fun H locs hP hD hS => ?_)
  have hP : va_P D vwCl [(h0, .inr (5, [.int 0, .ref q7, .ref q15, .ref q23, .ref q31, .ref q39, .ref q47, .ref q55, .ref q63, .null, .null, .null, .null, .null, .int 0, .null, .int 0, .long 0, .null, .int 0, .int 0, .int 0, .null, .int 0, .int 0, .int 0, .null, .null, .null, .null, .null])), (q7, .inl (cI, 10, .inl (fun _ => 0))), (q15, .inl (cI, 10, .inl (fun _ => 0))), (q23, .inl (cI, 10, .inl (fun _ => 0))), (q31, .inl (cL, 10, .inr (.inl (fun _ => 0)))), (q39, .inl (cZ, 10, .inl (fun _ => 0))), (q47, .inl (cZ, 100, .inl (fun _ => 0))), (q55, .inl (cL, 36, .inr (.inl (fun _ => 0)))), (q63, .inl (cL, 36, .inr (.inl (fun _ => 0))))] H := hP
  have hD : va_D A [(h0, .inr (5, [.int 0, .ref q7, .ref q15, .ref q23, .ref q31, .ref q39, .ref q47, .ref q55, .ref q63, .null, .null, .null, .null, .null, .int 0, .null, .int 0, .long 0, .null, .int 0, .int 0, .int 0, .null, .int 0, .int 0, .int 0, .null, .null, .null, .null, .null])), (q7, .inl (cI, 10, .inl (fun _ => 0))), (q15, .inl (cI, 10, .inl (fun _ => 0))), (q23, .inl (cI, 10, .inl (fun _ => 0))), (q31, .inl (cL, 10, .inr (.inl (fun _ => 0)))), (q39, .inl (cZ, 10, .inl (fun _ => 0))), (q47, .inl (cZ, 100, .inl (fun _ => 0))), (q55, .inl (cL, 36, .inr (.inl (fun _ => 0)))), (q63, .inl (cL, 36, .inr (.inl (fun _ => 0))))] := hD
  refine lv_aload_n hx hb dX5_init_68 rfl (lv_at hl 0 rfl) ?_
  refine lv_bipush (v := 12) hx hb dX5_init_69 (by decide) ?_
  refine am_new3L hx hb (ht 99 _ rfl) hK hP hD hS hA 12 (by decide) (by decide) (by decide) (Nat.le_of_ble_eq_true rfl) (Nat.le_of_ble_eq_true rfl) dX5_init_71 (fun q71 H hP hD hS => ?_)
  have hP : va_P D vwCl [(h0, .inr (5, [.int 0, .ref q7, .ref q15, .ref q23, .ref q31, .ref q39, .ref q47, .ref q55, .ref q63, .null, .null, .null, .null, .null, .int 0, .null, .int 0, .long 0, .null, .int 0, .int 0, .int 0, .null, .int 0, .int 0, .int 0, .null, .null, .null, .null, .null])), (q7, .inl (cI, 10, .inl (fun _ => 0))), (q15, .inl (cI, 10, .inl (fun _ => 0))), (q23, .inl (cI, 10, .inl (fun _ => 0))), (q31, .inl (cL, 10, .inr (.inl (fun _ => 0)))), (q39, .inl (cZ, 10, .inl (fun _ => 0))), (q47, .inl (cZ, 100, .inl (fun _ => 0))), (q55, .inl (cL, 36, .inr (.inl (fun _ => 0)))), (q63, .inl (cL, 36, .inr (.inl (fun _ => 0)))), (q71, .inl (cL, 12, .inr (.inl (fun _ => 0))))] H := hP
  have hD : va_D A [(h0, .inr (5, [.int 0, .ref q7, .ref q15, .ref q23, .ref q31, .ref q39, .ref q47, .ref q55, .ref q63, .null, .null, .null, .null, .null, .int 0, .null, .int 0, .long 0, .null, .int 0, .int 0, .int 0, .null, .int 0, .int 0, .int 0, .null, .null, .null, .null, .null])), (q7, .inl (cI, 10, .inl (fun _ => 0))), (q15, .inl (cI, 10, .inl (fun _ => 0))), (q23, .inl (cI, 10, .inl (fun _ => 0))), (q31, .inl (cL, 10, .inr (.inl (fun _ => 0)))), (q39, .inl (cZ, 10, .inl (fun _ => 0))), (q47, .inl (cZ, 100, .inl (fun _ => 0))), (q55, .inl (cL, 36, .inr (.inl (fun _ => 0)))), (q63, .inl (cL, 36, .inr (.inl (fun _ => 0)))), (q71, .inl (cL, 12, .inr (.inl (fun _ => 0))))] := hD
  refine W.widen (k := 9) (n := 234) (by omega) (by omega) ?_
  refine va_putF (D := D) (ci := 5) (v := .ref q71) (ty := .array .long) (C := RX5) (T := TX5) (N := 31) hx hb hts hin_X5 tyX5 tyX5_ok nmX5 hown hK hP hD hS 0 rfl rfl 9 (by decide) hf_36 (fun _ h9 => h9) rfl hin9 rfl (by decide +kernel) rfl rfl (Nat.le_of_ble_eq_true rfl) dX5_init_73 (fun H locs hP hD hS => ?_)
  have hP : va_P D vwCl [(h0, .inr (5, [.int 0, .ref q7, .ref q15, .ref q23, .ref q31, .ref q39, .ref q47, .ref q55, .ref q63, .ref q71, .null, .null, .null, .null, .int 0, .null, .int 0, .long 0, .null, .int 0, .int 0, .int 0, .null, .int 0, .int 0, .int 0, .null, .null, .null, .null, .null])), (q7, .inl (cI, 10, .inl (fun _ => 0))), (q15, .inl (cI, 10, .inl (fun _ => 0))), (q23, .inl (cI, 10, .inl (fun _ => 0))), (q31, .inl (cL, 10, .inr (.inl (fun _ => 0)))), (q39, .inl (cZ, 10, .inl (fun _ => 0))), (q47, .inl (cZ, 100, .inl (fun _ => 0))), (q55, .inl (cL, 36, .inr (.inl (fun _ => 0)))), (q63, .inl (cL, 36, .inr (.inl (fun _ => 0)))), (q71, .inl (cL, 12, .inr (.inl (fun _ => 0))))] H := hP
  have hD : va_D A [(h0, .inr (5, [.int 0, .ref q7, .ref q15, .ref q23, .ref q31, .ref q39, .ref q47, .ref q55, .ref q63, .ref q71, .null, .null, .null, .null, .int 0, .null, .int 0, .long 0, .null, .int 0, .int 0, .int 0, .null, .int 0, .int 0, .int 0, .null, .null, .null, .null, .null])), (q7, .inl (cI, 10, .inl (fun _ => 0))), (q15, .inl (cI, 10, .inl (fun _ => 0))), (q23, .inl (cI, 10, .inl (fun _ => 0))), (q31, .inl (cL, 10, .inr (.inl (fun _ => 0)))), (q39, .inl (cZ, 10, .inl (fun _ => 0))), (q47, .inl (cZ, 100, .inl (fun _ => 0))), (q55, .inl (cL, 36, .inr (.inl (fun _ => 0)))), (q63, .inl (cL, 36, .inr (.inl (fun _ => 0)))), (q71, .inl (cL, 12, .inr (.inl (fun _ => 0))))] := hD
  refine lv_aload_n hx hb dX5_init_76 rfl (lv_at hl 0 rfl) ?_
  refine lv_bipush (v := 12) hx hb dX5_init_77 (by decide) ?_
  refine am_new3I hx hb (ht 98 _ rfl) hK hP hD hS hA 12 (by decide) (by decide) (by decide) (Nat.le_of_ble_eq_true rfl) (Nat.le_of_ble_eq_true rfl) dX5_init_79 (fun q79 H hP hD hS => ?_)
  have hP : va_P D vwCl [(h0, .inr (5, [.int 0, .ref q7, .ref q15, .ref q23, .ref q31, .ref q39, .ref q47, .ref q55, .ref q63, .ref q71, .null, .null, .null, .null, .int 0, .null, .int 0, .long 0, .null, .int 0, .int 0, .int 0, .null, .int 0, .int 0, .int 0, .null, .null, .null, .null, .null])), (q7, .inl (cI, 10, .inl (fun _ => 0))), (q15, .inl (cI, 10, .inl (fun _ => 0))), (q23, .inl (cI, 10, .inl (fun _ => 0))), (q31, .inl (cL, 10, .inr (.inl (fun _ => 0)))), (q39, .inl (cZ, 10, .inl (fun _ => 0))), (q47, .inl (cZ, 100, .inl (fun _ => 0))), (q55, .inl (cL, 36, .inr (.inl (fun _ => 0)))), (q63, .inl (cL, 36, .inr (.inl (fun _ => 0)))), (q71, .inl (cL, 12, .inr (.inl (fun _ => 0)))), (q79, .inl (cI, 12, .inl (fun _ => 0)))] H := hP
  have hD : va_D A [(h0, .inr (5, [.int 0, .ref q7, .ref q15, .ref q23, .ref q31, .ref q39, .ref q47, .ref q55, .ref q63, .ref q71, .null, .null, .null, .null, .int 0, .null, .int 0, .long 0, .null, .int 0, .int 0, .int 0, .null, .int 0, .int 0, .int 0, .null, .null, .null, .null, .null])), (q7, .inl (cI, 10, .inl (fun _ => 0))), (q15, .inl (cI, 10, .inl (fun _ => 0))), (q23, .inl (cI, 10, .inl (fun _ => 0))), (q31, .inl (cL, 10, .inr (.inl (fun _ => 0)))), (q39, .inl (cZ, 10, .inl (fun _ => 0))), (q47, .inl (cZ, 100, .inl (fun _ => 0))), (q55, .inl (cL, 36, .inr (.inl (fun _ => 0)))), (q63, .inl (cL, 36, .inr (.inl (fun _ => 0)))), (q71, .inl (cL, 12, .inr (.inl (fun _ => 0)))), (q79, .inl (cI, 12, .inl (fun _ => 0)))] := hD
  refine W.widen (k := 10) (n := 246) (by omega) (by omega) ?_
  refine va_putF (D := D) (ci := 5) (v := .ref q79) (ty := .array .int) (C := RX5) (T := TX5) (N := 31) hx hb hts hin_X5 tyX5 tyX5_ok nmX5 hown hK hP hD hS 0 rfl rfl 10 (by decide) hf_39 (fun _ h9 => h9) rfl hin9 rfl (by decide +kernel) rfl rfl (Nat.le_of_ble_eq_true rfl) dX5_init_81 (fun H locs hP hD hS => ?_)
  have hP : va_P D vwCl [(h0, .inr (5, [.int 0, .ref q7, .ref q15, .ref q23, .ref q31, .ref q39, .ref q47, .ref q55, .ref q63, .ref q71, .ref q79, .null, .null, .null, .int 0, .null, .int 0, .long 0, .null, .int 0, .int 0, .int 0, .null, .int 0, .int 0, .int 0, .null, .null, .null, .null, .null])), (q7, .inl (cI, 10, .inl (fun _ => 0))), (q15, .inl (cI, 10, .inl (fun _ => 0))), (q23, .inl (cI, 10, .inl (fun _ => 0))), (q31, .inl (cL, 10, .inr (.inl (fun _ => 0)))), (q39, .inl (cZ, 10, .inl (fun _ => 0))), (q47, .inl (cZ, 100, .inl (fun _ => 0))), (q55, .inl (cL, 36, .inr (.inl (fun _ => 0)))), (q63, .inl (cL, 36, .inr (.inl (fun _ => 0)))), (q71, .inl (cL, 12, .inr (.inl (fun _ => 0)))), (q79, .inl (cI, 12, .inl (fun _ => 0)))] H := hP
  have hD : va_D A [(h0, .inr (5, [.int 0, .ref q7, .ref q15, .ref q23, .ref q31, .ref q39, .ref q47, .ref q55, .ref q63, .ref q71, .ref q79, .null, .null, .null, .int 0, .null, .int 0, .long 0, .null, .int 0, .int 0, .int 0, .null, .int 0, .int 0, .int 0, .null, .null, .null, .null, .null])), (q7, .inl (cI, 10, .inl (fun _ => 0))), (q15, .inl (cI, 10, .inl (fun _ => 0))), (q23, .inl (cI, 10, .inl (fun _ => 0))), (q31, .inl (cL, 10, .inr (.inl (fun _ => 0)))), (q39, .inl (cZ, 10, .inl (fun _ => 0))), (q47, .inl (cZ, 100, .inl (fun _ => 0))), (q55, .inl (cL, 36, .inr (.inl (fun _ => 0)))), (q63, .inl (cL, 36, .inr (.inl (fun _ => 0)))), (q71, .inl (cL, 12, .inr (.inl (fun _ => 0)))), (q79, .inl (cI, 12, .inl (fun _ => 0)))] := hD
  refine lv_aload_n hx hb dX5_init_84 rfl (lv_at hl 0 rfl) ?_
  refine lv_bipush (v := 12) hx hb dX5_init_85 (by decide) ?_
  refine am_new3I hx hb (ht 98 _ rfl) hK hP hD hS hA 12 (by decide) (by decide) (by decide) (Nat.le_of_ble_eq_true rfl) (Nat.le_of_ble_eq_true rfl) dX5_init_87 (fun q87 H hP hD hS => ?_)
  have hP : va_P D vwCl [(h0, .inr (5, [.int 0, .ref q7, .ref q15, .ref q23, .ref q31, .ref q39, .ref q47, .ref q55, .ref q63, .ref q71, .ref q79, .null, .null, .null, .int 0, .null, .int 0, .long 0, .null, .int 0, .int 0, .int 0, .null, .int 0, .int 0, .int 0, .null, .null, .null, .null, .null])), (q7, .inl (cI, 10, .inl (fun _ => 0))), (q15, .inl (cI, 10, .inl (fun _ => 0))), (q23, .inl (cI, 10, .inl (fun _ => 0))), (q31, .inl (cL, 10, .inr (.inl (fun _ => 0)))), (q39, .inl (cZ, 10, .inl (fun _ => 0))), (q47, .inl (cZ, 100, .inl (fun _ => 0))), (q55, .inl (cL, 36, .inr (.inl (fun _ => 0)))), (q63, .inl (cL, 36, .inr (.inl (fun _ => 0)))), (q71, .inl (cL, 12, .inr (.inl (fun _ => 0)))), (q79, .inl (cI, 12, .inl (fun _ => 0))), (q87, .inl (cI, 12, .inl (fun _ => 0)))] H := hP
  have hD : va_D A [(h0, .inr (5, [.int 0, .ref q7, .ref q15, .ref q23, .ref q31, .ref q39, .ref q47, .ref q55, .ref q63, .ref q71, .ref q79, .null, .null, .null, .int 0, .null, .int 0, .long 0, .null, .int 0, .int 0, .int 0, .null, .int 0, .int 0, .int 0, .null, .null, .null, .null, .null])), (q7, .inl (cI, 10, .inl (fun _ => 0))), (q15, .inl (cI, 10, .inl (fun _ => 0))), (q23, .inl (cI, 10, .inl (fun _ => 0))), (q31, .inl (cL, 10, .inr (.inl (fun _ => 0)))), (q39, .inl (cZ, 10, .inl (fun _ => 0))), (q47, .inl (cZ, 100, .inl (fun _ => 0))), (q55, .inl (cL, 36, .inr (.inl (fun _ => 0)))), (q63, .inl (cL, 36, .inr (.inl (fun _ => 0)))), (q71, .inl (cL, 12, .inr (.inl (fun _ => 0)))), (q79, .inl (cI, 12, .inl (fun _ => 0))), (q87, .inl (cI, 12, .inl (fun _ => 0)))] := hD
  refine W.widen (k := 11) (n := 258) (by omega) (by omega) ?_
  refine va_putF (D := D) (ci := 5) (v := .ref q87) (ty := .array .int) (C := RX5) (T := TX5) (N := 31) hx hb hts hin_X5 tyX5 tyX5_ok nmX5 hown hK hP hD hS 0 rfl rfl 11 (by decide) hf_42 (fun _ h9 => h9) rfl hin9 rfl (by decide +kernel) rfl rfl (Nat.le_of_ble_eq_true rfl) dX5_init_89 (fun H locs hP hD hS => ?_)
  have hP : va_P D vwCl [(h0, .inr (5, [.int 0, .ref q7, .ref q15, .ref q23, .ref q31, .ref q39, .ref q47, .ref q55, .ref q63, .ref q71, .ref q79, .ref q87, .null, .null, .int 0, .null, .int 0, .long 0, .null, .int 0, .int 0, .int 0, .null, .int 0, .int 0, .int 0, .null, .null, .null, .null, .null])), (q7, .inl (cI, 10, .inl (fun _ => 0))), (q15, .inl (cI, 10, .inl (fun _ => 0))), (q23, .inl (cI, 10, .inl (fun _ => 0))), (q31, .inl (cL, 10, .inr (.inl (fun _ => 0)))), (q39, .inl (cZ, 10, .inl (fun _ => 0))), (q47, .inl (cZ, 100, .inl (fun _ => 0))), (q55, .inl (cL, 36, .inr (.inl (fun _ => 0)))), (q63, .inl (cL, 36, .inr (.inl (fun _ => 0)))), (q71, .inl (cL, 12, .inr (.inl (fun _ => 0)))), (q79, .inl (cI, 12, .inl (fun _ => 0))), (q87, .inl (cI, 12, .inl (fun _ => 0)))] H := hP
  have hD : va_D A [(h0, .inr (5, [.int 0, .ref q7, .ref q15, .ref q23, .ref q31, .ref q39, .ref q47, .ref q55, .ref q63, .ref q71, .ref q79, .ref q87, .null, .null, .int 0, .null, .int 0, .long 0, .null, .int 0, .int 0, .int 0, .null, .int 0, .int 0, .int 0, .null, .null, .null, .null, .null])), (q7, .inl (cI, 10, .inl (fun _ => 0))), (q15, .inl (cI, 10, .inl (fun _ => 0))), (q23, .inl (cI, 10, .inl (fun _ => 0))), (q31, .inl (cL, 10, .inr (.inl (fun _ => 0)))), (q39, .inl (cZ, 10, .inl (fun _ => 0))), (q47, .inl (cZ, 100, .inl (fun _ => 0))), (q55, .inl (cL, 36, .inr (.inl (fun _ => 0)))), (q63, .inl (cL, 36, .inr (.inl (fun _ => 0)))), (q71, .inl (cL, 12, .inr (.inl (fun _ => 0)))), (q79, .inl (cI, 12, .inl (fun _ => 0))), (q87, .inl (cI, 12, .inl (fun _ => 0)))] := hD
  refine lv_aload_n hx hb dX5_init_92 rfl (lv_at hl 0 rfl) ?_
  refine lv_bipush (v := 16) hx hb dX5_init_93 (by decide) ?_
  refine am_new3I hx hb (ht 98 _ rfl) hK hP hD hS hA 16 (by decide) (by decide) (by decide) (Nat.le_of_ble_eq_true rfl) (Nat.le_of_ble_eq_true rfl) dX5_init_95 (fun q95 H hP hD hS => ?_)
  have hP : va_P D vwCl [(h0, .inr (5, [.int 0, .ref q7, .ref q15, .ref q23, .ref q31, .ref q39, .ref q47, .ref q55, .ref q63, .ref q71, .ref q79, .ref q87, .null, .null, .int 0, .null, .int 0, .long 0, .null, .int 0, .int 0, .int 0, .null, .int 0, .int 0, .int 0, .null, .null, .null, .null, .null])), (q7, .inl (cI, 10, .inl (fun _ => 0))), (q15, .inl (cI, 10, .inl (fun _ => 0))), (q23, .inl (cI, 10, .inl (fun _ => 0))), (q31, .inl (cL, 10, .inr (.inl (fun _ => 0)))), (q39, .inl (cZ, 10, .inl (fun _ => 0))), (q47, .inl (cZ, 100, .inl (fun _ => 0))), (q55, .inl (cL, 36, .inr (.inl (fun _ => 0)))), (q63, .inl (cL, 36, .inr (.inl (fun _ => 0)))), (q71, .inl (cL, 12, .inr (.inl (fun _ => 0)))), (q79, .inl (cI, 12, .inl (fun _ => 0))), (q87, .inl (cI, 12, .inl (fun _ => 0))), (q95, .inl (cI, 16, .inl (fun _ => 0)))] H := hP
  have hD : va_D A [(h0, .inr (5, [.int 0, .ref q7, .ref q15, .ref q23, .ref q31, .ref q39, .ref q47, .ref q55, .ref q63, .ref q71, .ref q79, .ref q87, .null, .null, .int 0, .null, .int 0, .long 0, .null, .int 0, .int 0, .int 0, .null, .int 0, .int 0, .int 0, .null, .null, .null, .null, .null])), (q7, .inl (cI, 10, .inl (fun _ => 0))), (q15, .inl (cI, 10, .inl (fun _ => 0))), (q23, .inl (cI, 10, .inl (fun _ => 0))), (q31, .inl (cL, 10, .inr (.inl (fun _ => 0)))), (q39, .inl (cZ, 10, .inl (fun _ => 0))), (q47, .inl (cZ, 100, .inl (fun _ => 0))), (q55, .inl (cL, 36, .inr (.inl (fun _ => 0)))), (q63, .inl (cL, 36, .inr (.inl (fun _ => 0)))), (q71, .inl (cL, 12, .inr (.inl (fun _ => 0)))), (q79, .inl (cI, 12, .inl (fun _ => 0))), (q87, .inl (cI, 12, .inl (fun _ => 0))), (q95, .inl (cI, 16, .inl (fun _ => 0)))] := hD
  refine W.widen (k := 12) (n := 274) (by omega) (by omega) ?_
  refine va_putF (D := D) (ci := 5) (v := .ref q95) (ty := .array .int) (C := RX5) (T := TX5) (N := 31) hx hb hts hin_X5 tyX5 tyX5_ok nmX5 hown hK hP hD hS 0 rfl rfl 12 (by decide) hf_45 (fun _ h9 => h9) rfl hin9 rfl (by decide +kernel) rfl rfl (Nat.le_of_ble_eq_true rfl) dX5_init_97 (fun H locs hP hD hS => ?_)
  have hP : va_P D vwCl [(h0, .inr (5, [.int 0, .ref q7, .ref q15, .ref q23, .ref q31, .ref q39, .ref q47, .ref q55, .ref q63, .ref q71, .ref q79, .ref q87, .ref q95, .null, .int 0, .null, .int 0, .long 0, .null, .int 0, .int 0, .int 0, .null, .int 0, .int 0, .int 0, .null, .null, .null, .null, .null])), (q7, .inl (cI, 10, .inl (fun _ => 0))), (q15, .inl (cI, 10, .inl (fun _ => 0))), (q23, .inl (cI, 10, .inl (fun _ => 0))), (q31, .inl (cL, 10, .inr (.inl (fun _ => 0)))), (q39, .inl (cZ, 10, .inl (fun _ => 0))), (q47, .inl (cZ, 100, .inl (fun _ => 0))), (q55, .inl (cL, 36, .inr (.inl (fun _ => 0)))), (q63, .inl (cL, 36, .inr (.inl (fun _ => 0)))), (q71, .inl (cL, 12, .inr (.inl (fun _ => 0)))), (q79, .inl (cI, 12, .inl (fun _ => 0))), (q87, .inl (cI, 12, .inl (fun _ => 0))), (q95, .inl (cI, 16, .inl (fun _ => 0)))] H := hP
  have hD : va_D A [(h0, .inr (5, [.int 0, .ref q7, .ref q15, .ref q23, .ref q31, .ref q39, .ref q47, .ref q55, .ref q63, .ref q71, .ref q79, .ref q87, .ref q95, .null, .int 0, .null, .int 0, .long 0, .null, .int 0, .int 0, .int 0, .null, .int 0, .int 0, .int 0, .null, .null, .null, .null, .null])), (q7, .inl (cI, 10, .inl (fun _ => 0))), (q15, .inl (cI, 10, .inl (fun _ => 0))), (q23, .inl (cI, 10, .inl (fun _ => 0))), (q31, .inl (cL, 10, .inr (.inl (fun _ => 0)))), (q39, .inl (cZ, 10, .inl (fun _ => 0))), (q47, .inl (cZ, 100, .inl (fun _ => 0))), (q55, .inl (cL, 36, .inr (.inl (fun _ => 0)))), (q63, .inl (cL, 36, .inr (.inl (fun _ => 0)))), (q71, .inl (cL, 12, .inr (.inl (fun _ => 0)))), (q79, .inl (cI, 12, .inl (fun _ => 0))), (q87, .inl (cI, 12, .inl (fun _ => 0))), (q95, .inl (cI, 16, .inl (fun _ => 0)))] := hD
  refine lv_aload_n hx hb dX5_init_100 rfl (lv_at hl 0 rfl) ?_
  refine lv_bipush (v := 16) hx hb dX5_init_101 (by decide) ?_
  refine am_new3L hx hb (ht 99 _ rfl) hK hP hD hS hA 16 (by decide) (by decide) (by decide) (Nat.le_of_ble_eq_true rfl) (Nat.le_of_ble_eq_true rfl) dX5_init_103 (fun q103 H hP hD hS => ?_)
  have hP : va_P D vwCl [(h0, .inr (5, [.int 0, .ref q7, .ref q15, .ref q23, .ref q31, .ref q39, .ref q47, .ref q55, .ref q63, .ref q71, .ref q79, .ref q87, .ref q95, .null, .int 0, .null, .int 0, .long 0, .null, .int 0, .int 0, .int 0, .null, .int 0, .int 0, .int 0, .null, .null, .null, .null, .null])), (q7, .inl (cI, 10, .inl (fun _ => 0))), (q15, .inl (cI, 10, .inl (fun _ => 0))), (q23, .inl (cI, 10, .inl (fun _ => 0))), (q31, .inl (cL, 10, .inr (.inl (fun _ => 0)))), (q39, .inl (cZ, 10, .inl (fun _ => 0))), (q47, .inl (cZ, 100, .inl (fun _ => 0))), (q55, .inl (cL, 36, .inr (.inl (fun _ => 0)))), (q63, .inl (cL, 36, .inr (.inl (fun _ => 0)))), (q71, .inl (cL, 12, .inr (.inl (fun _ => 0)))), (q79, .inl (cI, 12, .inl (fun _ => 0))), (q87, .inl (cI, 12, .inl (fun _ => 0))), (q95, .inl (cI, 16, .inl (fun _ => 0))), (q103, .inl (cL, 16, .inr (.inl (fun _ => 0))))] H := hP
  have hD : va_D A [(h0, .inr (5, [.int 0, .ref q7, .ref q15, .ref q23, .ref q31, .ref q39, .ref q47, .ref q55, .ref q63, .ref q71, .ref q79, .ref q87, .ref q95, .null, .int 0, .null, .int 0, .long 0, .null, .int 0, .int 0, .int 0, .null, .int 0, .int 0, .int 0, .null, .null, .null, .null, .null])), (q7, .inl (cI, 10, .inl (fun _ => 0))), (q15, .inl (cI, 10, .inl (fun _ => 0))), (q23, .inl (cI, 10, .inl (fun _ => 0))), (q31, .inl (cL, 10, .inr (.inl (fun _ => 0)))), (q39, .inl (cZ, 10, .inl (fun _ => 0))), (q47, .inl (cZ, 100, .inl (fun _ => 0))), (q55, .inl (cL, 36, .inr (.inl (fun _ => 0)))), (q63, .inl (cL, 36, .inr (.inl (fun _ => 0)))), (q71, .inl (cL, 12, .inr (.inl (fun _ => 0)))), (q79, .inl (cI, 12, .inl (fun _ => 0))), (q87, .inl (cI, 12, .inl (fun _ => 0))), (q95, .inl (cI, 16, .inl (fun _ => 0))), (q103, .inl (cL, 16, .inr (.inl (fun _ => 0))))] := hD
  refine W.widen (k := 13) (n := 290) (by omega) (by omega) ?_
  refine va_putF (D := D) (ci := 5) (v := .ref q103) (ty := .array .long) (C := RX5) (T := TX5) (N := 31) hx hb hts hin_X5 tyX5 tyX5_ok nmX5 hown hK hP hD hS 0 rfl rfl 13 (by decide) hf_48 (fun _ h9 => h9) rfl hin9 rfl (by decide +kernel) rfl rfl (Nat.le_of_ble_eq_true rfl) dX5_init_105 (fun H locs hP hD hS => ?_)
  have hP : va_P D vwCl [(h0, .inr (5, [.int 0, .ref q7, .ref q15, .ref q23, .ref q31, .ref q39, .ref q47, .ref q55, .ref q63, .ref q71, .ref q79, .ref q87, .ref q95, .ref q103, .int 0, .null, .int 0, .long 0, .null, .int 0, .int 0, .int 0, .null, .int 0, .int 0, .int 0, .null, .null, .null, .null, .null])), (q7, .inl (cI, 10, .inl (fun _ => 0))), (q15, .inl (cI, 10, .inl (fun _ => 0))), (q23, .inl (cI, 10, .inl (fun _ => 0))), (q31, .inl (cL, 10, .inr (.inl (fun _ => 0)))), (q39, .inl (cZ, 10, .inl (fun _ => 0))), (q47, .inl (cZ, 100, .inl (fun _ => 0))), (q55, .inl (cL, 36, .inr (.inl (fun _ => 0)))), (q63, .inl (cL, 36, .inr (.inl (fun _ => 0)))), (q71, .inl (cL, 12, .inr (.inl (fun _ => 0)))), (q79, .inl (cI, 12, .inl (fun _ => 0))), (q87, .inl (cI, 12, .inl (fun _ => 0))), (q95, .inl (cI, 16, .inl (fun _ => 0))), (q103, .inl (cL, 16, .inr (.inl (fun _ => 0))))] H := hP
  have hD : va_D A [(h0, .inr (5, [.int 0, .ref q7, .ref q15, .ref q23, .ref q31, .ref q39, .ref q47, .ref q55, .ref q63, .ref q71, .ref q79, .ref q87, .ref q95, .ref q103, .int 0, .null, .int 0, .long 0, .null, .int 0, .int 0, .int 0, .null, .int 0, .int 0, .int 0, .null, .null, .null, .null, .null])), (q7, .inl (cI, 10, .inl (fun _ => 0))), (q15, .inl (cI, 10, .inl (fun _ => 0))), (q23, .inl (cI, 10, .inl (fun _ => 0))), (q31, .inl (cL, 10, .inr (.inl (fun _ => 0)))), (q39, .inl (cZ, 10, .inl (fun _ => 0))), (q47, .inl (cZ, 100, .inl (fun _ => 0))), (q55, .inl (cL, 36, .inr (.inl (fun _ => 0)))), (q63, .inl (cL, 36, .inr (.inl (fun _ => 0)))), (q71, .inl (cL, 12, .inr (.inl (fun _ => 0)))), (q79, .inl (cI, 12, .inl (fun _ => 0))), (q87, .inl (cI, 12, .inl (fun _ => 0))), (q95, .inl (cI, 16, .inl (fun _ => 0))), (q103, .inl (cL, 16, .inr (.inl (fun _ => 0))))] := hD
  refine lv_aload_n hx hb dX5_init_108 rfl (lv_at hl 0 rfl) ?_
  refine lv_bipush (v := 10) hx hb dX5_init_109 (by decide) ?_
  refine am_new3I hx hb (ht 98 _ rfl) hK hP hD hS hA 10 (by decide) (by decide) (by decide) (Nat.le_of_ble_eq_true rfl) (Nat.le_of_ble_eq_true rfl) dX5_init_111 (fun q111 H hP hD hS => ?_)
  have hP : va_P D vwCl [(h0, .inr (5, [.int 0, .ref q7, .ref q15, .ref q23, .ref q31, .ref q39, .ref q47, .ref q55, .ref q63, .ref q71, .ref q79, .ref q87, .ref q95, .ref q103, .int 0, .null, .int 0, .long 0, .null, .int 0, .int 0, .int 0, .null, .int 0, .int 0, .int 0, .null, .null, .null, .null, .null])), (q7, .inl (cI, 10, .inl (fun _ => 0))), (q15, .inl (cI, 10, .inl (fun _ => 0))), (q23, .inl (cI, 10, .inl (fun _ => 0))), (q31, .inl (cL, 10, .inr (.inl (fun _ => 0)))), (q39, .inl (cZ, 10, .inl (fun _ => 0))), (q47, .inl (cZ, 100, .inl (fun _ => 0))), (q55, .inl (cL, 36, .inr (.inl (fun _ => 0)))), (q63, .inl (cL, 36, .inr (.inl (fun _ => 0)))), (q71, .inl (cL, 12, .inr (.inl (fun _ => 0)))), (q79, .inl (cI, 12, .inl (fun _ => 0))), (q87, .inl (cI, 12, .inl (fun _ => 0))), (q95, .inl (cI, 16, .inl (fun _ => 0))), (q103, .inl (cL, 16, .inr (.inl (fun _ => 0)))), (q111, .inl (cI, 10, .inl (fun _ => 0)))] H := hP
  have hD : va_D A [(h0, .inr (5, [.int 0, .ref q7, .ref q15, .ref q23, .ref q31, .ref q39, .ref q47, .ref q55, .ref q63, .ref q71, .ref q79, .ref q87, .ref q95, .ref q103, .int 0, .null, .int 0, .long 0, .null, .int 0, .int 0, .int 0, .null, .int 0, .int 0, .int 0, .null, .null, .null, .null, .null])), (q7, .inl (cI, 10, .inl (fun _ => 0))), (q15, .inl (cI, 10, .inl (fun _ => 0))), (q23, .inl (cI, 10, .inl (fun _ => 0))), (q31, .inl (cL, 10, .inr (.inl (fun _ => 0)))), (q39, .inl (cZ, 10, .inl (fun _ => 0))), (q47, .inl (cZ, 100, .inl (fun _ => 0))), (q55, .inl (cL, 36, .inr (.inl (fun _ => 0)))), (q63, .inl (cL, 36, .inr (.inl (fun _ => 0)))), (q71, .inl (cL, 12, .inr (.inl (fun _ => 0)))), (q79, .inl (cI, 12, .inl (fun _ => 0))), (q87, .inl (cI, 12, .inl (fun _ => 0))), (q95, .inl (cI, 16, .inl (fun _ => 0))), (q103, .inl (cL, 16, .inr (.inl (fun _ => 0)))), (q111, .inl (cI, 10, .inl (fun _ => 0)))] := hD
  refine W.widen (k := 14) (n := 300) (by omega) (by omega) ?_
  refine va_putF (D := D) (ci := 5) (v := .ref q111) (ty := .array .int) (C := RX5) (T := TX5) (N := 31) hx hb hts hin_X5 tyX5 tyX5_ok nmX5 hown hK hP hD hS 0 rfl rfl 15 (by decide) hf_51 (fun _ h9 => h9) rfl hin9 rfl (by decide +kernel) rfl rfl (Nat.le_of_ble_eq_true rfl) dX5_init_113 (fun H locs hP hD hS => ?_)
  have hP : va_P D vwCl [(h0, .inr (5, [.int 0, .ref q7, .ref q15, .ref q23, .ref q31, .ref q39, .ref q47, .ref q55, .ref q63, .ref q71, .ref q79, .ref q87, .ref q95, .ref q103, .int 0, .ref q111, .int 0, .long 0, .null, .int 0, .int 0, .int 0, .null, .int 0, .int 0, .int 0, .null, .null, .null, .null, .null])), (q7, .inl (cI, 10, .inl (fun _ => 0))), (q15, .inl (cI, 10, .inl (fun _ => 0))), (q23, .inl (cI, 10, .inl (fun _ => 0))), (q31, .inl (cL, 10, .inr (.inl (fun _ => 0)))), (q39, .inl (cZ, 10, .inl (fun _ => 0))), (q47, .inl (cZ, 100, .inl (fun _ => 0))), (q55, .inl (cL, 36, .inr (.inl (fun _ => 0)))), (q63, .inl (cL, 36, .inr (.inl (fun _ => 0)))), (q71, .inl (cL, 12, .inr (.inl (fun _ => 0)))), (q79, .inl (cI, 12, .inl (fun _ => 0))), (q87, .inl (cI, 12, .inl (fun _ => 0))), (q95, .inl (cI, 16, .inl (fun _ => 0))), (q103, .inl (cL, 16, .inr (.inl (fun _ => 0)))), (q111, .inl (cI, 10, .inl (fun _ => 0)))] H := hP
  have hD : va_D A [(h0, .inr (5, [.int 0, .ref q7, .ref q15, .ref q23, .ref q31, .ref q39, .ref q47, .ref q55, .ref q63, .ref q71, .ref q79, .ref q87, .ref q95, .ref q103, .int 0, .ref q111, .int 0, .long 0, .null, .int 0, .int 0, .int 0, .null, .int 0, .int 0, .int 0, .null, .null, .null, .null, .null])), (q7, .inl (cI, 10, .inl (fun _ => 0))), (q15, .inl (cI, 10, .inl (fun _ => 0))), (q23, .inl (cI, 10, .inl (fun _ => 0))), (q31, .inl (cL, 10, .inr (.inl (fun _ => 0)))), (q39, .inl (cZ, 10, .inl (fun _ => 0))), (q47, .inl (cZ, 100, .inl (fun _ => 0))), (q55, .inl (cL, 36, .inr (.inl (fun _ => 0)))), (q63, .inl (cL, 36, .inr (.inl (fun _ => 0)))), (q71, .inl (cL, 12, .inr (.inl (fun _ => 0)))), (q79, .inl (cI, 12, .inl (fun _ => 0))), (q87, .inl (cI, 12, .inl (fun _ => 0))), (q95, .inl (cI, 16, .inl (fun _ => 0))), (q103, .inl (cL, 16, .inr (.inl (fun _ => 0)))), (q111, .inl (cI, 10, .inl (fun _ => 0)))] := hD
  refine lv_aload_n hx hb dX5_init_116 rfl (lv_at hl 0 rfl) ?_
  refine lv_iconst (v := (-1)) hx hb dX5_init_117 (by decide) ?_
  refine va_put (D := D) (ci := 5) (v := .int (-1)) (ty := .int) (C := RX5) (T := TX5) (N := 31) hx hb hts hin_X5 tyX5 tyX5_ok nmX5 hown hK hP hD hS 0 rfl rfl 16 (by decide) hf_54 (fun _ h9 => h9) rfl (by decide +kernel) rfl rfl (Nat.le_of_ble_eq_true rfl) dX5_init_118 (fun H locs hP hD hS => ?_)
  have hP : va_P D vwCl [(h0, .inr (5, [.int 0, .ref q7, .ref q15, .ref q23, .ref q31, .ref q39, .ref q47, .ref q55, .ref q63, .ref q71, .ref q79, .ref q87, .ref q95, .ref q103, .int 0, .ref q111, .int (-1), .long 0, .null, .int 0, .int 0, .int 0, .null, .int 0, .int 0, .int 0, .null, .null, .null, .null, .null])), (q7, .inl (cI, 10, .inl (fun _ => 0))), (q15, .inl (cI, 10, .inl (fun _ => 0))), (q23, .inl (cI, 10, .inl (fun _ => 0))), (q31, .inl (cL, 10, .inr (.inl (fun _ => 0)))), (q39, .inl (cZ, 10, .inl (fun _ => 0))), (q47, .inl (cZ, 100, .inl (fun _ => 0))), (q55, .inl (cL, 36, .inr (.inl (fun _ => 0)))), (q63, .inl (cL, 36, .inr (.inl (fun _ => 0)))), (q71, .inl (cL, 12, .inr (.inl (fun _ => 0)))), (q79, .inl (cI, 12, .inl (fun _ => 0))), (q87, .inl (cI, 12, .inl (fun _ => 0))), (q95, .inl (cI, 16, .inl (fun _ => 0))), (q103, .inl (cL, 16, .inr (.inl (fun _ => 0)))), (q111, .inl (cI, 10, .inl (fun _ => 0)))] H := hP
  have hD : va_D A [(h0, .inr (5, [.int 0, .ref q7, .ref q15, .ref q23, .ref q31, .ref q39, .ref q47, .ref q55, .ref q63, .ref q71, .ref q79, .ref q87, .ref q95, .ref q103, .int 0, .ref q111, .int (-1), .long 0, .null, .int 0, .int 0, .int 0, .null, .int 0, .int 0, .int 0, .null, .null, .null, .null, .null])), (q7, .inl (cI, 10, .inl (fun _ => 0))), (q15, .inl (cI, 10, .inl (fun _ => 0))), (q23, .inl (cI, 10, .inl (fun _ => 0))), (q31, .inl (cL, 10, .inr (.inl (fun _ => 0)))), (q39, .inl (cZ, 10, .inl (fun _ => 0))), (q47, .inl (cZ, 100, .inl (fun _ => 0))), (q55, .inl (cL, 36, .inr (.inl (fun _ => 0)))), (q63, .inl (cL, 36, .inr (.inl (fun _ => 0)))), (q71, .inl (cL, 12, .inr (.inl (fun _ => 0)))), (q79, .inl (cI, 12, .inl (fun _ => 0))), (q87, .inl (cI, 12, .inl (fun _ => 0))), (q95, .inl (cI, 16, .inl (fun _ => 0))), (q103, .inl (cL, 16, .inr (.inl (fun _ => 0)))), (q111, .inl (cI, 10, .inl (fun _ => 0)))] := hD
  refine lv_aload_n hx hb dX5_init_121 rfl (lv_at hl 0 rfl) ?_
  refine lv_bipush (v := 12) hx hb dX5_init_122 (by decide) ?_
  refine am_new3L hx hb (ht 99 _ rfl) hK hP hD hS hA 12 (by decide) (by decide) (by decide) (Nat.le_of_ble_eq_true rfl) (Nat.le_of_ble_eq_true rfl) dX5_init_124 (fun q124 H hP hD hS => ?_)
  have hP : va_P D vwCl [(h0, .inr (5, [.int 0, .ref q7, .ref q15, .ref q23, .ref q31, .ref q39, .ref q47, .ref q55, .ref q63, .ref q71, .ref q79, .ref q87, .ref q95, .ref q103, .int 0, .ref q111, .int (-1), .long 0, .null, .int 0, .int 0, .int 0, .null, .int 0, .int 0, .int 0, .null, .null, .null, .null, .null])), (q7, .inl (cI, 10, .inl (fun _ => 0))), (q15, .inl (cI, 10, .inl (fun _ => 0))), (q23, .inl (cI, 10, .inl (fun _ => 0))), (q31, .inl (cL, 10, .inr (.inl (fun _ => 0)))), (q39, .inl (cZ, 10, .inl (fun _ => 0))), (q47, .inl (cZ, 100, .inl (fun _ => 0))), (q55, .inl (cL, 36, .inr (.inl (fun _ => 0)))), (q63, .inl (cL, 36, .inr (.inl (fun _ => 0)))), (q71, .inl (cL, 12, .inr (.inl (fun _ => 0)))), (q79, .inl (cI, 12, .inl (fun _ => 0))), (q87, .inl (cI, 12, .inl (fun _ => 0))), (q95, .inl (cI, 16, .inl (fun _ => 0))), (q103, .inl (cL, 16, .inr (.inl (fun _ => 0)))), (q111, .inl (cI, 10, .inl (fun _ => 0))), (q124, .inl (cL, 12, .inr (.inl (fun _ => 0))))] H := hP
  have hD : va_D A [(h0, .inr (5, [.int 0, .ref q7, .ref q15, .ref q23, .ref q31, .ref q39, .ref q47, .ref q55, .ref q63, .ref q71, .ref q79, .ref q87, .ref q95, .ref q103, .int 0, .ref q111, .int (-1), .long 0, .null, .int 0, .int 0, .int 0, .null, .int 0, .int 0, .int 0, .null, .null, .null, .null, .null])), (q7, .inl (cI, 10, .inl (fun _ => 0))), (q15, .inl (cI, 10, .inl (fun _ => 0))), (q23, .inl (cI, 10, .inl (fun _ => 0))), (q31, .inl (cL, 10, .inr (.inl (fun _ => 0)))), (q39, .inl (cZ, 10, .inl (fun _ => 0))), (q47, .inl (cZ, 100, .inl (fun _ => 0))), (q55, .inl (cL, 36, .inr (.inl (fun _ => 0)))), (q63, .inl (cL, 36, .inr (.inl (fun _ => 0)))), (q71, .inl (cL, 12, .inr (.inl (fun _ => 0)))), (q79, .inl (cI, 12, .inl (fun _ => 0))), (q87, .inl (cI, 12, .inl (fun _ => 0))), (q95, .inl (cI, 16, .inl (fun _ => 0))), (q103, .inl (cL, 16, .inr (.inl (fun _ => 0)))), (q111, .inl (cI, 10, .inl (fun _ => 0))), (q124, .inl (cL, 12, .inr (.inl (fun _ => 0))))] := hD
  refine W.widen (k := 15) (n := 312) (by omega) (by omega) ?_
  refine va_putF (D := D) (ci := 5) (v := .ref q124) (ty := .array .long) (C := RX5) (T := TX5) (N := 31) hx hb hts hin_X5 tyX5 tyX5_ok nmX5 hown hK hP hD hS 0 rfl rfl 18 (by decide) hf_58 (fun _ h9 => h9) rfl hin9 rfl (by decide +kernel) rfl rfl (Nat.le_of_ble_eq_true rfl) dX5_init_126 (fun H locs hP hD hS => ?_)
  have hP : va_P D vwCl [(h0, .inr (5, [.int 0, .ref q7, .ref q15, .ref q23, .ref q31, .ref q39, .ref q47, .ref q55, .ref q63, .ref q71, .ref q79, .ref q87, .ref q95, .ref q103, .int 0, .ref q111, .int (-1), .long 0, .ref q124, .int 0, .int 0, .int 0, .null, .int 0, .int 0, .int 0, .null, .null, .null, .null, .null])), (q7, .inl (cI, 10, .inl (fun _ => 0))), (q15, .inl (cI, 10, .inl (fun _ => 0))), (q23, .inl (cI, 10, .inl (fun _ => 0))), (q31, .inl (cL, 10, .inr (.inl (fun _ => 0)))), (q39, .inl (cZ, 10, .inl (fun _ => 0))), (q47, .inl (cZ, 100, .inl (fun _ => 0))), (q55, .inl (cL, 36, .inr (.inl (fun _ => 0)))), (q63, .inl (cL, 36, .inr (.inl (fun _ => 0)))), (q71, .inl (cL, 12, .inr (.inl (fun _ => 0)))), (q79, .inl (cI, 12, .inl (fun _ => 0))), (q87, .inl (cI, 12, .inl (fun _ => 0))), (q95, .inl (cI, 16, .inl (fun _ => 0))), (q103, .inl (cL, 16, .inr (.inl (fun _ => 0)))), (q111, .inl (cI, 10, .inl (fun _ => 0))), (q124, .inl (cL, 12, .inr (.inl (fun _ => 0))))] H := hP
  have hD : va_D A [(h0, .inr (5, [.int 0, .ref q7, .ref q15, .ref q23, .ref q31, .ref q39, .ref q47, .ref q55, .ref q63, .ref q71, .ref q79, .ref q87, .ref q95, .ref q103, .int 0, .ref q111, .int (-1), .long 0, .ref q124, .int 0, .int 0, .int 0, .null, .int 0, .int 0, .int 0, .null, .null, .null, .null, .null])), (q7, .inl (cI, 10, .inl (fun _ => 0))), (q15, .inl (cI, 10, .inl (fun _ => 0))), (q23, .inl (cI, 10, .inl (fun _ => 0))), (q31, .inl (cL, 10, .inr (.inl (fun _ => 0)))), (q39, .inl (cZ, 10, .inl (fun _ => 0))), (q47, .inl (cZ, 100, .inl (fun _ => 0))), (q55, .inl (cL, 36, .inr (.inl (fun _ => 0)))), (q63, .inl (cL, 36, .inr (.inl (fun _ => 0)))), (q71, .inl (cL, 12, .inr (.inl (fun _ => 0)))), (q79, .inl (cI, 12, .inl (fun _ => 0))), (q87, .inl (cI, 12, .inl (fun _ => 0))), (q95, .inl (cI, 16, .inl (fun _ => 0))), (q103, .inl (cL, 16, .inr (.inl (fun _ => 0)))), (q111, .inl (cI, 10, .inl (fun _ => 0))), (q124, .inl (cL, 12, .inr (.inl (fun _ => 0))))] := hD
  refine lv_aload_n hx hb dX5_init_129 rfl (lv_at hl 0 rfl) ?_
  refine lv_bipush (v := 10) hx hb dX5_init_130 (by decide) ?_
  refine am_new3I hx hb (ht 98 _ rfl) hK hP hD hS hA 10 (by decide) (by decide) (by decide) (Nat.le_of_ble_eq_true rfl) (Nat.le_of_ble_eq_true rfl) dX5_init_132 (fun q132 H hP hD hS => ?_)
  have hP : va_P D vwCl [(h0, .inr (5, [.int 0, .ref q7, .ref q15, .ref q23, .ref q31, .ref q39, .ref q47, .ref q55, .ref q63, .ref q71, .ref q79, .ref q87, .ref q95, .ref q103, .int 0, .ref q111, .int (-1), .long 0, .ref q124, .int 0, .int 0, .int 0, .null, .int 0, .int 0, .int 0, .null, .null, .null, .null, .null])), (q7, .inl (cI, 10, .inl (fun _ => 0))), (q15, .inl (cI, 10, .inl (fun _ => 0))), (q23, .inl (cI, 10, .inl (fun _ => 0))), (q31, .inl (cL, 10, .inr (.inl (fun _ => 0)))), (q39, .inl (cZ, 10, .inl (fun _ => 0))), (q47, .inl (cZ, 100, .inl (fun _ => 0))), (q55, .inl (cL, 36, .inr (.inl (fun _ => 0)))), (q63, .inl (cL, 36, .inr (.inl (fun _ => 0)))), (q71, .inl (cL, 12, .inr (.inl (fun _ => 0)))), (q79, .inl (cI, 12, .inl (fun _ => 0))), (q87, .inl (cI, 12, .inl (fun _ => 0))), (q95, .inl (cI, 16, .inl (fun _ => 0))), (q103, .inl (cL, 16, .inr (.inl (fun _ => 0)))), (q111, .inl (cI, 10, .inl (fun _ => 0))), (q124, .inl (cL, 12, .inr (.inl (fun _ => 0)))), (q132, .inl (cI, 10, .inl (fun _ => 0)))] H := hP
  have hD : va_D A [(h0, .inr (5, [.int 0, .ref q7, .ref q15, .ref q23, .ref q31, .ref q39, .ref q47, .ref q55, .ref q63, .ref q71, .ref q79, .ref q87, .ref q95, .ref q103, .int 0, .ref q111, .int (-1), .long 0, .ref q124, .int 0, .int 0, .int 0, .null, .int 0, .int 0, .int 0, .null, .null, .null, .null, .null])), (q7, .inl (cI, 10, .inl (fun _ => 0))), (q15, .inl (cI, 10, .inl (fun _ => 0))), (q23, .inl (cI, 10, .inl (fun _ => 0))), (q31, .inl (cL, 10, .inr (.inl (fun _ => 0)))), (q39, .inl (cZ, 10, .inl (fun _ => 0))), (q47, .inl (cZ, 100, .inl (fun _ => 0))), (q55, .inl (cL, 36, .inr (.inl (fun _ => 0)))), (q63, .inl (cL, 36, .inr (.inl (fun _ => 0)))), (q71, .inl (cL, 12, .inr (.inl (fun _ => 0)))), (q79, .inl (cI, 12, .inl (fun _ => 0))), (q87, .inl (cI, 12, .inl (fun _ => 0))), (q95, .inl (cI, 16, .inl (fun _ => 0))), (q103, .inl (cL, 16, .inr (.inl (fun _ => 0)))), (q111, .inl (cI, 10, .inl (fun _ => 0))), (q124, .inl (cL, 12, .inr (.inl (fun _ => 0)))), (q132, .inl (cI, 10, .inl (fun _ => 0)))] := hD
  refine W.widen (k := 16) (n := 322) (by omega) (by omega) ?_
  refine va_putF (D := D) (ci := 5) (v := .ref q132) (ty := .array .int) (C := RX5) (T := TX5) (N := 31) hx hb hts hin_X5 tyX5 tyX5_ok nmX5 hown hK hP hD hS 0 rfl rfl 22 (by decide) hf_61 (fun _ h9 => h9) rfl hin9 rfl (by decide +kernel) rfl rfl (Nat.le_of_ble_eq_true rfl) dX5_init_134 (fun H locs hP hD hS => ?_)
  have hP : va_P D vwCl [(h0, .inr (5, [.int 0, .ref q7, .ref q15, .ref q23, .ref q31, .ref q39, .ref q47, .ref q55, .ref q63, .ref q71, .ref q79, .ref q87, .ref q95, .ref q103, .int 0, .ref q111, .int (-1), .long 0, .ref q124, .int 0, .int 0, .int 0, .ref q132, .int 0, .int 0, .int 0, .null, .null, .null, .null, .null])), (q7, .inl (cI, 10, .inl (fun _ => 0))), (q15, .inl (cI, 10, .inl (fun _ => 0))), (q23, .inl (cI, 10, .inl (fun _ => 0))), (q31, .inl (cL, 10, .inr (.inl (fun _ => 0)))), (q39, .inl (cZ, 10, .inl (fun _ => 0))), (q47, .inl (cZ, 100, .inl (fun _ => 0))), (q55, .inl (cL, 36, .inr (.inl (fun _ => 0)))), (q63, .inl (cL, 36, .inr (.inl (fun _ => 0)))), (q71, .inl (cL, 12, .inr (.inl (fun _ => 0)))), (q79, .inl (cI, 12, .inl (fun _ => 0))), (q87, .inl (cI, 12, .inl (fun _ => 0))), (q95, .inl (cI, 16, .inl (fun _ => 0))), (q103, .inl (cL, 16, .inr (.inl (fun _ => 0)))), (q111, .inl (cI, 10, .inl (fun _ => 0))), (q124, .inl (cL, 12, .inr (.inl (fun _ => 0)))), (q132, .inl (cI, 10, .inl (fun _ => 0)))] H := hP
  have hD : va_D A [(h0, .inr (5, [.int 0, .ref q7, .ref q15, .ref q23, .ref q31, .ref q39, .ref q47, .ref q55, .ref q63, .ref q71, .ref q79, .ref q87, .ref q95, .ref q103, .int 0, .ref q111, .int (-1), .long 0, .ref q124, .int 0, .int 0, .int 0, .ref q132, .int 0, .int 0, .int 0, .null, .null, .null, .null, .null])), (q7, .inl (cI, 10, .inl (fun _ => 0))), (q15, .inl (cI, 10, .inl (fun _ => 0))), (q23, .inl (cI, 10, .inl (fun _ => 0))), (q31, .inl (cL, 10, .inr (.inl (fun _ => 0)))), (q39, .inl (cZ, 10, .inl (fun _ => 0))), (q47, .inl (cZ, 100, .inl (fun _ => 0))), (q55, .inl (cL, 36, .inr (.inl (fun _ => 0)))), (q63, .inl (cL, 36, .inr (.inl (fun _ => 0)))), (q71, .inl (cL, 12, .inr (.inl (fun _ => 0)))), (q79, .inl (cI, 12, .inl (fun _ => 0))), (q87, .inl (cI, 12, .inl (fun _ => 0))), (q95, .inl (cI, 16, .inl (fun _ => 0))), (q103, .inl (cL, 16, .inr (.inl (fun _ => 0)))), (q111, .inl (cI, 10, .inl (fun _ => 0))), (q124, .inl (cL, 12, .inr (.inl (fun _ => 0)))), (q132, .inl (cI, 10, .inl (fun _ => 0)))] := hD
  refine lv_aload_n hx hb dX5_init_137 rfl (lv_at hl 0 rfl) ?_
  refine lv_iconst (v := (-1)) hx hb dX5_init_138 (by decide) ?_
  refine va_put (D := D) (ci := 5) (v := .int (-1)) (ty := .int) (C := RX5) (T := TX5) (N := 31) hx hb hts hin_X5 tyX5 tyX5_ok nmX5 hown hK hP hD hS 0 rfl rfl 24 (by decide) hf_64 (fun _ h9 => h9) rfl (by decide +kernel) rfl rfl (Nat.le_of_ble_eq_true rfl) dX5_init_139 (fun H locs hP hD hS => ?_)
  have hP : va_P D vwCl [(h0, .inr (5, [.int 0, .ref q7, .ref q15, .ref q23, .ref q31, .ref q39, .ref q47, .ref q55, .ref q63, .ref q71, .ref q79, .ref q87, .ref q95, .ref q103, .int 0, .ref q111, .int (-1), .long 0, .ref q124, .int 0, .int 0, .int 0, .ref q132, .int 0, .int (-1), .int 0, .null, .null, .null, .null, .null])), (q7, .inl (cI, 10, .inl (fun _ => 0))), (q15, .inl (cI, 10, .inl (fun _ => 0))), (q23, .inl (cI, 10, .inl (fun _ => 0))), (q31, .inl (cL, 10, .inr (.inl (fun _ => 0)))), (q39, .inl (cZ, 10, .inl (fun _ => 0))), (q47, .inl (cZ, 100, .inl (fun _ => 0))), (q55, .inl (cL, 36, .inr (.inl (fun _ => 0)))), (q63, .inl (cL, 36, .inr (.inl (fun _ => 0)))), (q71, .inl (cL, 12, .inr (.inl (fun _ => 0)))), (q79, .inl (cI, 12, .inl (fun _ => 0))), (q87, .inl (cI, 12, .inl (fun _ => 0))), (q95, .inl (cI, 16, .inl (fun _ => 0))), (q103, .inl (cL, 16, .inr (.inl (fun _ => 0)))), (q111, .inl (cI, 10, .inl (fun _ => 0))), (q124, .inl (cL, 12, .inr (.inl (fun _ => 0)))), (q132, .inl (cI, 10, .inl (fun _ => 0)))] H := hP
  have hD : va_D A [(h0, .inr (5, [.int 0, .ref q7, .ref q15, .ref q23, .ref q31, .ref q39, .ref q47, .ref q55, .ref q63, .ref q71, .ref q79, .ref q87, .ref q95, .ref q103, .int 0, .ref q111, .int (-1), .long 0, .ref q124, .int 0, .int 0, .int 0, .ref q132, .int 0, .int (-1), .int 0, .null, .null, .null, .null, .null])), (q7, .inl (cI, 10, .inl (fun _ => 0))), (q15, .inl (cI, 10, .inl (fun _ => 0))), (q23, .inl (cI, 10, .inl (fun _ => 0))), (q31, .inl (cL, 10, .inr (.inl (fun _ => 0)))), (q39, .inl (cZ, 10, .inl (fun _ => 0))), (q47, .inl (cZ, 100, .inl (fun _ => 0))), (q55, .inl (cL, 36, .inr (.inl (fun _ => 0)))), (q63, .inl (cL, 36, .inr (.inl (fun _ => 0)))), (q71, .inl (cL, 12, .inr (.inl (fun _ => 0)))), (q79, .inl (cI, 12, .inl (fun _ => 0))), (q87, .inl (cI, 12, .inl (fun _ => 0))), (q95, .inl (cI, 16, .inl (fun _ => 0))), (q103, .inl (cL, 16, .inr (.inl (fun _ => 0)))), (q111, .inl (cI, 10, .inl (fun _ => 0))), (q124, .inl (cL, 12, .inr (.inl (fun _ => 0)))), (q132, .inl (cI, 10, .inl (fun _ => 0)))] := hD
  refine lv_aload_n hx hb dX5_init_142 rfl (lv_at hl 0 rfl) ?_
  refine lv_bipush (v := 10) hx hb dX5_init_143 (by decide) ?_
  refine am_new3I hx hb (ht 98 _ rfl) hK hP hD hS hA 10 (by decide) (by decide) (by decide) (Nat.le_of_ble_eq_true rfl) (Nat.le_of_ble_eq_true rfl) dX5_init_145 (fun q145 H hP hD hS => ?_)
  have hP : va_P D vwCl [(h0, .inr (5, [.int 0, .ref q7, .ref q15, .ref q23, .ref q31, .ref q39, .ref q47, .ref q55, .ref q63, .ref q71, .ref q79, .ref q87, .ref q95, .ref q103, .int 0, .ref q111, .int (-1), .long 0, .ref q124, .int 0, .int 0, .int 0, .ref q132, .int 0, .int (-1), .int 0, .null, .null, .null, .null, .null])), (q7, .inl (cI, 10, .inl (fun _ => 0))), (q15, .inl (cI, 10, .inl (fun _ => 0))), (q23, .inl (cI, 10, .inl (fun _ => 0))), (q31, .inl (cL, 10, .inr (.inl (fun _ => 0)))), (q39, .inl (cZ, 10, .inl (fun _ => 0))), (q47, .inl (cZ, 100, .inl (fun _ => 0))), (q55, .inl (cL, 36, .inr (.inl (fun _ => 0)))), (q63, .inl (cL, 36, .inr (.inl (fun _ => 0)))), (q71, .inl (cL, 12, .inr (.inl (fun _ => 0)))), (q79, .inl (cI, 12, .inl (fun _ => 0))), (q87, .inl (cI, 12, .inl (fun _ => 0))), (q95, .inl (cI, 16, .inl (fun _ => 0))), (q103, .inl (cL, 16, .inr (.inl (fun _ => 0)))), (q111, .inl (cI, 10, .inl (fun _ => 0))), (q124, .inl (cL, 12, .inr (.inl (fun _ => 0)))), (q132, .inl (cI, 10, .inl (fun _ => 0))), (q145, .inl (cI, 10, .inl (fun _ => 0)))] H := hP
  have hD : va_D A [(h0, .inr (5, [.int 0, .ref q7, .ref q15, .ref q23, .ref q31, .ref q39, .ref q47, .ref q55, .ref q63, .ref q71, .ref q79, .ref q87, .ref q95, .ref q103, .int 0, .ref q111, .int (-1), .long 0, .ref q124, .int 0, .int 0, .int 0, .ref q132, .int 0, .int (-1), .int 0, .null, .null, .null, .null, .null])), (q7, .inl (cI, 10, .inl (fun _ => 0))), (q15, .inl (cI, 10, .inl (fun _ => 0))), (q23, .inl (cI, 10, .inl (fun _ => 0))), (q31, .inl (cL, 10, .inr (.inl (fun _ => 0)))), (q39, .inl (cZ, 10, .inl (fun _ => 0))), (q47, .inl (cZ, 100, .inl (fun _ => 0))), (q55, .inl (cL, 36, .inr (.inl (fun _ => 0)))), (q63, .inl (cL, 36, .inr (.inl (fun _ => 0)))), (q71, .inl (cL, 12, .inr (.inl (fun _ => 0)))), (q79, .inl (cI, 12, .inl (fun _ => 0))), (q87, .inl (cI, 12, .inl (fun _ => 0))), (q95, .inl (cI, 16, .inl (fun _ => 0))), (q103, .inl (cL, 16, .inr (.inl (fun _ => 0)))), (q111, .inl (cI, 10, .inl (fun _ => 0))), (q124, .inl (cL, 12, .inr (.inl (fun _ => 0)))), (q132, .inl (cI, 10, .inl (fun _ => 0))), (q145, .inl (cI, 10, .inl (fun _ => 0)))] := hD
  refine W.widen (k := 17) (n := 332) (by omega) (by omega) ?_
  refine va_putF (D := D) (ci := 5) (v := .ref q145) (ty := .array .int) (C := RX5) (T := TX5) (N := 31) hx hb hts hin_X5 tyX5 tyX5_ok nmX5 hown hK hP hD hS 0 rfl rfl 26 (by decide) hf_67 (fun _ h9 => h9) rfl hin9 rfl (by decide +kernel) rfl rfl (Nat.le_of_ble_eq_true rfl) dX5_init_147 (fun H locs hP hD hS => ?_)
  have hP : va_P D vwCl [(h0, .inr (5, [.int 0, .ref q7, .ref q15, .ref q23, .ref q31, .ref q39, .ref q47, .ref q55, .ref q63, .ref q71, .ref q79, .ref q87, .ref q95, .ref q103, .int 0, .ref q111, .int (-1), .long 0, .ref q124, .int 0, .int 0, .int 0, .ref q132, .int 0, .int (-1), .int 0, .ref q145, .null, .null, .null, .null])), (q7, .inl (cI, 10, .inl (fun _ => 0))), (q15, .inl (cI, 10, .inl (fun _ => 0))), (q23, .inl (cI, 10, .inl (fun _ => 0))), (q31, .inl (cL, 10, .inr (.inl (fun _ => 0)))), (q39, .inl (cZ, 10, .inl (fun _ => 0))), (q47, .inl (cZ, 100, .inl (fun _ => 0))), (q55, .inl (cL, 36, .inr (.inl (fun _ => 0)))), (q63, .inl (cL, 36, .inr (.inl (fun _ => 0)))), (q71, .inl (cL, 12, .inr (.inl (fun _ => 0)))), (q79, .inl (cI, 12, .inl (fun _ => 0))), (q87, .inl (cI, 12, .inl (fun _ => 0))), (q95, .inl (cI, 16, .inl (fun _ => 0))), (q103, .inl (cL, 16, .inr (.inl (fun _ => 0)))), (q111, .inl (cI, 10, .inl (fun _ => 0))), (q124, .inl (cL, 12, .inr (.inl (fun _ => 0)))), (q132, .inl (cI, 10, .inl (fun _ => 0))), (q145, .inl (cI, 10, .inl (fun _ => 0)))] H := hP
  have hD : va_D A [(h0, .inr (5, [.int 0, .ref q7, .ref q15, .ref q23, .ref q31, .ref q39, .ref q47, .ref q55, .ref q63, .ref q71, .ref q79, .ref q87, .ref q95, .ref q103, .int 0, .ref q111, .int (-1), .long 0, .ref q124, .int 0, .int 0, .int 0, .ref q132, .int 0, .int (-1), .int 0, .ref q145, .null, .null, .null, .null])), (q7, .inl (cI, 10, .inl (fun _ => 0))), (q15, .inl (cI, 10, .inl (fun _ => 0))), (q23, .inl (cI, 10, .inl (fun _ => 0))), (q31, .inl (cL, 10, .inr (.inl (fun _ => 0)))), (q39, .inl (cZ, 10, .inl (fun _ => 0))), (q47, .inl (cZ, 100, .inl (fun _ => 0))), (q55, .inl (cL, 36, .inr (.inl (fun _ => 0)))), (q63, .inl (cL, 36, .inr (.inl (fun _ => 0)))), (q71, .inl (cL, 12, .inr (.inl (fun _ => 0)))), (q79, .inl (cI, 12, .inl (fun _ => 0))), (q87, .inl (cI, 12, .inl (fun _ => 0))), (q95, .inl (cI, 16, .inl (fun _ => 0))), (q103, .inl (cL, 16, .inr (.inl (fun _ => 0)))), (q111, .inl (cI, 10, .inl (fun _ => 0))), (q124, .inl (cL, 12, .inr (.inl (fun _ => 0)))), (q132, .inl (cI, 10, .inl (fun _ => 0))), (q145, .inl (cI, 10, .inl (fun _ => 0)))] := hD
  refine lv_aload_n hx hb dX5_init_150 rfl (lv_at hl 0 rfl) ?_
  refine lv_sipush (v := 10240) hx hb dX5_init_151 (by decide) ?_
  refine am_new3L hx hb (ht 99 _ rfl) hK hP hD hS hA 10240 (by decide) (by decide) (by decide) (Nat.le_of_ble_eq_true rfl) (Nat.le_of_ble_eq_true rfl) dX5_init_154 (fun q154 H hP hD hS => ?_)
  have hP : va_P D vwCl [(h0, .inr (5, [.int 0, .ref q7, .ref q15, .ref q23, .ref q31, .ref q39, .ref q47, .ref q55, .ref q63, .ref q71, .ref q79, .ref q87, .ref q95, .ref q103, .int 0, .ref q111, .int (-1), .long 0, .ref q124, .int 0, .int 0, .int 0, .ref q132, .int 0, .int (-1), .int 0, .ref q145, .null, .null, .null, .null])), (q7, .inl (cI, 10, .inl (fun _ => 0))), (q15, .inl (cI, 10, .inl (fun _ => 0))), (q23, .inl (cI, 10, .inl (fun _ => 0))), (q31, .inl (cL, 10, .inr (.inl (fun _ => 0)))), (q39, .inl (cZ, 10, .inl (fun _ => 0))), (q47, .inl (cZ, 100, .inl (fun _ => 0))), (q55, .inl (cL, 36, .inr (.inl (fun _ => 0)))), (q63, .inl (cL, 36, .inr (.inl (fun _ => 0)))), (q71, .inl (cL, 12, .inr (.inl (fun _ => 0)))), (q79, .inl (cI, 12, .inl (fun _ => 0))), (q87, .inl (cI, 12, .inl (fun _ => 0))), (q95, .inl (cI, 16, .inl (fun _ => 0))), (q103, .inl (cL, 16, .inr (.inl (fun _ => 0)))), (q111, .inl (cI, 10, .inl (fun _ => 0))), (q124, .inl (cL, 12, .inr (.inl (fun _ => 0)))), (q132, .inl (cI, 10, .inl (fun _ => 0))), (q145, .inl (cI, 10, .inl (fun _ => 0))), (q154, .inl (cL, 10240, .inr (.inl (fun _ => 0))))] H := hP
  have hD : va_D A [(h0, .inr (5, [.int 0, .ref q7, .ref q15, .ref q23, .ref q31, .ref q39, .ref q47, .ref q55, .ref q63, .ref q71, .ref q79, .ref q87, .ref q95, .ref q103, .int 0, .ref q111, .int (-1), .long 0, .ref q124, .int 0, .int 0, .int 0, .ref q132, .int 0, .int (-1), .int 0, .ref q145, .null, .null, .null, .null])), (q7, .inl (cI, 10, .inl (fun _ => 0))), (q15, .inl (cI, 10, .inl (fun _ => 0))), (q23, .inl (cI, 10, .inl (fun _ => 0))), (q31, .inl (cL, 10, .inr (.inl (fun _ => 0)))), (q39, .inl (cZ, 10, .inl (fun _ => 0))), (q47, .inl (cZ, 100, .inl (fun _ => 0))), (q55, .inl (cL, 36, .inr (.inl (fun _ => 0)))), (q63, .inl (cL, 36, .inr (.inl (fun _ => 0)))), (q71, .inl (cL, 12, .inr (.inl (fun _ => 0)))), (q79, .inl (cI, 12, .inl (fun _ => 0))), (q87, .inl (cI, 12, .inl (fun _ => 0))), (q95, .inl (cI, 16, .inl (fun _ => 0))), (q103, .inl (cL, 16, .inr (.inl (fun _ => 0)))), (q111, .inl (cI, 10, .inl (fun _ => 0))), (q124, .inl (cL, 12, .inr (.inl (fun _ => 0)))), (q132, .inl (cI, 10, .inl (fun _ => 0))), (q145, .inl (cI, 10, .inl (fun _ => 0))), (q154, .inl (cL, 10240, .inr (.inl (fun _ => 0))))] := hD
  refine W.widen (k := 18) (n := 10572) (by omega) (by omega) ?_
  refine va_putF (D := D) (ci := 5) (v := .ref q154) (ty := .array .long) (C := RX5) (T := TX5) (N := 31) hx hb hts hin_X5 tyX5 tyX5_ok nmX5 hown hK hP hD hS 0 rfl rfl 27 (by decide) hf_70 (fun _ h9 => h9) rfl hin9 rfl (by decide +kernel) rfl rfl (Nat.le_of_ble_eq_true rfl) dX5_init_156 (fun H locs hP hD hS => ?_)
  have hP : va_P D vwCl [(h0, .inr (5, [.int 0, .ref q7, .ref q15, .ref q23, .ref q31, .ref q39, .ref q47, .ref q55, .ref q63, .ref q71, .ref q79, .ref q87, .ref q95, .ref q103, .int 0, .ref q111, .int (-1), .long 0, .ref q124, .int 0, .int 0, .int 0, .ref q132, .int 0, .int (-1), .int 0, .ref q145, .ref q154, .null, .null, .null])), (q7, .inl (cI, 10, .inl (fun _ => 0))), (q15, .inl (cI, 10, .inl (fun _ => 0))), (q23, .inl (cI, 10, .inl (fun _ => 0))), (q31, .inl (cL, 10, .inr (.inl (fun _ => 0)))), (q39, .inl (cZ, 10, .inl (fun _ => 0))), (q47, .inl (cZ, 100, .inl (fun _ => 0))), (q55, .inl (cL, 36, .inr (.inl (fun _ => 0)))), (q63, .inl (cL, 36, .inr (.inl (fun _ => 0)))), (q71, .inl (cL, 12, .inr (.inl (fun _ => 0)))), (q79, .inl (cI, 12, .inl (fun _ => 0))), (q87, .inl (cI, 12, .inl (fun _ => 0))), (q95, .inl (cI, 16, .inl (fun _ => 0))), (q103, .inl (cL, 16, .inr (.inl (fun _ => 0)))), (q111, .inl (cI, 10, .inl (fun _ => 0))), (q124, .inl (cL, 12, .inr (.inl (fun _ => 0)))), (q132, .inl (cI, 10, .inl (fun _ => 0))), (q145, .inl (cI, 10, .inl (fun _ => 0))), (q154, .inl (cL, 10240, .inr (.inl (fun _ => 0))))] H := hP
  have hD : va_D A [(h0, .inr (5, [.int 0, .ref q7, .ref q15, .ref q23, .ref q31, .ref q39, .ref q47, .ref q55, .ref q63, .ref q71, .ref q79, .ref q87, .ref q95, .ref q103, .int 0, .ref q111, .int (-1), .long 0, .ref q124, .int 0, .int 0, .int 0, .ref q132, .int 0, .int (-1), .int 0, .ref q145, .ref q154, .null, .null, .null])), (q7, .inl (cI, 10, .inl (fun _ => 0))), (q15, .inl (cI, 10, .inl (fun _ => 0))), (q23, .inl (cI, 10, .inl (fun _ => 0))), (q31, .inl (cL, 10, .inr (.inl (fun _ => 0)))), (q39, .inl (cZ, 10, .inl (fun _ => 0))), (q47, .inl (cZ, 100, .inl (fun _ => 0))), (q55, .inl (cL, 36, .inr (.inl (fun _ => 0)))), (q63, .inl (cL, 36, .inr (.inl (fun _ => 0)))), (q71, .inl (cL, 12, .inr (.inl (fun _ => 0)))), (q79, .inl (cI, 12, .inl (fun _ => 0))), (q87, .inl (cI, 12, .inl (fun _ => 0))), (q95, .inl (cI, 16, .inl (fun _ => 0))), (q103, .inl (cL, 16, .inr (.inl (fun _ => 0)))), (q111, .inl (cI, 10, .inl (fun _ => 0))), (q124, .inl (cL, 12, .inr (.inl (fun _ => 0)))), (q132, .inl (cI, 10, .inl (fun _ => 0))), (q145, .inl (cI, 10, .inl (fun _ => 0))), (q154, .inl (cL, 10240, .inr (.inl (fun _ => 0))))] := hD
  refine lv_aload_n hx hb dX5_init_159 rfl (lv_at hl 0 rfl) ?_
  refine lv_sipush (v := 1024) hx hb dX5_init_160 (by decide) ?_
  refine am_new3L hx hb (ht 99 _ rfl) hK hP hD hS hA 1024 (by decide) (by decide) (by decide) (Nat.le_of_ble_eq_true rfl) (Nat.le_of_ble_eq_true rfl) dX5_init_163 (fun q163 H hP hD hS => ?_)
  have hP : va_P D vwCl [(h0, .inr (5, [.int 0, .ref q7, .ref q15, .ref q23, .ref q31, .ref q39, .ref q47, .ref q55, .ref q63, .ref q71, .ref q79, .ref q87, .ref q95, .ref q103, .int 0, .ref q111, .int (-1), .long 0, .ref q124, .int 0, .int 0, .int 0, .ref q132, .int 0, .int (-1), .int 0, .ref q145, .ref q154, .null, .null, .null])), (q7, .inl (cI, 10, .inl (fun _ => 0))), (q15, .inl (cI, 10, .inl (fun _ => 0))), (q23, .inl (cI, 10, .inl (fun _ => 0))), (q31, .inl (cL, 10, .inr (.inl (fun _ => 0)))), (q39, .inl (cZ, 10, .inl (fun _ => 0))), (q47, .inl (cZ, 100, .inl (fun _ => 0))), (q55, .inl (cL, 36, .inr (.inl (fun _ => 0)))), (q63, .inl (cL, 36, .inr (.inl (fun _ => 0)))), (q71, .inl (cL, 12, .inr (.inl (fun _ => 0)))), (q79, .inl (cI, 12, .inl (fun _ => 0))), (q87, .inl (cI, 12, .inl (fun _ => 0))), (q95, .inl (cI, 16, .inl (fun _ => 0))), (q103, .inl (cL, 16, .inr (.inl (fun _ => 0)))), (q111, .inl (cI, 10, .inl (fun _ => 0))), (q124, .inl (cL, 12, .inr (.inl (fun _ => 0)))), (q132, .inl (cI, 10, .inl (fun _ => 0))), (q145, .inl (cI, 10, .inl (fun _ => 0))), (q154, .inl (cL, 10240, .inr (.inl (fun _ => 0)))), (q163, .inl (cL, 1024, .inr (.inl (fun _ => 0))))] H := hP
  have hD : va_D A [(h0, .inr (5, [.int 0, .ref q7, .ref q15, .ref q23, .ref q31, .ref q39, .ref q47, .ref q55, .ref q63, .ref q71, .ref q79, .ref q87, .ref q95, .ref q103, .int 0, .ref q111, .int (-1), .long 0, .ref q124, .int 0, .int 0, .int 0, .ref q132, .int 0, .int (-1), .int 0, .ref q145, .ref q154, .null, .null, .null])), (q7, .inl (cI, 10, .inl (fun _ => 0))), (q15, .inl (cI, 10, .inl (fun _ => 0))), (q23, .inl (cI, 10, .inl (fun _ => 0))), (q31, .inl (cL, 10, .inr (.inl (fun _ => 0)))), (q39, .inl (cZ, 10, .inl (fun _ => 0))), (q47, .inl (cZ, 100, .inl (fun _ => 0))), (q55, .inl (cL, 36, .inr (.inl (fun _ => 0)))), (q63, .inl (cL, 36, .inr (.inl (fun _ => 0)))), (q71, .inl (cL, 12, .inr (.inl (fun _ => 0)))), (q79, .inl (cI, 12, .inl (fun _ => 0))), (q87, .inl (cI, 12, .inl (fun _ => 0))), (q95, .inl (cI, 16, .inl (fun _ => 0))), (q103, .inl (cL, 16, .inr (.inl (fun _ => 0)))), (q111, .inl (cI, 10, .inl (fun _ => 0))), (q124, .inl (cL, 12, .inr (.inl (fun _ => 0)))), (q132, .inl (cI, 10, .inl (fun _ => 0))), (q145, .inl (cI, 10, .inl (fun _ => 0))), (q154, .inl (cL, 10240, .inr (.inl (fun _ => 0)))), (q163, .inl (cL, 1024, .inr (.inl (fun _ => 0))))] := hD
  refine W.widen (k := 19) (n := 11596) (by omega) (by omega) ?_
  refine va_putF (D := D) (ci := 5) (v := .ref q163) (ty := .array .long) (C := RX5) (T := TX5) (N := 31) hx hb hts hin_X5 tyX5 tyX5_ok nmX5 hown hK hP hD hS 0 rfl rfl 28 (by decide) hf_73 (fun _ h9 => h9) rfl hin9 rfl (by decide +kernel) rfl rfl (Nat.le_of_ble_eq_true rfl) dX5_init_165 (fun H locs hP hD hS => ?_)
  have hP : va_P D vwCl [(h0, .inr (5, [.int 0, .ref q7, .ref q15, .ref q23, .ref q31, .ref q39, .ref q47, .ref q55, .ref q63, .ref q71, .ref q79, .ref q87, .ref q95, .ref q103, .int 0, .ref q111, .int (-1), .long 0, .ref q124, .int 0, .int 0, .int 0, .ref q132, .int 0, .int (-1), .int 0, .ref q145, .ref q154, .ref q163, .null, .null])), (q7, .inl (cI, 10, .inl (fun _ => 0))), (q15, .inl (cI, 10, .inl (fun _ => 0))), (q23, .inl (cI, 10, .inl (fun _ => 0))), (q31, .inl (cL, 10, .inr (.inl (fun _ => 0)))), (q39, .inl (cZ, 10, .inl (fun _ => 0))), (q47, .inl (cZ, 100, .inl (fun _ => 0))), (q55, .inl (cL, 36, .inr (.inl (fun _ => 0)))), (q63, .inl (cL, 36, .inr (.inl (fun _ => 0)))), (q71, .inl (cL, 12, .inr (.inl (fun _ => 0)))), (q79, .inl (cI, 12, .inl (fun _ => 0))), (q87, .inl (cI, 12, .inl (fun _ => 0))), (q95, .inl (cI, 16, .inl (fun _ => 0))), (q103, .inl (cL, 16, .inr (.inl (fun _ => 0)))), (q111, .inl (cI, 10, .inl (fun _ => 0))), (q124, .inl (cL, 12, .inr (.inl (fun _ => 0)))), (q132, .inl (cI, 10, .inl (fun _ => 0))), (q145, .inl (cI, 10, .inl (fun _ => 0))), (q154, .inl (cL, 10240, .inr (.inl (fun _ => 0)))), (q163, .inl (cL, 1024, .inr (.inl (fun _ => 0))))] H := hP
  have hD : va_D A [(h0, .inr (5, [.int 0, .ref q7, .ref q15, .ref q23, .ref q31, .ref q39, .ref q47, .ref q55, .ref q63, .ref q71, .ref q79, .ref q87, .ref q95, .ref q103, .int 0, .ref q111, .int (-1), .long 0, .ref q124, .int 0, .int 0, .int 0, .ref q132, .int 0, .int (-1), .int 0, .ref q145, .ref q154, .ref q163, .null, .null])), (q7, .inl (cI, 10, .inl (fun _ => 0))), (q15, .inl (cI, 10, .inl (fun _ => 0))), (q23, .inl (cI, 10, .inl (fun _ => 0))), (q31, .inl (cL, 10, .inr (.inl (fun _ => 0)))), (q39, .inl (cZ, 10, .inl (fun _ => 0))), (q47, .inl (cZ, 100, .inl (fun _ => 0))), (q55, .inl (cL, 36, .inr (.inl (fun _ => 0)))), (q63, .inl (cL, 36, .inr (.inl (fun _ => 0)))), (q71, .inl (cL, 12, .inr (.inl (fun _ => 0)))), (q79, .inl (cI, 12, .inl (fun _ => 0))), (q87, .inl (cI, 12, .inl (fun _ => 0))), (q95, .inl (cI, 16, .inl (fun _ => 0))), (q103, .inl (cL, 16, .inr (.inl (fun _ => 0)))), (q111, .inl (cI, 10, .inl (fun _ => 0))), (q124, .inl (cL, 12, .inr (.inl (fun _ => 0)))), (q132, .inl (cI, 10, .inl (fun _ => 0))), (q145, .inl (cI, 10, .inl (fun _ => 0))), (q154, .inl (cL, 10240, .inr (.inl (fun _ => 0)))), (q163, .inl (cL, 1024, .inr (.inl (fun _ => 0))))] := hD
  refine lv_aload_n hx hb dX5_init_168 rfl (lv_at hl 0 rfl) ?_
  refine lv_bipush (v := 10) hx hb dX5_init_169 (by decide) ?_
  refine am_new3I hx hb (ht 98 _ rfl) hK hP hD hS hA 10 (by decide) (by decide) (by decide) (Nat.le_of_ble_eq_true rfl) (Nat.le_of_ble_eq_true rfl) dX5_init_171 (fun q171 H hP hD hS => ?_)
  have hP : va_P D vwCl [(h0, .inr (5, [.int 0, .ref q7, .ref q15, .ref q23, .ref q31, .ref q39, .ref q47, .ref q55, .ref q63, .ref q71, .ref q79, .ref q87, .ref q95, .ref q103, .int 0, .ref q111, .int (-1), .long 0, .ref q124, .int 0, .int 0, .int 0, .ref q132, .int 0, .int (-1), .int 0, .ref q145, .ref q154, .ref q163, .null, .null])), (q7, .inl (cI, 10, .inl (fun _ => 0))), (q15, .inl (cI, 10, .inl (fun _ => 0))), (q23, .inl (cI, 10, .inl (fun _ => 0))), (q31, .inl (cL, 10, .inr (.inl (fun _ => 0)))), (q39, .inl (cZ, 10, .inl (fun _ => 0))), (q47, .inl (cZ, 100, .inl (fun _ => 0))), (q55, .inl (cL, 36, .inr (.inl (fun _ => 0)))), (q63, .inl (cL, 36, .inr (.inl (fun _ => 0)))), (q71, .inl (cL, 12, .inr (.inl (fun _ => 0)))), (q79, .inl (cI, 12, .inl (fun _ => 0))), (q87, .inl (cI, 12, .inl (fun _ => 0))), (q95, .inl (cI, 16, .inl (fun _ => 0))), (q103, .inl (cL, 16, .inr (.inl (fun _ => 0)))), (q111, .inl (cI, 10, .inl (fun _ => 0))), (q124, .inl (cL, 12, .inr (.inl (fun _ => 0)))), (q132, .inl (cI, 10, .inl (fun _ => 0))), (q145, .inl (cI, 10, .inl (fun _ => 0))), (q154, .inl (cL, 10240, .inr (.inl (fun _ => 0)))), (q163, .inl (cL, 1024, .inr (.inl (fun _ => 0)))), (q171, .inl (cI, 10, .inl (fun _ => 0)))] H := hP
  have hD : va_D A [(h0, .inr (5, [.int 0, .ref q7, .ref q15, .ref q23, .ref q31, .ref q39, .ref q47, .ref q55, .ref q63, .ref q71, .ref q79, .ref q87, .ref q95, .ref q103, .int 0, .ref q111, .int (-1), .long 0, .ref q124, .int 0, .int 0, .int 0, .ref q132, .int 0, .int (-1), .int 0, .ref q145, .ref q154, .ref q163, .null, .null])), (q7, .inl (cI, 10, .inl (fun _ => 0))), (q15, .inl (cI, 10, .inl (fun _ => 0))), (q23, .inl (cI, 10, .inl (fun _ => 0))), (q31, .inl (cL, 10, .inr (.inl (fun _ => 0)))), (q39, .inl (cZ, 10, .inl (fun _ => 0))), (q47, .inl (cZ, 100, .inl (fun _ => 0))), (q55, .inl (cL, 36, .inr (.inl (fun _ => 0)))), (q63, .inl (cL, 36, .inr (.inl (fun _ => 0)))), (q71, .inl (cL, 12, .inr (.inl (fun _ => 0)))), (q79, .inl (cI, 12, .inl (fun _ => 0))), (q87, .inl (cI, 12, .inl (fun _ => 0))), (q95, .inl (cI, 16, .inl (fun _ => 0))), (q103, .inl (cL, 16, .inr (.inl (fun _ => 0)))), (q111, .inl (cI, 10, .inl (fun _ => 0))), (q124, .inl (cL, 12, .inr (.inl (fun _ => 0)))), (q132, .inl (cI, 10, .inl (fun _ => 0))), (q145, .inl (cI, 10, .inl (fun _ => 0))), (q154, .inl (cL, 10240, .inr (.inl (fun _ => 0)))), (q163, .inl (cL, 1024, .inr (.inl (fun _ => 0)))), (q171, .inl (cI, 10, .inl (fun _ => 0)))] := hD
  refine W.widen (k := 20) (n := 11606) (by omega) (by omega) ?_
  refine va_putF (D := D) (ci := 5) (v := .ref q171) (ty := .array .int) (C := RX5) (T := TX5) (N := 31) hx hb hts hin_X5 tyX5 tyX5_ok nmX5 hown hK hP hD hS 0 rfl rfl 29 (by decide) hf_76 (fun _ h9 => h9) rfl hin9 rfl (by decide +kernel) rfl rfl (Nat.le_of_ble_eq_true rfl) dX5_init_173 (fun H locs hP hD hS => ?_)
  have hP : va_P D vwCl [(h0, .inr (5, [.int 0, .ref q7, .ref q15, .ref q23, .ref q31, .ref q39, .ref q47, .ref q55, .ref q63, .ref q71, .ref q79, .ref q87, .ref q95, .ref q103, .int 0, .ref q111, .int (-1), .long 0, .ref q124, .int 0, .int 0, .int 0, .ref q132, .int 0, .int (-1), .int 0, .ref q145, .ref q154, .ref q163, .ref q171, .null])), (q7, .inl (cI, 10, .inl (fun _ => 0))), (q15, .inl (cI, 10, .inl (fun _ => 0))), (q23, .inl (cI, 10, .inl (fun _ => 0))), (q31, .inl (cL, 10, .inr (.inl (fun _ => 0)))), (q39, .inl (cZ, 10, .inl (fun _ => 0))), (q47, .inl (cZ, 100, .inl (fun _ => 0))), (q55, .inl (cL, 36, .inr (.inl (fun _ => 0)))), (q63, .inl (cL, 36, .inr (.inl (fun _ => 0)))), (q71, .inl (cL, 12, .inr (.inl (fun _ => 0)))), (q79, .inl (cI, 12, .inl (fun _ => 0))), (q87, .inl (cI, 12, .inl (fun _ => 0))), (q95, .inl (cI, 16, .inl (fun _ => 0))), (q103, .inl (cL, 16, .inr (.inl (fun _ => 0)))), (q111, .inl (cI, 10, .inl (fun _ => 0))), (q124, .inl (cL, 12, .inr (.inl (fun _ => 0)))), (q132, .inl (cI, 10, .inl (fun _ => 0))), (q145, .inl (cI, 10, .inl (fun _ => 0))), (q154, .inl (cL, 10240, .inr (.inl (fun _ => 0)))), (q163, .inl (cL, 1024, .inr (.inl (fun _ => 0)))), (q171, .inl (cI, 10, .inl (fun _ => 0)))] H := hP
  have hD : va_D A [(h0, .inr (5, [.int 0, .ref q7, .ref q15, .ref q23, .ref q31, .ref q39, .ref q47, .ref q55, .ref q63, .ref q71, .ref q79, .ref q87, .ref q95, .ref q103, .int 0, .ref q111, .int (-1), .long 0, .ref q124, .int 0, .int 0, .int 0, .ref q132, .int 0, .int (-1), .int 0, .ref q145, .ref q154, .ref q163, .ref q171, .null])), (q7, .inl (cI, 10, .inl (fun _ => 0))), (q15, .inl (cI, 10, .inl (fun _ => 0))), (q23, .inl (cI, 10, .inl (fun _ => 0))), (q31, .inl (cL, 10, .inr (.inl (fun _ => 0)))), (q39, .inl (cZ, 10, .inl (fun _ => 0))), (q47, .inl (cZ, 100, .inl (fun _ => 0))), (q55, .inl (cL, 36, .inr (.inl (fun _ => 0)))), (q63, .inl (cL, 36, .inr (.inl (fun _ => 0)))), (q71, .inl (cL, 12, .inr (.inl (fun _ => 0)))), (q79, .inl (cI, 12, .inl (fun _ => 0))), (q87, .inl (cI, 12, .inl (fun _ => 0))), (q95, .inl (cI, 16, .inl (fun _ => 0))), (q103, .inl (cL, 16, .inr (.inl (fun _ => 0)))), (q111, .inl (cI, 10, .inl (fun _ => 0))), (q124, .inl (cL, 12, .inr (.inl (fun _ => 0)))), (q132, .inl (cI, 10, .inl (fun _ => 0))), (q145, .inl (cI, 10, .inl (fun _ => 0))), (q154, .inl (cL, 10240, .inr (.inl (fun _ => 0)))), (q163, .inl (cL, 1024, .inr (.inl (fun _ => 0)))), (q171, .inl (cI, 10, .inl (fun _ => 0)))] := hD
  refine lv_aload_n hx hb dX5_init_176 rfl (lv_at hl 0 rfl) ?_
  refine lv_bipush (v := 100) hx hb dX5_init_177 (by decide) ?_
  refine am_new3Z hx hb (ht 492 _ rfl) hK hP hD hS hA 100 (by decide) (by decide) (by decide) (Nat.le_of_ble_eq_true rfl) (Nat.le_of_ble_eq_true rfl) dX5_init_179 (fun q179 H hP hD hS => ?_)
  have hP : va_P D vwCl [(h0, .inr (5, [.int 0, .ref q7, .ref q15, .ref q23, .ref q31, .ref q39, .ref q47, .ref q55, .ref q63, .ref q71, .ref q79, .ref q87, .ref q95, .ref q103, .int 0, .ref q111, .int (-1), .long 0, .ref q124, .int 0, .int 0, .int 0, .ref q132, .int 0, .int (-1), .int 0, .ref q145, .ref q154, .ref q163, .ref q171, .null])), (q7, .inl (cI, 10, .inl (fun _ => 0))), (q15, .inl (cI, 10, .inl (fun _ => 0))), (q23, .inl (cI, 10, .inl (fun _ => 0))), (q31, .inl (cL, 10, .inr (.inl (fun _ => 0)))), (q39, .inl (cZ, 10, .inl (fun _ => 0))), (q47, .inl (cZ, 100, .inl (fun _ => 0))), (q55, .inl (cL, 36, .inr (.inl (fun _ => 0)))), (q63, .inl (cL, 36, .inr (.inl (fun _ => 0)))), (q71, .inl (cL, 12, .inr (.inl (fun _ => 0)))), (q79, .inl (cI, 12, .inl (fun _ => 0))), (q87, .inl (cI, 12, .inl (fun _ => 0))), (q95, .inl (cI, 16, .inl (fun _ => 0))), (q103, .inl (cL, 16, .inr (.inl (fun _ => 0)))), (q111, .inl (cI, 10, .inl (fun _ => 0))), (q124, .inl (cL, 12, .inr (.inl (fun _ => 0)))), (q132, .inl (cI, 10, .inl (fun _ => 0))), (q145, .inl (cI, 10, .inl (fun _ => 0))), (q154, .inl (cL, 10240, .inr (.inl (fun _ => 0)))), (q163, .inl (cL, 1024, .inr (.inl (fun _ => 0)))), (q171, .inl (cI, 10, .inl (fun _ => 0))), (q179, .inl (cZ, 100, .inl (fun _ => 0)))] H := hP
  have hD : va_D A [(h0, .inr (5, [.int 0, .ref q7, .ref q15, .ref q23, .ref q31, .ref q39, .ref q47, .ref q55, .ref q63, .ref q71, .ref q79, .ref q87, .ref q95, .ref q103, .int 0, .ref q111, .int (-1), .long 0, .ref q124, .int 0, .int 0, .int 0, .ref q132, .int 0, .int (-1), .int 0, .ref q145, .ref q154, .ref q163, .ref q171, .null])), (q7, .inl (cI, 10, .inl (fun _ => 0))), (q15, .inl (cI, 10, .inl (fun _ => 0))), (q23, .inl (cI, 10, .inl (fun _ => 0))), (q31, .inl (cL, 10, .inr (.inl (fun _ => 0)))), (q39, .inl (cZ, 10, .inl (fun _ => 0))), (q47, .inl (cZ, 100, .inl (fun _ => 0))), (q55, .inl (cL, 36, .inr (.inl (fun _ => 0)))), (q63, .inl (cL, 36, .inr (.inl (fun _ => 0)))), (q71, .inl (cL, 12, .inr (.inl (fun _ => 0)))), (q79, .inl (cI, 12, .inl (fun _ => 0))), (q87, .inl (cI, 12, .inl (fun _ => 0))), (q95, .inl (cI, 16, .inl (fun _ => 0))), (q103, .inl (cL, 16, .inr (.inl (fun _ => 0)))), (q111, .inl (cI, 10, .inl (fun _ => 0))), (q124, .inl (cL, 12, .inr (.inl (fun _ => 0)))), (q132, .inl (cI, 10, .inl (fun _ => 0))), (q145, .inl (cI, 10, .inl (fun _ => 0))), (q154, .inl (cL, 10240, .inr (.inl (fun _ => 0)))), (q163, .inl (cL, 1024, .inr (.inl (fun _ => 0)))), (q171, .inl (cI, 10, .inl (fun _ => 0))), (q179, .inl (cZ, 100, .inl (fun _ => 0)))] := hD
  refine W.widen (k := 21) (n := 11706) (by omega) (by omega) ?_
  refine va_putF (D := D) (ci := 5) (v := .ref q179) (ty := .array .boolean) (C := RX5) (T := TX5) (N := 31) hx hb hts hin_X5 tyX5 tyX5_ok nmX5 hown hK hP hD hS 0 rfl rfl 30 (by decide) hf_79 (fun _ h9 => h9) rfl hin9 rfl (by decide +kernel) rfl rfl (Nat.le_of_ble_eq_true rfl) dX5_init_181 (fun H locs hP hD hS => ?_)
  have hP : va_P D vwCl [(h0, .inr (5, [.int 0, .ref q7, .ref q15, .ref q23, .ref q31, .ref q39, .ref q47, .ref q55, .ref q63, .ref q71, .ref q79, .ref q87, .ref q95, .ref q103, .int 0, .ref q111, .int (-1), .long 0, .ref q124, .int 0, .int 0, .int 0, .ref q132, .int 0, .int (-1), .int 0, .ref q145, .ref q154, .ref q163, .ref q171, .ref q179])), (q7, .inl (cI, 10, .inl (fun _ => 0))), (q15, .inl (cI, 10, .inl (fun _ => 0))), (q23, .inl (cI, 10, .inl (fun _ => 0))), (q31, .inl (cL, 10, .inr (.inl (fun _ => 0)))), (q39, .inl (cZ, 10, .inl (fun _ => 0))), (q47, .inl (cZ, 100, .inl (fun _ => 0))), (q55, .inl (cL, 36, .inr (.inl (fun _ => 0)))), (q63, .inl (cL, 36, .inr (.inl (fun _ => 0)))), (q71, .inl (cL, 12, .inr (.inl (fun _ => 0)))), (q79, .inl (cI, 12, .inl (fun _ => 0))), (q87, .inl (cI, 12, .inl (fun _ => 0))), (q95, .inl (cI, 16, .inl (fun _ => 0))), (q103, .inl (cL, 16, .inr (.inl (fun _ => 0)))), (q111, .inl (cI, 10, .inl (fun _ => 0))), (q124, .inl (cL, 12, .inr (.inl (fun _ => 0)))), (q132, .inl (cI, 10, .inl (fun _ => 0))), (q145, .inl (cI, 10, .inl (fun _ => 0))), (q154, .inl (cL, 10240, .inr (.inl (fun _ => 0)))), (q163, .inl (cL, 1024, .inr (.inl (fun _ => 0)))), (q171, .inl (cI, 10, .inl (fun _ => 0))), (q179, .inl (cZ, 100, .inl (fun _ => 0)))] H := hP
  have hD : va_D A [(h0, .inr (5, [.int 0, .ref q7, .ref q15, .ref q23, .ref q31, .ref q39, .ref q47, .ref q55, .ref q63, .ref q71, .ref q79, .ref q87, .ref q95, .ref q103, .int 0, .ref q111, .int (-1), .long 0, .ref q124, .int 0, .int 0, .int 0, .ref q132, .int 0, .int (-1), .int 0, .ref q145, .ref q154, .ref q163, .ref q171, .ref q179])), (q7, .inl (cI, 10, .inl (fun _ => 0))), (q15, .inl (cI, 10, .inl (fun _ => 0))), (q23, .inl (cI, 10, .inl (fun _ => 0))), (q31, .inl (cL, 10, .inr (.inl (fun _ => 0)))), (q39, .inl (cZ, 10, .inl (fun _ => 0))), (q47, .inl (cZ, 100, .inl (fun _ => 0))), (q55, .inl (cL, 36, .inr (.inl (fun _ => 0)))), (q63, .inl (cL, 36, .inr (.inl (fun _ => 0)))), (q71, .inl (cL, 12, .inr (.inl (fun _ => 0)))), (q79, .inl (cI, 12, .inl (fun _ => 0))), (q87, .inl (cI, 12, .inl (fun _ => 0))), (q95, .inl (cI, 16, .inl (fun _ => 0))), (q103, .inl (cL, 16, .inr (.inl (fun _ => 0)))), (q111, .inl (cI, 10, .inl (fun _ => 0))), (q124, .inl (cL, 12, .inr (.inl (fun _ => 0)))), (q132, .inl (cI, 10, .inl (fun _ => 0))), (q145, .inl (cI, 10, .inl (fun _ => 0))), (q154, .inl (cL, 10240, .inr (.inl (fun _ => 0)))), (q163, .inl (cL, 1024, .inr (.inl (fun _ => 0)))), (q171, .inl (cI, 10, .inl (fun _ => 0))), (q179, .inl (cZ, 100, .inl (fun _ => 0)))] := hD
  obtain ⟨u9, hu9⟩ : ∃ u : Nat → Nat, u = (fun k => if k = 0 then h0 else if k = 1 then q7 else if k = 2 then q15 else if k = 3 then q23 else if k = 4 then q31 else if k = 5 then q39 else if k = 6 then q47 else if k = 7 then q55 else if k = 8 then q63 else if k = 9 then q71 else if k = 10 then q79 else if k = 11 then q87 else if k = 12 then q95 else if k = 13 then q103 else if k = 14 then q111 else if k = 15 then q124 else if k = 16 then q132 else if k = 17 then q145 else if k = 18 then q154 else if k = 19 then q163 else if k = 20 then q171 else if k = 21 then q179 else 0) := ⟨_, rfl⟩
  have hP := hP.sub (ws' := (rm_w u9 cI cL cZ rc_fi0 (fun _ => 0) (rc_ai0 0) (fun _ _ => 0))) [0, 1, 2, 3, 4, 5, 6, 7, 8, 9, 10, 11, 12, 13, 14, 15, 16, 17, 18, 19, 20, 21] (by rw [hu9]; rfl)
  have hD := hD.sub (ws' := (rm_w u9 cI cL cZ rc_fi0 (fun _ => 0) (rc_ai0 0) (fun _ _ => 0))) [0, 1, 2, 3, 4, 5, 6, 7, 8, 9, 10, 11, 12, 13, 14, 15, 16, 17, 18, 19, 20, 21] (by decide) (by rw [hu9]; rfl)
  have hu0 : u9 0 = h0 := by rw [hu9]; rfl
  have hl : lv_has ls 2 [(0, .ref (u9 0))] := by rw [hu0]; exact hl
  refine lv_iconst (v := 0) hx hb dX5_init_184 (by decide) ?_
  refine lv_istore_n (lv' := [(1, .int 0), (0, .ref (u9 0))]) hx hb dX5_init_185 rfl hl (by decide) rfl (fun ls hl => ?_)
  refine am_loop (σ := Nat) (fun q n9 H locs ls => n9 = 12 - q ∧ q ≤ 12 ∧ va_P D vwCl (rm_w u9 cI cL cZ rc_fi0 (fun _ => 0) (rc_ai0 q) (fun _ _ => 0)) H ∧ va_S A s.heap H locs ∧ lv_has ls 2 [(0, .ref (u9 0)), (1, .int (nI q))]) ?_ 0 (12 - 0) H locs ls ⟨rfl, (by omega), hP, hS, lv_sub hl [1, 0] rfl⟩
  rintro k n9 H locs ls ⟨hn9, hk, hP, hS, hl⟩ ih
  have hD : va_D A (rm_w u9 cI cL cZ rc_fi0 (fun _ => 0) (rc_ai0 k) (fun _ _ => 0)) := am_D hD rfl
  refine lv_iload_n hx hb dX5_init_186 rfl (lv_at hl 1 rfl) ?_
  refine lv_bipush (v := 12) hx hb dX5_init_187 (by decide) ?_
  refine lv_icmp_ge (tgt := 212) hx hb dX5_init_189 (by decide) (fun c_9 => ?_) (fun c_9 => ?_)
  · have hke : 12 ≤ k := (am_ge (rfl : (12 : Int32) = nI 12) (by decide) (by omega)).mp c_9
    have hkq : k = 12 := by omega
    subst hkq
    exact W.vret hx hb hr (fun t ht _ => ⟨⟨u9, rfl, hu0, by rw [ht]; exact hP, hD⟩, hS.F ht⟩) hS.2.2 dX5_init_212
  · have hkl : k < 12 := Nat.lt_of_not_le (fun z => c_9 ((am_ge (rfl : (12 : Int32) = nI 12) (by decide) (by omega)).mpr z))
    refine lv_aload_n hx hb dX5_init_192 rfl (lv_at hl 0 rfl) ?_
    refine va_get (D := D) (ci := 5) (v := .ref (u9 10)) (C := RX5) (T := TX5) (N := 31) hx hb hts hin_X5 hown hK hP 0 rfl rfl 10 (by decide) hf_39 (fun _ h9 => h9) rfl dX5_init_193 ?_
    refine lv_iload_n hx hb dX5_init_196 rfl (lv_at hl 1 rfl) ?_
    refine lv_iconst (v := 1) hx hb dX5_init_197 (by decide) ?_
    refine am_iast hx hb hK hP hD hS 10 0 rfl rfl k rfl (by omega) (by decide) (rm_w u9 cI cL cZ rc_fi0 (fun _ => 0) (va_up (va_up (fun _ _ => 0) 10 (ac_fillI 1 (fun _ => 0) (k + 1))) 11 (ac_fillI 1 (fun _ => 0) k)) (fun _ _ => 0)) rfl dX5_init_198 (fun H locs hP hD hS => ?_)
    refine lv_aload_n hx hb dX5_init_199 rfl (lv_at hl 0 rfl) ?_
    refine va_get (D := D) (ci := 5) (v := .ref (u9 11)) (C := RX5) (T := TX5) (N := 31) hx hb hts hin_X5 hown hK hP 0 rfl rfl 11 (by decide) hf_42 (fun _ h9 => h9) rfl dX5_init_200 ?_
    refine lv_iload_n hx hb dX5_init_203 rfl (lv_at hl 1 rfl) ?_
    refine lv_iconst (v := 1) hx hb dX5_init_204 (by decide) ?_
    refine am_iast hx hb hK hP hD hS 11 0 rfl rfl k rfl (by omega) (by decide) (rm_w u9 cI cL cZ rc_fi0 (fun _ => 0) (va_up (va_up (fun _ _ => 0) 10 (ac_fillI 1 (fun _ => 0) (k + 1))) 11 (ac_fillI 1 (fun _ => 0) (k + 1))) (fun _ _ => 0)) rfl dX5_init_205 (fun H locs hP hD hS => ?_)
    refine lv_iinc (v := nI (k + 1)) (lv' := [(1, .int (nI (k + 1))), (0, .ref (u9 0))]) hx hb dX5_init_206 hl (k := 1) rfl (nI_1 k) (by decide) rfl (fun ls hl => ?_)
    refine lv_goto (tgt := 186) hx hb dX5_init_209 (by decide) ?_
    exact ih (k + 1) (12 - (k + 1)) H locs ls (by omega) ⟨rfl, by omega, hP, hS, lv_sub hl [1, 0] rfl⟩
