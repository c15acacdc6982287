-- ===== stations: the reference's odometer =====
def rc_ti (inr : Int32 → Int32) (f : Nat → Int32) : Nat → Nat → Int32
  | 0 => f
  | a + 1 => upd (rc_ti inr f a) a (if inr (nI a) = 0 then -1 else 0)
def rc_bi (nds : Nat → Int32) (na a : Nat) (f : Nat → Int32) : Nat → Nat → Int32
  | 0 => f
  | b + 1 => upd (rc_bi nds na a f b) (10 * a + b) (rc_leads nds na a (nI b))
def rc_bo (nds : Nat → Int32) (na : Nat) (f : Nat → Int32) : Nat → Nat → Int32
  | 0 => f
  | a + 1 => rc_bi nds na a (rc_bo nds na f a) na
def rc_cp (tr pl : Nat → Int32) : Nat → Nat → Int32
  | 0 => pl
  | k + 1 => upd (rc_cp tr pl k) k (tr k)
def rc_lg (bh tr : Nat → Int32) (co : Nat → Int64) (na : Nat) : Int64 := if rc_ka tr bh na na = 0 then -1 else rc_lo tr co na 4
abbrev rc_tk (lg best : Int64) : Prop := ¬ lg < 0 ∧ (best < 0 ∨ ¬ best ≤ lg)
def rc_try (bh : Nat → Int32) (co : Nat → Int64) (na : Nat) (st : Int32) : Nat → Int64 → (Nat → Int32) → (Nat → Int32) → Int64 × (Nat → Int32) × (Nat → Int32)
  | 0, best, tr, pl => (best, tr, pl)
  | n + 1, best, tr, pl =>
    if (rc_next st na tr).2 = 0 then (if rc_tk (rc_lg bh tr co na) best then rc_lg bh tr co na else best, (rc_next st na tr).1, if rc_tk (rc_lg bh tr co na) best then rc_cp tr pl 10 else pl)
    else rc_try bh co na st n (if rc_tk (rc_lg bh tr co na) best then rc_lg bh tr co na else best) (rc_next st na tr).1 (if rc_tk (rc_lg bh tr co na) best then rc_cp tr pl 10 else pl)
theorem rc_try_S {bh : Nat → Int32} {co : Nat → Int64} {na : Nat} {st : Int32} {n : Nat} {best b2 : Int64} {tr pl p2 : Nat → Int32} (h1 : (if rc_tk (rc_lg bh tr co na) best then rc_lg bh tr co na else best) = b2) (h2 : (if rc_tk (rc_lg bh tr co na) best then rc_cp tr pl 10 else pl) = p2) :
    rc_try bh co na st (n + 1) best tr pl = if (rc_next st na tr).2 = 0 then (b2, (rc_next st na tr).1, p2) else rc_try bh co na st n b2 (rc_next st na tr).1 p2 := by
  rw [rc_try, h1, h2]
/-- the odometer's number -/
def rc_rk (tr : Nat → Int32) : Nat → Nat
  | 0 => 0
  | a + 1 => 4 * rc_rk tr a + (tr a).toNatClampNeg
abbrev rc_dg (st : Nat) (tr : Nat → Int32) : Prop := ∀ a, a < 10 → tr a = -1 ∨ ∃ d, d < st ∧ tr a = nI d
theorem rc_rk_congr {f g : Nat → Int32} : ∀ n, (∀ a, a < n → f a = g a) → rc_rk f n = rc_rk g n
  | 0, _ => rfl
  | n + 1, h => by rw [rc_rk, rc_rk, h n (by omega), rc_rk_congr n (fun a ha => h a (by omega))]
theorem rc_dg_cl {st : Nat} {tr : Nat → Int32} (h4 : st ≤ 4) (h : rc_dg st tr) {a : Nat} (ha : a < 10) : (tr a).toNatClampNeg ≤ 3 := by
  rcases h a ha with e | ⟨d, hd, e⟩
  · rw [e]; decide +kernel
  · rw [e, nI_clamp (by omega)]; omega
theorem rc_rk_lt {st : Nat} {tr : Nat → Int32} (h4 : st ≤ 4) (h : rc_dg st tr) : ∀ n, n ≤ 10 → rc_rk tr n < 4 ^ n
  | 0, _ => Nat.zero_lt_one
  | n + 1, hn => by
    have h1 := rc_rk_lt h4 h n (by omega)
    have h2 := rc_dg_cl h4 h (show n < 10 by omega)
    rw [rc_rk, Nat.pow_succ]
    omega
theorem rc_dg_upd {st : Nat} {tr : Nat → Int32} (h : rc_dg st tr) {a : Nat} {v : Int32} (hv : v = -1 ∨ ∃ d, d < st ∧ v = nI d) : rc_dg st (upd tr a v) := by
  intro b hb
  by_cases e : b = a
  · rw [show upd tr a v b = v by rw [e]; exact if_pos rfl]; exact hv
  · rw [show upd tr a v b = tr b from if_neg e]; exact h b hb
theorem rc_next_ok {st : Nat} (h1 : 1 ≤ st) (h4 : st ≤ 4) : ∀ j, j ≤ 10 → ∀ f : Nat → Int32, rc_dg st f →
    rc_dg st (rc_next (nI st) j f).1 ∧ (∀ b, j ≤ b → (rc_next (nI st) j f).1 b = f b) ∧ ((rc_next (nI st) j f).2 = 0 ∨ rc_rk f j + 1 ≤ rc_rk (rc_next (nI st) j f).1 j)
  | 0, _, f, h => ⟨h, fun _ _ => rfl, Or.inl rfl⟩
  | a + 1, hj, f, h => by
    have hcl := rc_dg_cl h4 h (show a < 10 by omega)
    have rc9 : ∀ v : Int32, (v = -1 ∨ ∃ d, d < st ∧ v = nI d) →
        rc_dg st (rc_next (nI st) a (upd f a v)).1 ∧ (∀ b, a + 1 ≤ b → (rc_next (nI st) a (upd f a v)).1 b = f b) ∧ ((rc_next (nI st) a (upd f a v)).2 = 0 ∨ rc_rk f (a + 1) + 1 ≤ rc_rk (rc_next (nI st) a (upd f a v)).1 (a + 1)) := by
      intro v hv
      obtain ⟨i1, i2, i3⟩ := rc_next_ok h1 h4 a (by omega) (upd f a v) (rc_dg_upd h hv)
      refine ⟨i1, fun b hb => (i2 b (by omega)).trans (if_neg (by omega)), ?_⟩
      rcases i3 with i3 | i3
      · exact Or.inl i3
      · right
        rw [rc_rk_congr a (fun b hb => show upd f a v b = f b from if_neg (by omega))] at i3
        rw [rc_rk, rc_rk]
        omega
    rw [rc_next]
    by_cases c1 : f a < 0
    · rw [if_pos c1]; exact rc9 _ (Or.inl rfl)
    · rw [if_neg c1]
      rcases h a (by omega) with e | ⟨d, hd, e⟩
      · exact absurd (by rw [e]; decide +kernel) c1
      · by_cases c2 : nI st - 1 ≤ f a
        · rw [if_pos c2]; exact rc9 _ (Or.inr ⟨0, by omega, rfl⟩)
        · rw [if_neg c2]
          have hd1 : d + 1 < st := by
            rcases Nat.lt_or_ge (d + 1) st with z | z
            · exact z
            · refine absurd ?_ c2
              rw [e, show st = (st - 1) + 1 by omega, nI_pred, nI_leI (by omega) (by omega)]
              omega
          refine ⟨rc_dg_upd h (Or.inr ⟨d + 1, hd1, by rw [e]; exact nI_1 d⟩), fun b hb => if_neg (by omega), Or.inr ?_⟩
          show rc_rk f (a + 1) + 1 ≤ rc_rk (upd f a (f a + 1)) (a + 1)
          rw [rc_rk, rc_rk, rc_rk_congr a (fun b hb => show upd f a (f a + 1) b = f b from if_neg (by omega)), show upd f a (f a + 1) a = nI (d + 1) by rw [show upd f a (f a + 1) a = f a + 1 from if_pos rfl, e]; exact nI_1 d, e, nI_clamp (by omega), nI_clamp (by omega)]
          omega
theorem rc_ti_dg (inr : Int32 → Int32) (f : Nat → Int32) {st : Nat} (h1 : 1 ≤ st) : ∀ n, ∀ a, a < n → rc_ti inr f n a = -1 ∨ ∃ d, d < st ∧ rc_ti inr f n a = nI d
  | 0, a, h => by omega
  | n + 1, a, h => by
    rw [rc_ti]
    by_cases e : a = n
    · subst e
      rw [show upd (rc_ti inr f a) a (if inr (nI a) = 0 then -1 else 0) a = (if inr (nI a) = 0 then -1 else 0) from if_pos rfl]
      split
      · exact Or.inl rfl
      · exact Or.inr ⟨0, by omega, rfl⟩
    · rw [show upd (rc_ti inr f n) n (if inr (nI n) = 0 then -1 else 0) a = rc_ti inr f n a from if_neg e]
      exact rc_ti_dg inr f h1 n a (by omega)
theorem am_st1 {x : Int32} (h1 : ¬ x < 1) (em : x = nI x.toNatClampNeg) (h4 : x.toNatClampNeg ≤ 4) : 1 ≤ x.toNatClampNeg := by
  rcases Nat.eq_zero_or_pos x.toNatClampNeg with z | z
  · rw [z] at em
    exact absurd (by rw [em]; decide +kernel) h1
  · exact z
theorem am_zn {x : Int32} (h : x = 0 ∨ x = 1) : vp_nar .boolean x = x := by
  rcases h with rfl | rfl
  · decide +kernel
  · decide +kernel
abbrev rc_stOk (len x : Int32) : Prop := ¬ len < 0 ∧ ¬ x < 1 ∧ x ≤ 4
def rc_sT (ai : Nat → Nat → Int32) (len : Int32) : Nat → Int32 := rc_ti (fun q => rc_inrow (ai 14) q (rc_len len)) (ai 20) 10
def rc_sB (ai : Nat → Nat → Int32) (na : Nat) : Nat → Int32 := rc_bo (ai 6) na (ai 21) na
def rc_sR (ai : Nat → Nat → Int32) (co : Nat → Int64) (len : Int32) (na st F : Nat) : Int64 × (Nat → Int32) × (Nat → Int32) := rc_try (rc_sB ai na) co na (nI st) F (-1) (rc_sT ai len) (ai 16)
set_option maxHeartbeats 4000000 in
set_option maxRecDepth 100000 in
theorem c_X5_stations (l : Launch) (D : va_G) (ad : Nat → Nat) (cI cL cZ : ClassId) (fi : Nat → Int32) (fl : Nat → Int64) (ai : Nat → Nat → Int32) (al : Nat → Nat → Int64) (A : Nat → Prop) (x : Int32) (ln : Nat) (F9 : Nat) (na : Nat) (hna : fi 0 = nI na) (hnl : na ≤ 10) (hlen : fi 2 = nI ln ∨ fi 2 = -1) (hln : ln ≤ 10) (hF9 : 1048576 ≤ F9) : Met l yX5_stations wsX5_stations (am_rm 1 27) (va_Pc [.ref (ad 0), .int x] (am_M nwL vwCl D A (rm_w ad cI cL cZ fi fl ai al) [(cI, .int), (cL, .long), (cZ, .boolean)])) (am_Mi vwCl D (if rc_stOk (fi 2) x then (rc_sR ai (al 4) (fi 2) na (x.toNatClampNeg) F9).1.toInt32 else (-1)) (rm_w ad cI cL cZ (upd fi 6 (if rc_stOk (fi 2) x then 1 else (fi 6))) fl (va_up (va_up (va_up ai 16 (if rc_stOk (fi 2) x then (rc_sR ai (al 4) (fi 2) na (x.toNatClampNeg) F9).2.2 else (ai 16))) 20 (if rc_stOk (fi 2) x then (rc_sR ai (al 4) (fi 2) na (x.toNatClampNeg) F9).2.1 else (ai 20))) 21 (if rc_stOk (fi 2) x then rc_sB ai na else (ai 21))) al) A) 0 0 A := by
  refine am_startM (cc := cX5_stations) (maxL := 8) (ret := (some .int)) (by decide) rfl (Nat.le_of_ble_eq_true rfl) [(0, .ref (ad 0)), (1, .int x)] rfl ?_
  intro p e s m below meth c ls hx hb hr hml hown hts hlocks hK hN hD H locs hP hS hl
  have hown : s.vm.findClass RX5 = some m.cls := hown
  have ht := am_ht hts
  have hin_X5 : ∀ w ∈ u_ws RX5 TX5 31, w ∈ wsX5_stations := fun w h => List.mem_cons_of_mem _ (am_inX5 w h)
  have hf_196 := ht 453 (.fieldLink RX5 196 "ApartCostModel" "isShared" "Z") rfl
  have hf_54 := ht 446 (.fieldLink RX5 54 "ApartCostModel" "length" "I") rfl
  have hf_61 := ht 452 (.fieldLink RX5 61 "ApartCostModel" "places" "[I") rfl
  have hf_76 := ht 459 (.fieldLink RX5 76 "ApartCostModel" "tried" "[I") rfl
  have hf_79 := ht 460 (.fieldLink RX5 79 "ApartCostModel" "behind" "[Z") rfl
  have hf_86 := ht 430 (.fieldLink RX5 86 "ApartCostModel" "count" "I") rfl
  refine lv_aload_n hx hb dX5_stations_0 rfl (lv_at hl 0 rfl) ?_
  refine va_get (D := D) (ci := 5) (v := .int (fi 2)) (C := RX5) (T := TX5) (N := 31) hx hb hts hin_X5 hown hK hP 0 rfl rfl 16 (by decide) hf_54 (fun _ h9 => h9) rfl dX5_stations_1 ?_
  refine lv_if_lt (tgt := 17) hx hb dX5_stations_4 (by decide) (fun c_4 => ?_) (fun c_4 => ?_)
  · skip
    have c_4 : (fi 2) < 0 := c_4
    refine lv_iconst (v := (-1)) hx hb dX5_stations_17 (by decide) ?_
    have hok : ¬ (rc_stOk (fi 2) x) := by first | rfl | (simp only [rc_stOk, c_4, if_true, if_false, eq_self, not_true_eq_false, not_false_eq_true, ite_true, ite_false, ↓reduceIte]; done) | (simp [rc_stOk, c_4]; done)
    exact am_iretM hx hb hr hlocks (by simp only [if_neg hok]; exact hP) hS (by rw [if_neg hok]; first | done | rfl) dX5_stations_18
  · skip
    have c_4 : ¬ ((fi 2) < 0) := c_4
    refine lv_iload_n hx hb dX5_stations_7 rfl (lv_at hl 1 rfl) ?_
    refine lv_iconst (v := 1) hx hb dX5_stations_8 (by decide) ?_
    refine lv_icmp_lt (tgt := 17) hx hb dX5_stations_9 (by decide) (fun c_9 => ?_) (fun c_9 => ?_)
    · skip
      have c_9 : x < 1 := c_9
      refine lv_iconst (v := (-1)) hx hb dX5_stations_17 (by decide) ?_
      have hok : ¬ (rc_stOk (fi 2) x) := by first | rfl | (simp only [rc_stOk, c_4, c_9, if_true, if_false, eq_self, not_true_eq_false, not_false_eq_true, ite_true, ite_false, ↓reduceIte]; done) | (simp [rc_stOk, c_4, c_9]; done)
      exact am_iretM hx hb hr hlocks (by simp only [if_neg hok]; exact hP) hS (by rw [if_neg hok]; first | done | rfl) dX5_stations_18
    · skip
      have c_9 : ¬ (x < 1) := c_9
      refine lv_iload_n hx hb dX5_stations_12 rfl (lv_at hl 1 rfl) ?_
      refine lv_iconst (v := 4) hx hb dX5_stations_13 (by decide) ?_
      refine lv_icmp_le (tgt := 19) hx hb dX5_stations_14 (by decide) (fun c_14 => ?_) (fun c_14 => ?_)
      · skip
        have c_14 : x ≤ 4 := c_14
        obtain ⟨em, e4⟩ := am_st4 c_9 c_14
        have e1 := am_st1 c_9 em e4
        refine lv_iconst (v := 0) hx hb dX5_stations_19 (by decide) ?_
        refine lv_istore_n (lv' := [(2, .int 0), (0, .ref (ad 0)), (1, .int x)]) hx hb dX5_stations_20 rfl hl (by decide) rfl (fun ls hl => ?_)
        refine am_loop (σ := Nat) (fun q n9 H locs ls => n9 = 10 - q ∧ q ≤ 10 ∧ va_P D vwCl (rm_w ad cI cL cZ fi fl (va_up ai 20 (rc_ti (fun q => rc_inrow (ai 14) q (rc_len (fi 2))) (ai 20) q)) al) H ∧ va_S A s.heap H locs ∧ lv_has ls 8 [(0, .ref (ad 0)), (1, .int x), (2, .int (nI q))]) ?_ 0 (10 - 0) H locs ls ⟨rfl, (by omega), hP, hS, lv_sub hl [1, 2, 0] rfl⟩
        rintro a n9 H locs ls ⟨hn_21, hka, hP, hS, hl⟩ ih_21
        have hD : va_D A (rm_w ad cI cL cZ fi fl (va_up ai 20 (rc_ti (fun q => rc_inrow (ai 14) q (rc_len (fi 2))) (ai 20) a)) al) := am_D hD rfl
        refine lv_iload_n hx hb dX5_stations_21 rfl (lv_at hl 2 rfl) ?_
        refine lv_bipush (v := 10) hx hb dX5_stations_22 (by decide) ?_
        refine lv_icmp_ge (tgt := 52) hx hb dX5_stations_24 (by decide) (fun c_24 => ?_) (fun c_24 => ?_)
        · skip
          have c_24 : 10 ≤ (nI a) := c_24
          have hke_24 : 10 ≤ a := (am_ge (rfl : (10 : Int32) = nI 10) (by decide) (by omega)).mp c_24
          have hkq_24 : a = 10 := by omega
          subst hkq_24
          refine lv_iconst (v := 0) hx hb dX5_stations_52 (by decide) ?_
          refine lv_istore_n (lv' := [(2, .int 0), (0, .ref (ad 0)), (1, .int x)]) hx hb dX5_stations_53 rfl hl (by decide) rfl (fun ls hl => ?_)
          refine am_loop (σ := Nat) (fun q n9 H locs ls => n9 = na - q ∧ q ≤ na ∧ va_P D vwCl (rm_w ad cI cL cZ fi fl (va_up (va_up ai 20 (rc_ti (fun q => rc_inrow (ai 14) q (rc_len (fi 2))) (ai 20) 10)) 21 (rc_bo (ai 6) na (ai 21) q)) al) H ∧ va_S A s.heap H locs ∧ lv_has ls 8 [(0, .ref (ad 0)), (1, .int x), (2, .int (nI q))]) ?_ 0 (na - 0) H locs ls ⟨rfl, (by omega), hP, hS, lv_sub hl [1, 2, 0] rfl⟩
          rintro a n9 H locs ls ⟨hn_54, hka, hP, hS, hl⟩ ih_54
          have hD : va_D A (rm_w ad cI cL cZ fi fl (va_up (va_up ai 20 (rc_ti (fun q => rc_inrow (ai 14) q (rc_len (fi 2))) (ai 20) 10)) 21 (rc_bo (ai 6) na (ai 21) a)) al) := am_D hD rfl
          refine lv_iload_n hx hb dX5_stations_54 rfl (lv_at hl 2 rfl) ?_
          refine lv_aload_n hx hb dX5_stations_55 rfl (lv_at hl 0 rfl) ?_
          refine va_get (D := D) (ci := 5) (v := .int (fi 0)) (C := RX5) (T := TX5) (N := 31) hx hb hts hin_X5 hown hK hP 0 rfl rfl 0 (by decide) hf_86 (fun _ h9 => h9) rfl dX5_stations_56 ?_
          refine lv_icmp_ge (tgt := 101) hx hb dX5_stations_59 (by decide) (fun c_59 => ?_) (fun c_59 => ?_)
          · skip
            have c_59 : (fi 0) ≤ (nI a) := c_59
            have hke_59 : na ≤ a := (am_ge hna (by omega) (by omega)).mp c_59
            have hkq_59 : na = a := by omega
            subst hkq_59
            have eT : rc_ti (fun q => rc_inrow (ai 14) q (rc_len (fi 2))) (ai 20) 10 = rc_sT ai (fi 2) := rfl
            have eB : rc_bo (ai 6) na (ai 21) na = rc_sB ai na := rfl
            rw [eT, eB] at hP
            have hP : va_P D vwCl (rm_w ad cI cL cZ fi fl (va_up (va_up ai 20 (rc_sT ai (fi 2))) 21 (rc_sB ai na)) al) H := hP
            have hD : va_D A (rm_w ad cI cL cZ fi fl (va_up (va_up ai 20 (rc_sT ai (fi 2))) 21 (rc_sB ai na)) al) := rm_D hD
            refine lv_ldc2 (v := (-1 : Int64)) hx hb hown (ht 626 _ rfl) dX5_stations_101 ?_
            refine lv_lstore_n (lv' := [(2, .long (-1 : Int64)), (0, .ref (ad 0)), (1, .int x)]) hx hb dX5_stations_104 rfl hl (by decide) rfl (fun ls hl => ?_)
            refine lv_iconst (v := 1) hx hb dX5_stations_105 (by decide) ?_
            refine lv_istore (lv' := [(4, .int 1), (2, .long (-1 : Int64)), (0, .ref (ad 0)), (1, .int x)]) hx hb dX5_stations_106 hl (by decide) rfl (fun ls hl => ?_)
            refine am_loop (σ := (Nat) × (Int64) × (Nat → Int32) × (Nat → Int32) × (Int32)) (fun q n9 H locs ls => n9 = (if q.2.2.2.2 = 0 then 0 else q.1) ∧ rc_dg x.toNatClampNeg q.2.2.1 ∧ (¬ q.2.2.2.2 = 0 → 1048576 ≤ q.1 + rc_rk q.2.2.1 na) ∧ (rc_sR ai (al 4) (fi 2) na (x.toNatClampNeg) F9) = (if q.2.2.2.2 = 0 then (q.2.1, q.2.2.1, q.2.2.2.1) else rc_try (rc_sB ai na) (al 4) na (nI x.toNatClampNeg) q.1 q.2.1 q.2.2.1 q.2.2.2.1) ∧ va_P D vwCl (rm_w ad cI cL cZ fi fl (va_up (va_up (va_up ai 16 q.2.2.2.1) 20 q.2.2.1) 21 (rc_sB ai na)) al) H ∧ va_S A s.heap H locs ∧ lv_has ls 8 [(0, .ref (ad 0)), (1, .int x), (2, .long q.2.1), (4, .int q.2.2.2.2)]) ?_ (F9, (-1), (rc_sT ai (fi 2)), (ai 16), 1) ((if 1 = 0 then 0 else F9)) H locs ls ⟨rfl, (fun a ha => rc_ti_dg _ _ e1 10 a ha), (fun _ => by (try dsimp only); omega), rfl, hP, hS, lv_sub hl [2, 3, 1, 0] rfl⟩
            rintro ⟨fu, bz, tr, pl, mo⟩ n9 H locs ls ⟨hn_108, hdg, hfu, hm, hP, hS, hl⟩ ih_108
            dsimp only at hn_108 hdg hfu hm hP hl
            have hD : va_D A (rm_w ad cI cL cZ fi fl (va_up (va_up (va_up ai 16 pl) 20 tr) 21 (rc_sB ai na)) al) := am_D hD rfl
            refine lv_iload hx hb dX5_stations_108 (lv_at hl 3 rfl) ?_
            refine lv_if_eq (tgt := 203) hx hb dX5_stations_110 (by decide) (fun c_110 => ?_) (fun c_110 => ?_)
            · skip
              have c_110 : mo = 0 := c_110
              refine lv_aload_n hx hb dX5_stations_203 rfl (lv_at hl 0 rfl) ?_
              refine lv_iconst (v := 1) hx hb dX5_stations_204 (by decide) ?_
              refine va_put (D := D) (ci := 5) (v := .int 1) (ty := .boolean) (C := RX5) (T := TX5) (N := 31) hx hb hts hin_X5 tyX5 tyX5_ok nmX5 hown hK hP hD hS 0 rfl rfl 23 (by decide) hf_196 (fun _ h9 => h9) rfl (by decide +kernel) rfl rfl (Nat.le_of_ble_eq_true rfl) dX5_stations_205 (fun H locs hP hD hS => ?_)
              have hP : va_P D vwCl (rm_w ad cI cL cZ (upd fi 6 1) fl (va_up (va_up (va_up ai 16 pl) 20 tr) 21 (rc_sB ai na)) al) H := hP
              have hD : va_D A (rm_w ad cI cL cZ (upd fi 6 1) fl (va_up (va_up (va_up ai 16 pl) 20 tr) 21 (rc_sB ai na)) al) := (by first | exact rm_D hD | exact am_D hD rfl)
              refine lv_lload_n hx hb dX5_stations_208 rfl (lv_at hl 2 rfl) ?_
              refine lv_l2i (v := bz.toInt32) hx hb dX5_stations_209 rfl ?_
              have hok : rc_stOk (fi 2) x := by first | rfl | (simp only [rc_stOk, c_4, c_9, c_14, c_24, c_59, c_110, if_true, if_false, eq_self, not_true_eq_false, not_false_eq_true, ite_true, ite_false, ↓reduceIte]; done) | (simp [rc_stOk, c_4, c_9, c_14, c_24, c_59, c_110]; done)
              have hq : (rc_sR ai (al 4) (fi 2) na (x.toNatClampNeg) F9) = (bz, tr, pl) := hm.trans (if_pos c_110)
              exact am_iretM hx hb hr hlocks (by simp only [if_pos hok, hq]; exact hP) hS (by rw [if_pos hok, hq]) dX5_stations_210
            · skip
              have c_110 : ¬ (mo = 0) := c_110
              refine lv_aload_n hx hb dX5_stations_113 rfl (lv_at hl 0 rfl) ?_
              refine lv_aload_n hx hb dX5_stations_114 rfl (lv_at hl 0 rfl) ?_
              refine va_get (D := D) (ci := 5) (v := .ref (ad 20)) (C := RX5) (T := TX5) (N := 31) hx hb hts hin_X5 hown hK hP 0 rfl rfl 29 (by decide) hf_76 (fun _ h9 => h9) rfl dX5_stations_115 ?_
              refine am_callRi (W.runV (As := [.ref (ad 20)]) (rest := []) ⟨hx, hb, hml, hown, hts⟩ (c_X5_keeps l D ad cI cL cZ fi fl (va_up (va_up (va_up ai 16 pl) 20 tr) 21 (rc_sB ai na)) al na hna hnl) (cwV 1 hts (am_gV (am_in 627 rfl) (am_in 628 rfl) (am_in 25 rfl) (am_in 35 rfl) (am_in 629 rfl)) rfl rfl rfl (by decide +kernel) ⟨Nat.le_of_ble_eq_true rfl, Nat.le_of_ble_eq_true rfl⟩) (am_preVR 5 0 rfl rfl rfl hP hK hN) rfl rfl hl.1 rfl (lv_room (Nat.le_of_ble_eq_true rfl)) dX5_stations_118 ⟨Nat.zero_le _, Nat.zero_le _⟩) ?_
              refine lv_if_eq (tgt := 135) hx hb dX5_stations_121 (by decide) (fun c_121 => ?_) (fun c_121 => ?_)
              · skip
                have c_121 : (rc_ka tr (rc_sB ai na) na na) = 0 := c_121
                refine lv_ldc2 (v := (-1 : Int64)) hx hb hown (ht 626 _ rfl) dX5_stations_135 ?_
                refine lv_lstore (lv' := [(5, .long (-1 : Int64)), (0, .ref (ad 0)), (1, .int x), (2, .long bz), (4, .int mo)]) hx hb dX5_stations_138 hl (by decide) rfl (fun ls hl => ?_)
                refine lv_lload hx hb dX5_stations_140 (lv_at hl 0 rfl) ?_
                refine lv_lconst (v := 0) hx hb dX5_stations_142 (by decide) ?_
                refine W.lcmp hx hb dX5_stations_143 ?_
                refine lv_if_lt (tgt := 193) hx hb dX5_stations_144 (by decide) (fun c_144 => ?_) (fun c_144 => ?_)
                · skip
                  have c_144 : (-1 : Int64) < 0 := (lg_cmp_lt _ _).mp c_144
                  have hlg : rc_lg (rc_sB ai na) tr (al 4) na = -1 := if_pos c_121
                  have htk : ¬ rc_tk (rc_lg (rc_sB ai na) tr (al 4) na) bz := by rw [hlg]; exact fun z => z.1 c_144
                  have htr := rc_try_S (bh := rc_sB ai na) (co := al 4) (na := na) (st := nI x.toNatClampNeg) (n := fu - 1) (best := bz) (b2 := bz) (tr := tr) (pl := pl) (p2 := pl) (if_neg htk) (if_neg htk)
                  obtain ⟨hn1, hn2, hn3⟩ := rc_next_ok e1 e4 na hnl tr hdg
                  have hlt := rc_rk_lt e4 hdg na hnl
                  have hp4 : 4 ^ na ≤ 1048576 := Nat.le_trans (Nat.pow_le_pow_right (show 0 < 4 by decide) hnl) (show 4 ^ 10 ≤ 1048576 by decide)
                  have hfu1 : 1 ≤ fu := by have := hfu c_110; omega
                  have hm2 : (rc_sR ai (al 4) (fi 2) na (x.toNatClampNeg) F9) = _ := (hm.trans (if_neg c_110)).trans ((congrArg (fun n => rc_try (rc_sB ai na) (al 4) na (nI x.toNatClampNeg) n bz tr pl) (show fu = fu - 1 + 1 by omega)).trans htr)
                  refine lv_aload_n hx hb dX5_stations_193 rfl (lv_at hl 1 rfl) ?_
                  refine lv_iload_n hx hb dX5_stations_194 rfl (lv_at hl 2 rfl) ?_
                  refine am_topi em ?_
                  refine am_callMi (va_runV (As := [.int (nI x.toNatClampNeg)]) (rest := []) ⟨hx, hb, hml, hown, hts⟩ (c_X5_next l D ad cI cL cZ fi fl (va_up (va_up (va_up ai 16 pl) 20 tr) 21 (rc_sB ai na)) al A x.toNatClampNeg na hna hnl) (cwV 1 hts (am_gV (am_in 633 rfl) (am_in 634 rfl) (am_in 27 rfl) (am_in 35 rfl) (am_in 635 rfl)) rfl rfl rfl (by decide +kernel) ⟨Nat.le_of_ble_eq_true rfl, Nat.le_of_ble_eq_true rfl⟩) (am_preVM 5 0 rfl rfl rfl hP hK hN hD) rfl rfl hl.1 rfl (lv_room (Nat.le_of_ble_eq_true rfl)) dX5_stations_195 ⟨Nat.zero_le _, Nat.zero_le _⟩) hS (fun H locs hP hS => ?_)
                  have hP : va_P D vwCl (rm_w ad cI cL cZ fi fl (va_up (va_up (va_up ai 16 pl) 20 ((rc_next (nI x.toNatClampNeg) na tr).1)) 21 (rc_sB ai na)) al) H := hP
                  have hD : va_D A (rm_w ad cI cL cZ fi fl (va_up (va_up (va_up ai 16 pl) 20 ((rc_next (nI x.toNatClampNeg) na tr).1)) 21 (rc_sB ai na)) al) := (by first | exact rm_D hD | exact am_D hD rfl)
                  refine lv_istore (lv' := [(4, .int ((rc_next (nI x.toNatClampNeg) na tr).2)), (5, .long (-1 : Int64)), (0, .ref (ad 0)), (1, .int x), (2, .long bz)]) hx hb dX5_stations_198 hl (by decide) rfl (fun ls hl => ?_)
                  refine lv_goto (tgt := 108) hx hb dX5_stations_200 (by decide) ?_
                  refine ih_108 (fu - 1, bz, ((rc_next (nI x.toNatClampNeg) na tr).1), pl, (rc_next (nI x.toNatClampNeg) na tr).2) ((if ((rc_next (nI x.toNatClampNeg) na tr).2) = 0 then 0 else (fu - 1))) H locs ls (by rw [hn_108, if_neg c_110]; (try dsimp only); split <;> omega) ⟨rfl, hn1, (fun z => by have := hfu c_110; (try dsimp only); rcases hn3 with y | y; exact absurd y z; omega), (by dsimp only; exact hm2), ?_, hS, ?_⟩
                  · (dsimp only; exact hP)
                  · (dsimp only; exact lv_sub hl [2, 3, 4, 0] rfl)
                · skip
                  have c_144 : ¬ ((-1 : Int64) < 0) := (fun z => c_144 ((lg_cmp_lt _ _).mpr z))
                  exact absurd (by decide +kernel) c_144
              · skip
                have c_121 : ¬ ((rc_ka tr (rc_sB ai na) na na) = 0) := c_121
                refine lv_aload_n hx hb dX5_stations_124 rfl (lv_at hl 0 rfl) ?_
                refine lv_aload_n hx hb dX5_stations_125 rfl (lv_at hl 0 rfl) ?_
                refine va_get (D := D) (ci := 5) (v := .ref (ad 20)) (C := RX5) (T := TX5) (N := 31) hx hb hts hin_X5 hown hK hP 0 rfl rfl 29 (by decide) hf_76 (fun _ h9 => h9) rfl dX5_stations_126 ?_
                refine am_callRl (W.runV (As := [.ref (ad 20)]) (rest := []) ⟨hx, hb, hml, hown, hts⟩ (c_X5_longestOf l D ad cI cL cZ fi fl (va_up (va_up (va_up ai 16 pl) 20 tr) 21 (rc_sB ai na)) al na hna hnl) (cwV 1 hts (am_gV (am_in 630 rfl) (am_in 631 rfl) (am_in 26 rfl) (am_in 35 rfl) (am_in 632 rfl)) rfl rfl rfl (by decide +kernel) ⟨Nat.le_of_ble_eq_true rfl, Nat.le_of_ble_eq_true rfl⟩) (am_preVR 5 0 rfl rfl rfl hP hK hN) rfl rfl hl.1 rfl (lv_room (Nat.le_of_ble_eq_true rfl)) dX5_stations_129 ⟨Nat.zero_le _, Nat.zero_le _⟩) ?_
                refine lv_goto (tgt := 138) hx hb dX5_stations_132 (by decide) ?_
                refine lv_lstore (lv' := [(5, .long (rc_lo tr (al 4) na 4)), (0, .ref (ad 0)), (1, .int x), (2, .long bz), (4, .int mo)]) hx hb dX5_stations_138 hl (by decide) rfl (fun ls hl => ?_)
                refine lv_lload hx hb dX5_stations_140 (lv_at hl 0 rfl) ?_
                refine lv_lconst (v := 0) hx hb dX5_stations_142 (by decide) ?_
                refine W.lcmp hx hb dX5_stations_143 ?_
                refine lv_if_lt (tgt := 193) hx hb dX5_stations_144 (by decide) (fun c_144 => ?_) (fun c_144 => ?_)
                · skip
                  have c_144 : (rc_lo tr (al 4) na 4) < 0 := (lg_cmp_lt _ _).mp c_144
                  have hlg : rc_lg (rc_sB ai na) tr (al 4) na = rc_lo tr (al 4) na 4 := if_neg c_121
                  have htk : ¬ rc_tk (rc_lg (rc_sB ai na) tr (al 4) na) bz := by rw [hlg]; exact fun z => z.1 c_144
                  have htr := rc_try_S (bh := rc_sB ai na) (co := al 4) (na := na) (st := nI x.toNatClampNeg) (n := fu - 1) (best := bz) (b2 := bz) (tr := tr) (pl := pl) (p2 := pl) (if_neg htk) (if_neg htk)
                  obtain ⟨hn1, hn2, hn3⟩ := rc_next_ok e1 e4 na hnl tr hdg
                  have hlt := rc_rk_lt e4 hdg na hnl
                  have hp4 : 4 ^ na ≤ 1048576 := Nat.le_trans (Nat.pow_le_pow_right (show 0 < 4 by decide) hnl) (show 4 ^ 10 ≤ 1048576 by decide)
                  have hfu1 : 1 ≤ fu := by have := hfu c_110; omega
                  have hm2 : (rc_sR ai (al 4) (fi 2) na (x.toNatClampNeg) F9) = _ := (hm.trans (if_neg c_110)).trans ((congrArg (fun n => rc_try (rc_sB ai na) (al 4) na (nI x.toNatClampNeg) n bz tr pl) (show fu = fu - 1 + 1 by omega)).trans htr)
                  refine lv_aload_n hx hb dX5_stations_193 rfl (lv_at hl 1 rfl) ?_
                  refine lv_iload_n hx hb dX5_stations_194 rfl (lv_at hl 2 rfl) ?_
                  refine am_topi em ?_
                  refine am_callMi (va_runV (As := [.int (nI x.toNatClampNeg)]) (rest := []) ⟨hx, hb, hml, hown, hts⟩ (c_X5_next l D ad cI cL cZ fi fl (va_up (va_up (va_up ai 16 pl) 20 tr) 21 (rc_sB ai na)) al A x.toNatClampNeg na hna hnl) (cwV 1 hts (am_gV (am_in 633 rfl) (am_in 634 rfl) (am_in 27 rfl) (am_in 35 rfl) (am_in 635 rfl)) rfl rfl rfl (by decide +kernel) ⟨Nat.le_of_ble_eq_true rfl, Nat.le_of_ble_eq_true rfl⟩) (am_preVM 5 0 rfl rfl rfl hP hK hN hD) rfl rfl hl.1 rfl (lv_room (Nat.le_of_ble_eq_true rfl)) dX5_stations_195 ⟨Nat.zero_le _, Nat.zero_le _⟩) hS (fun H locs hP hS => ?_)
                  have hP : va_P D vwCl (rm_w ad cI cL cZ fi fl (va_up (va_up (va_up ai 16 pl) 20 ((rc_next (nI x.toNatClampNeg) na tr).1)) 21 (rc_sB ai na)) al) H := hP
                  have hD : va_D A (rm_w ad cI cL cZ fi fl (va_up (va_up (va_up ai 16 pl) 20 ((rc_next (nI x.toNatClampNeg) na tr).1)) 21 (rc_sB ai na)) al) := (by first | exact rm_D hD | exact am_D hD rfl)
                  refine lv_istore (lv' := [(4, .int ((rc_next (nI x.toNatClampNeg) na tr).2)), (5, .long (rc_lo tr (al 4) na 4)), (0, .ref (ad 0)), (1, .int x), (2, .long bz)]) hx hb dX5_stations_198 hl (by decide) rfl (fun ls hl => ?_)
                  refine lv_goto (tgt := 108) hx hb dX5_stations_200 (by decide) ?_
                  refine ih_108 (fu - 1, bz, ((rc_next (nI x.toNatClampNeg) na tr).1), pl, (rc_next (nI x.toNatClampNeg) na tr).2) ((if ((rc_next (nI x.toNatClampNeg) na tr).2) = 0 then 0 else (fu - 1))) H locs ls (by rw [hn_108, if_neg c_110]; (try dsimp only); split <;> omega) ⟨rfl, hn1, (fun z => by have := hfu c_110; (try dsimp only); rcases hn3 with y | y; exact absurd y z; omega), (by dsimp only; exact hm2), ?_, hS, ?_⟩
                  · (dsimp only; exact hP)
                  · (dsimp only; exact lv_sub hl [2, 3, 4, 0] rfl)
                · skip
                  have c_144 : ¬ ((rc_lo tr (al 4) na 4) < 0) := (fun z => c_144 ((lg_cmp_lt _ _).mpr z))
                  refine lv_lload_n hx hb dX5_stations_147 rfl (lv_at hl 3 rfl) ?_
                  refine lv_lconst (v := 0) hx hb dX5_stations_148 (by decide) ?_
                  refine W.lcmp hx hb dX5_stations_149 ?_
                  refine lv_if_lt (tgt := 160) hx hb dX5_stations_150 (by decide) (fun c_150 => ?_) (fun c_150 => ?_)
                  · skip
                    have c_150 : bz < 0 := (lg_cmp_lt _ _).mp c_150
                    refine lv_lload hx hb dX5_stations_160 (lv_at hl 0 rfl) ?_
                    refine lv_lstore_n (lv' := [(2, .long (rc_lo tr (al 4) na 4)), (5, .long (rc_lo tr (al 4) na 4)), (0, .ref (ad 0)), (1, .int x), (4, .int mo)]) hx hb dX5_stations_162 rfl hl (by decide) rfl (fun ls hl => ?_)
                    refine lv_iconst (v := 0) hx hb dX5_stations_163 (by decide) ?_
                    refine lv_istore (lv' := [(7, .int 0), (2, .long (rc_lo tr (al 4) na 4)), (5, .long (rc_lo tr (al 4) na 4)), (0, .ref (ad 0)), (1, .int x), (4, .int mo)]) hx hb dX5_stations_164 hl (by decide) rfl (fun ls hl => ?_)
                    refine am_loop (σ := Nat) (fun q n9 H locs ls => n9 = 10 - q ∧ q ≤ 10 ∧ va_P D vwCl (rm_w ad cI cL cZ fi fl (va_up (va_up (va_up ai 16 (rc_cp tr pl q)) 20 tr) 21 (rc_sB ai na)) al) H ∧ va_S A s.heap H locs ∧ lv_has ls 8 [(0, .ref (ad 0)), (1, .int x), (2, .long (rc_lo tr (al 4) na 4)), (4, .int mo), (5, .long (rc_lo tr (al 4) na 4)), (7, .int (nI q))]) ?_ 0 (10 - 0) H locs ls ⟨rfl, (by omega), hP, hS, lv_sub hl [3, 4, 1, 5, 2, 0] rfl⟩
                    rintro k n9 H locs ls ⟨hn_166, hk, hP, hS, hl⟩ ih_166
                    have hD : va_D A (rm_w ad cI cL cZ fi fl (va_up (va_up (va_up ai 16 (rc_cp tr pl k)) 20 tr) 21 (rc_sB ai na)) al) := am_D hD rfl
                    refine lv_iload hx hb dX5_stations_166 (lv_at hl 5 rfl) ?_
                    refine lv_bipush (v := 10) hx hb dX5_stations_168 (by decide) ?_
                    refine lv_icmp_ge (tgt := 193) hx hb dX5_stations_170 (by decide) (fun c_170 => ?_) (fun c_170 => ?_)
                    · skip
                      have c_170 : 10 ≤ (nI k) := c_170
                      have hke_170 : 10 ≤ k := (am_ge (rfl : (10 : Int32) = nI 10) (by decide) (by omega)).mp c_170
                      have hkq_170 : k = 10 := by omega
                      subst hkq_170
                      have hlg : rc_lg (rc_sB ai na) tr (al 4) na = rc_lo tr (al 4) na 4 := if_neg c_121
                      have htk : rc_tk (rc_lg (rc_sB ai na) tr (al 4) na) bz := by rw [hlg]; exact ⟨c_144, Or.inl c_150⟩
                      have htr := rc_try_S (bh := rc_sB ai na) (co := al 4) (na := na) (st := nI x.toNatClampNeg) (n := fu - 1) (best := bz) (b2 := rc_lo tr (al 4) na 4) (tr := tr) (pl := pl) (p2 := (rc_cp tr pl 10)) ((if_pos htk).trans hlg) (if_pos htk)
                      obtain ⟨hn1, hn2, hn3⟩ := rc_next_ok e1 e4 na hnl tr hdg
                      have hlt := rc_rk_lt e4 hdg na hnl
                      have hp4 : 4 ^ na ≤ 1048576 := Nat.le_trans (Nat.pow_le_pow_right (show 0 < 4 by decide) hnl) (show 4 ^ 10 ≤ 1048576 by decide)
                      have hfu1 : 1 ≤ fu := by have := hfu c_110; omega
                      have hm2 : (rc_sR ai (al 4) (fi 2) na (x.toNatClampNeg) F9) = _ := (hm.trans (if_neg c_110)).trans ((congrArg (fun n => rc_try (rc_sB ai na) (al 4) na (nI x.toNatClampNeg) n bz tr pl) (show fu = fu - 1 + 1 by omega)).trans htr)
                      refine lv_aload_n hx hb dX5_stations_193 rfl (lv_at hl 0 rfl) ?_
                      refine lv_iload_n hx hb dX5_stations_194 rfl (lv_at hl 1 rfl) ?_
                      refine am_topi em ?_
                      refine am_callMi (va_runV (As := [.int (nI x.toNatClampNeg)]) (rest := []) ⟨hx, hb, hml, hown, hts⟩ (c_X5_next l D ad cI cL cZ fi fl (va_up (va_up (va_up ai 16 (rc_cp tr pl 10)) 20 tr) 21 (rc_sB ai na)) al A x.toNatClampNeg na hna hnl) (cwV 1 hts (am_gV (am_in 633 rfl) (am_in 634 rfl) (am_in 27 rfl) (am_in 35 rfl) (am_in 635 rfl)) rfl rfl rfl (by decide +kernel) ⟨Nat.le_of_ble_eq_true rfl, Nat.le_of_ble_eq_true rfl⟩) (am_preVM 5 0 rfl rfl rfl hP hK hN hD) rfl rfl hl.1 rfl (lv_room (Nat.le_of_ble_eq_true rfl)) dX5_stations_195 ⟨Nat.zero_le _, Nat.zero_le _⟩) hS (fun H locs hP hS => ?_)
                      have hP : va_P D vwCl (rm_w ad cI cL cZ fi fl (va_up (va_up (va_up ai 16 (rc_cp tr pl 10)) 20 ((rc_next (nI x.toNatClampNeg) na tr).1)) 21 (rc_sB ai na)) al) H := hP
                      have hD : va_D A (rm_w ad cI cL cZ fi fl (va_up (va_up (va_up ai 16 (rc_cp tr pl 10)) 20 ((rc_next (nI x.toNatClampNeg) na tr).1)) 21 (rc_sB ai na)) al) := (by first | exact rm_D hD | exact am_D hD rfl)
                      refine lv_istore (lv' := [(4, .int ((rc_next (nI x.toNatClampNeg) na tr).2)), (0, .ref (ad 0)), (1, .int x), (2, .long (rc_lo tr (al 4) na 4)), (5, .long (rc_lo tr (al 4) na 4)), (7, .int (nI 10))]) hx hb dX5_stations_198 hl (by decide) rfl (fun ls hl => ?_)
                      refine lv_goto (tgt := 108) hx hb dX5_stations_200 (by decide) ?_
                      refine ih_108 (fu - 1, rc_lo tr (al 4) na 4, ((rc_next (nI x.toNatClampNeg) na tr).1), (rc_cp tr pl 10), (rc_next (nI x.toNatClampNeg) na tr).2) ((if ((rc_next (nI x.toNatClampNeg) na tr).2) = 0 then 0 else (fu - 1))) H locs ls (by rw [hn_108, if_neg c_110]; (try dsimp only); split <;> omega) ⟨rfl, hn1, (fun z => by have := hfu c_110; (try dsimp only); rcases hn3 with y | y; exact absurd y z; omega), (by dsimp only; exact hm2), ?_, hS, ?_⟩
                      · (dsimp only; exact hP)
                      · (dsimp only; exact lv_sub hl [1, 2, 3, 0] rfl)
                    · skip
                      have c_170 : ¬ (10 ≤ (nI k)) := c_170
                      have hkl_170 : k < 10 := Nat.lt_of_not_le (fun z => c_170 ((am_ge (rfl : (10 : Int32) = nI 10) (by decide) (by omega)).mpr z))
                      refine lv_aload_n hx hb dX5_stations_173 rfl (lv_at hl 0 rfl) ?_
                      refine va_get (D := D) (ci := 5) (v := .ref (ad 16)) (C := RX5) (T := TX5) (N := 31) hx hb hts hin_X5 hown hK hP 0 rfl rfl 22 (by decide) hf_61 (fun _ h9 => h9) rfl dX5_stations_174 ?_
                      refine lv_iload hx hb dX5_stations_177 (lv_at hl 5 rfl) ?_
                      refine lv_aload_n hx hb dX5_stations_179 rfl (lv_at hl 0 rfl) ?_
                      refine va_get (D := D) (ci := 5) (v := .ref (ad 20)) (C := RX5) (T := TX5) (N := 31) hx hb hts hin_X5 hown hK hP 0 rfl rfl 29 (by decide) hf_76 (fun _ h9 => h9) rfl dX5_stations_180 ?_
                      refine lv_iload hx hb dX5_stations_183 (lv_at hl 5 rfl) ?_
                      refine am_iald hx hb hK hP 20 0 rfl rfl k rfl (by omega) (by decide) dX5_stations_185 ?_
                      refine am_iast hx hb hK hP hD hS 16 0 rfl rfl k rfl (by omega) (by decide) (rm_w ad cI cL cZ fi fl (va_up (va_up (va_up ai 16 (upd (rc_cp tr pl k) k (tr k))) 20 tr) 21 (rc_sB ai na)) al) rfl dX5_stations_186 (fun H locs hP hD hS => ?_)
                      refine lv_iinc (v := nI (k + 1)) (lv' := [(7, .int (nI (k + 1))), (0, .ref (ad 0)), (1, .int x), (2, .long (rc_lo tr (al 4) na 4)), (4, .int mo), (5, .long (rc_lo tr (al 4) na 4))]) hx hb dX5_stations_187 hl (k := 5) rfl (nI_1 k) (by decide) rfl (fun ls hl => ?_)
                      refine lv_goto (tgt := 166) hx hb dX5_stations_190 (by decide) ?_
                      have e_166_0 : (rc_cp tr pl (k + 1)) = (upd (rc_cp tr pl k) k (tr k)) := by first | rfl | (simp only [rc_cp, c_4, c_9, c_14, c_24, c_59, c_110, c_121, c_144, c_150, c_170, if_true, if_false, eq_self, not_true_eq_false, not_false_eq_true, ite_true, ite_false, ↓reduceIte]; done) | (simp [rc_cp, c_4, c_9, c_14, c_24, c_59, c_110, c_121, c_144, c_150, c_170]; done)
                      refine ih_166 (k + 1) (10 - (k + 1)) H locs ls (by omega) ⟨rfl, (by omega), ?_, hS, ?_⟩
                      · (try dsimp only); (try rw [e_166_0]); exact hP
                      · (try dsimp only); (try rw [e_166_0]); exact lv_sub hl [1, 2, 3, 4, 5, 0] rfl
                  · skip
                    have c_150 : ¬ (bz < 0) := (fun z => c_150 ((lg_cmp_lt _ _).mpr z))
                    refine lv_lload hx hb dX5_stations_153 (lv_at hl 0 rfl) ?_
                    refine lv_lload_n hx hb dX5_stations_155 rfl (lv_at hl 3 rfl) ?_
                    refine W.lcmp hx hb dX5_stations_156 ?_
                    refine lv_if_ge (tgt := 193) hx hb dX5_stations_157 (by decide) (fun c_157 => ?_) (fun c_157 => ?_)
                    · skip
                      have c_157 : bz ≤ (rc_lo tr (al 4) na 4) := (lg_cmp_ge _ _).mp c_157
                      have hlg : rc_lg (rc_sB ai na) tr (al 4) na = rc_lo tr (al 4) na 4 := if_neg c_121
                      have htk : ¬ rc_tk (rc_lg (rc_sB ai na) tr (al 4) na) bz := by rw [hlg]; exact fun z => z.2.elim c_150 (fun y => y c_157)
                      have htr := rc_try_S (bh := rc_sB ai na) (co := al 4) (na := na) (st := nI x.toNatClampNeg) (n := fu - 1) (best := bz) (b2 := bz) (tr := tr) (pl := pl) (p2 := pl) (if_neg htk) (if_neg htk)
                      obtain ⟨hn1, hn2, hn3⟩ := rc_next_ok e1 e4 na hnl tr hdg
                      have hlt := rc_rk_lt e4 hdg na hnl
                      have hp4 : 4 ^ na ≤ 1048576 := Nat.le_trans (Nat.pow_le_pow_right (show 0 < 4 by decide) hnl) (show 4 ^ 10 ≤ 1048576 by decide)
                      have hfu1 : 1 ≤ fu := by have := hfu c_110; omega
                      have hm2 : (rc_sR ai (al 4) (fi 2) na (x.toNatClampNeg) F9) = _ := (hm.trans (if_neg c_110)).trans ((congrArg (fun n => rc_try (rc_sB ai na) (al 4) na (nI x.toNatClampNeg) n bz tr pl) (show fu = fu - 1 + 1 by omega)).trans htr)
                      refine lv_aload_n hx hb dX5_stations_193 rfl (lv_at hl 1 rfl) ?_
                      refine lv_iload_n hx hb dX5_stations_194 rfl (lv_at hl 2 rfl) ?_
                      refine am_topi em ?_
                      refine am_callMi (va_runV (As := [.int (nI x.toNatClampNeg)]) (rest := []) ⟨hx, hb, hml, hown, hts⟩ (c_X5_next l D ad cI cL cZ fi fl (va_up (va_up (va_up ai 16 pl) 20 tr) 21 (rc_sB ai na)) al A x.toNatClampNeg na hna hnl) (cwV 1 hts (am_gV (am_in 633 rfl) (am_in 634 rfl) (am_in 27 rfl) (am_in 35 rfl) (am_in 635 rfl)) rfl rfl rfl (by decide +kernel) ⟨Nat.le_of_ble_eq_true rfl, Nat.le_of_ble_eq_true rfl⟩) (am_preVM 5 0 rfl rfl rfl hP hK hN hD) rfl rfl hl.1 rfl (lv_room (Nat.le_of_ble_eq_true rfl)) dX5_stations_195 ⟨Nat.zero_le _, Nat.zero_le _⟩) hS (fun H locs hP hS => ?_)
                      have hP : va_P D vwCl (rm_w ad cI cL cZ fi fl (va_up (va_up (va_up ai 16 pl) 20 ((rc_next (nI x.toNatClampNeg) na tr).1)) 21 (rc_sB ai na)) al) H := hP
                      have hD : va_D A (rm_w ad cI cL cZ fi fl (va_up (va_up (va_up ai 16 pl) 20 ((rc_next (nI x.toNatClampNeg) na tr).1)) 21 (rc_sB ai na)) al) := (by first | exact rm_D hD | exact am_D hD rfl)
                      refine lv_istore (lv' := [(4, .int ((rc_next (nI x.toNatClampNeg) na tr).2)), (5, .long (rc_lo tr (al 4) na 4)), (0, .ref (ad 0)), (1, .int x), (2, .long bz)]) hx hb dX5_stations_198 hl (by decide) rfl (fun ls hl => ?_)
                      refine lv_goto (tgt := 108) hx hb dX5_stations_200 (by decide) ?_
                      refine ih_108 (fu - 1, bz, ((rc_next (nI x.toNatClampNeg) na tr).1), pl, (rc_next (nI x.toNatClampNeg) na tr).2) ((if ((rc_next (nI x.toNatClampNeg) na tr).2) = 0 then 0 else (fu - 1))) H locs ls (by rw [hn_108, if_neg c_110]; (try dsimp only); split <;> omega) ⟨rfl, hn1, (fun z => by have := hfu c_110; (try dsimp only); rcases hn3 with y | y; exact absurd y z; omega), (by dsimp only; exact hm2), ?_, hS, ?_⟩
                      · (dsimp only; exact hP)
                      · (dsimp only; exact lv_sub hl [2, 3, 4, 0] rfl)
                    · skip
                      have c_157 : ¬ (bz ≤ (rc_lo tr (al 4) na 4)) := (fun z => c_157 ((lg_cmp_ge _ _).mpr z))
                      refine lv_lload hx hb dX5_stations_160 (lv_at hl 0 rfl) ?_
                      refine lv_lstore_n (lv' := [(2, .long (rc_lo tr (al 4) na 4)), (5, .long (rc_lo tr (al 4) na 4)), (0, .ref (ad 0)), (1, .int x), (4, .int mo)]) hx hb dX5_stations_162 rfl hl (by decide) rfl (fun ls hl => ?_)
                      refine lv_iconst (v := 0) hx hb dX5_stations_163 (by decide) ?_
                      refine lv_istore (lv' := [(7, .int 0), (2, .long (rc_lo tr (al 4) na 4)), (5, .long (rc_lo tr (al 4) na 4)), (0, .ref (ad 0)), (1, .int x), (4, .int mo)]) hx hb dX5_stations_164 hl (by decide) rfl (fun ls hl => ?_)
                      refine am_loop (σ := Nat) (fun q n9 H locs ls => n9 = 10 - q ∧ q ≤ 10 ∧ va_P D vwCl (rm_w ad cI cL cZ fi fl (va_up (va_up (va_up ai 16 (rc_cp tr pl q)) 20 tr) 21 (rc_sB ai na)) al) H ∧ va_S A s.heap H locs ∧ lv_has ls 8 [(0, .ref (ad 0)), (1, .int x), (2, .long (rc_lo tr (al 4) na 4)), (4, .int mo), (5, .long (rc_lo tr (al 4) na 4)), (7, .int (nI q))]) ?_ 0 (10 - 0) H locs ls ⟨rfl, (by omega), hP, hS, lv_sub hl [3, 4, 1, 5, 2, 0] rfl⟩
                      rintro k n9 H locs ls ⟨hn_166, hk, hP, hS, hl⟩ ih_166
                      have hD : va_D A (rm_w ad cI cL cZ fi fl (va_up (va_up (va_up ai 16 (rc_cp tr pl k)) 20 tr) 21 (rc_sB ai na)) al) := am_D hD rfl
                      refine lv_iload hx hb dX5_stations_166 (lv_at hl 5 rfl) ?_
                      refine lv_bipush (v := 10) hx hb dX5_stations_168 (by decide) ?_
                      refine lv_icmp_ge (tgt := 193) hx hb dX5_stations_170 (by decide) (fun c_170 => ?_) (fun c_170 => ?_)
                      · skip
                        have c_170 : 10 ≤ (nI k) := c_170
                        have hke_170 : 10 ≤ k := (am_ge (rfl : (10 : Int32) = nI 10) (by decide) (by omega)).mp c_170
                        have hkq_170 : k = 10 := by omega
                        subst hkq_170
                        have hlg : rc_lg (rc_sB ai na) tr (al 4) na = rc_lo tr (al 4) na 4 := if_neg c_121
                        have htk : rc_tk (rc_lg (rc_sB ai na) tr (al 4) na) bz := by rw [hlg]; exact ⟨c_144, Or.inr c_157⟩
                        have htr := rc_try_S (bh := rc_sB ai na) (co := al 4) (na := na) (st := nI x.toNatClampNeg) (n := fu - 1) (best := bz) (b2 := rc_lo tr (al 4) na 4) (tr := tr) (pl := pl) (p2 := (rc_cp tr pl 10)) ((if_pos htk).trans hlg) (if_pos htk)
                        obtain ⟨hn1, hn2, hn3⟩ := rc_next_ok e1 e4 na hnl tr hdg
                        have hlt := rc_rk_lt e4 hdg na hnl
                        have hp4 : 4 ^ na ≤ 1048576 := Nat.le_trans (Nat.pow_le_pow_right (show 0 < 4 by decide) hnl) (show 4 ^ 10 ≤ 1048576 by decide)
                        have hfu1 : 1 ≤ fu := by have := hfu c_110; omega
                        have hm2 : (rc_sR ai (al 4) (fi 2) na (x.toNatClampNeg) F9) = _ := (hm.trans (if_neg c_110)).trans ((congrArg (fun n => rc_try (rc_sB ai na) (al 4) na (nI x.toNatClampNeg) n bz tr pl) (show fu = fu - 1 + 1 by omega)).trans htr)
                        refine lv_aload_n hx hb dX5_stations_193 rfl (lv_at hl 0 rfl) ?_
                        refine lv_iload_n hx hb dX5_stations_194 rfl (lv_at hl 1 rfl) ?_
                        refine am_topi em ?_
                        refine am_callMi (va_runV (As := [.int (nI x.toNatClampNeg)]) (rest := []) ⟨hx, hb, hml, hown, hts⟩ (c_X5_next l D ad cI cL cZ fi fl (va_up (va_up (va_up ai 16 (rc_cp tr pl 10)) 20 tr) 21 (rc_sB ai na)) al A x.toNatClampNeg na hna hnl) (cwV 1 hts (am_gV (am_in 633 rfl) (am_in 634 rfl) (am_in 27 rfl) (am_in 35 rfl) (am_in 635 rfl)) rfl rfl rfl (by decide +kernel) ⟨Nat.le_of_ble_eq_true rfl, Nat.le_of_ble_eq_true rfl⟩) (am_preVM 5 0 rfl rfl rfl hP hK hN hD) rfl rfl hl.1 rfl (lv_room (Nat.le_of_ble_eq_true rfl)) dX5_stations_195 ⟨Nat.zero_le _, Nat.zero_le _⟩) hS (fun H locs hP hS => ?_)
                        have hP : va_P D vwCl (rm_w ad cI cL cZ fi fl (va_up (va_up (va_up ai 16 (rc_cp tr pl 10)) 20 ((rc_next (nI x.toNatClampNeg) na tr).1)) 21 (rc_sB ai na)) al) H := hP
                        have hD : va_D A (rm_w ad cI cL cZ fi fl (va_up (va_up (va_up ai 16 (rc_cp tr pl 10)) 20 ((rc_next (nI x.toNatClampNeg) na tr).1)) 21 (rc_sB ai na)) al) := (by first | exact rm_D hD | exact am_D hD rfl)
                        refine lv_istore (lv' := [(4, .int ((rc_next (nI x.toNatClampNeg) na tr).2)), (0, .ref (ad 0)), (1, .int x), (2, .long (rc_lo tr (al 4) na 4)), (5, .long (rc_lo tr (al 4) na 4)), (7, .int (nI 10))]) hx hb dX5_stations_198 hl (by decide) rfl (fun ls hl => ?_)
                        refine lv_goto (tgt := 108) hx hb dX5_stations_200 (by decide) ?_
                        refine ih_108 (fu - 1, rc_lo tr (al 4) na 4, ((rc_next (nI x.toNatClampNeg) na tr).1), (rc_cp tr pl 10), (rc_next (nI x.toNatClampNeg) na tr).2) ((if ((rc_next (nI x.toNatClampNeg) na tr).2) = 0 then 0 else (fu - 1))) H locs ls (by rw [hn_108, if_neg c_110]; (try dsimp only); split <;> omega) ⟨rfl, hn1, (fun z => by have := hfu c_110; (try dsimp only); rcases hn3 with y | y; exact absurd y z; omega), (by dsimp only; exact hm2), ?_, hS, ?_⟩
                        · (dsimp only; exact hP)
                        · (dsimp only; exact lv_sub hl [1, 2, 3, 0] rfl)
                      · skip
                        have c_170 : ¬ (10 ≤ (nI k)) := c_170
                        have hkl_170 : k < 10 := Nat.lt_of_not_le (fun z => c_170 ((am_ge (rfl : (10 : Int32) = nI 10) (by decide) (by omega)).mpr z))
                        refine lv_aload_n hx hb dX5_stations_173 rfl (lv_at hl 0 rfl) ?_
                        refine va_get (D := D) (ci := 5) (v := .ref (ad 16)) (C := RX5) (T := TX5) (N := 31) hx hb hts hin_X5 hown hK hP 0 rfl rfl 22 (by decide) hf_61 (fun _ h9 => h9) rfl dX5_stations_174 ?_
                        refine lv_iload hx hb dX5_stations_177 (lv_at hl 5 rfl) ?_
                        refine lv_aload_n hx hb dX5_stations_179 rfl (lv_at hl 0 rfl) ?_
                        refine va_get (D := D) (ci := 5) (v := .ref (ad 20)) (C := RX5) (T := TX5) (N := 31) hx hb hts hin_X5 hown hK hP 0 rfl rfl 29 (by decide) hf_76 (fun _ h9 => h9) rfl dX5_stations_180 ?_
                        refine lv_iload hx hb dX5_stations_183 (lv_at hl 5 rfl) ?_
                        refine am_iald hx hb hK hP 20 0 rfl rfl k rfl (by omega) (by decide) dX5_stations_185 ?_
                        refine am_iast hx hb hK hP hD hS 16 0 rfl rfl k rfl (by omega) (by decide) (rm_w ad cI cL cZ fi fl (va_up (va_up (va_up ai 16 (upd (rc_cp tr pl k) k (tr k))) 20 tr) 21 (rc_sB ai na)) al) rfl dX5_stations_186 (fun H locs hP hD hS => ?_)
                        refine lv_iinc (v := nI (k + 1)) (lv' := [(7, .int (nI (k + 1))), (0, .ref (ad 0)), (1, .int x), (2, .long (rc_lo tr (al 4) na 4)), (4, .int mo), (5, .long (rc_lo tr (al 4) na 4))]) hx hb dX5_stations_187 hl (k := 5) rfl (nI_1 k) (by decide) rfl (fun ls hl => ?_)
                        refine lv_goto (tgt := 166) hx hb dX5_stations_190 (by decide) ?_
                        have e_166_0 : (rc_cp tr pl (k + 1)) = (upd (rc_cp tr pl k) k (tr k)) := by first | rfl | (simp only [rc_cp, c_4, c_9, c_14, c_24, c_59, c_110, c_121, c_144, c_150, c_157, c_170, if_true, if_false, eq_self, not_true_eq_false, not_false_eq_true, ite_true, ite_false, ↓reduceIte]; done) | (simp [rc_cp, c_4, c_9, c_14, c_24, c_59, c_110, c_121, c_144, c_150, c_157, c_170]; done)
                        refine ih_166 (k + 1) (10 - (k + 1)) H locs ls (by omega) ⟨rfl, (by omega), ?_, hS, ?_⟩
                        · (try dsimp only); (try rw [e_166_0]); exact hP
                        · (try dsimp only); (try rw [e_166_0]); exact lv_sub hl [1, 2, 3, 4, 5, 0] rfl
          · skip
            have c_59 : ¬ ((fi 0) ≤ (nI a)) := c_59
            have hkl_59 : a < na := Nat.lt_of_not_le (fun z => c_59 ((am_ge hna (by omega) (by omega)).mpr z))
            refine lv_iconst (v := 0) hx hb dX5_stations_62 (by decide) ?_
            refine lv_istore_n (lv' := [(3, .int 0), (0, .ref (ad 0)), (1, .int x), (2, .int (nI a))]) hx hb dX5_stations_63 rfl hl (by decide) rfl (fun ls hl => ?_)
            refine am_loop (σ := Nat) (fun q n9 H locs ls => n9 = na - q ∧ q ≤ na ∧ va_P D vwCl (rm_w ad cI cL cZ fi fl (va_up (va_up ai 20 (rc_ti (fun q => rc_inrow (ai 14) q (rc_len (fi 2))) (ai 20) 10)) 21 (rc_bi (ai 6) na a (rc_bo (ai 6) na (ai 21) a) q)) al) H ∧ va_S A s.heap H locs ∧ lv_has ls 8 [(0, .ref (ad 0)), (1, .int x), (2, .int (nI a)), (3, .int (nI q))]) ?_ 0 (na - 0) H locs ls ⟨rfl, (by omega), hP, hS, lv_sub hl [1, 2, 3, 0] rfl⟩
            rintro b n9 H locs ls ⟨hn_64, hkb, hP, hS, hl⟩ ih_64
            have hD : va_D A (rm_w ad cI cL cZ fi fl (va_up (va_up ai 20 (rc_ti (fun q => rc_inrow (ai 14) q (rc_len (fi 2))) (ai 20) 10)) 21 (rc_bi (ai 6) na a (rc_bo (ai 6) na (ai 21) a) b)) al) := am_D hD rfl
            refine lv_iload_n hx hb dX5_stations_64 rfl (lv_at hl 3 rfl) ?_
            refine lv_aload_n hx hb dX5_stations_65 rfl (lv_at hl 0 rfl) ?_
            refine va_get (D := D) (ci := 5) (v := .int (fi 0)) (C := RX5) (T := TX5) (N := 31) hx hb hts hin_X5 hown hK hP 0 rfl rfl 0 (by decide) hf_86 (fun _ h9 => h9) rfl dX5_stations_66 ?_
            refine lv_icmp_ge (tgt := 95) hx hb dX5_stations_69 (by decide) (fun c_69 => ?_) (fun c_69 => ?_)
            · skip
              have c_69 : (fi 0) ≤ (nI b) := c_69
              have hke_69 : na ≤ b := (am_ge hna (by omega) (by omega)).mp c_69
              have hkq_69 : na = b := by omega
              subst hkq_69
              refine lv_iinc (v := nI (a + 1)) (lv' := [(2, .int (nI (a + 1))), (0, .ref (ad 0)), (1, .int x), (3, .int (nI na))]) hx hb dX5_stations_95 hl (k := 2) rfl (nI_1 a) (by decide) rfl (fun ls hl => ?_)
              refine lv_goto (tgt := 54) hx hb dX5_stations_98 (by decide) ?_
              have e_54_0 : (rc_bo (ai 6) na (ai 21) (a + 1)) = (rc_bi (ai 6) na a (rc_bo (ai 6) na (ai 21) a) na) := by first | rfl | (simp only [rc_bo, c_4, c_9, c_14, c_24, c_59, c_69, if_true, if_false, eq_self, not_true_eq_false, not_false_eq_true, ite_true, ite_false, ↓reduceIte]; done) | (simp [rc_bo, c_4, c_9, c_14, c_24, c_59, c_69]; done)
              refine ih_54 (a + 1) (na - (a + 1)) H locs ls (by omega) ⟨rfl, (by omega), ?_, hS, ?_⟩
              · (try dsimp only); (try rw [e_54_0]); exact hP
              · (try dsimp only); (try rw [e_54_0]); exact lv_sub hl [1, 2, 0] rfl
            · skip
              have c_69 : ¬ ((fi 0) ≤ (nI b)) := c_69
              have hkl_69 : b < na := Nat.lt_of_not_le (fun z => c_69 ((am_ge hna (by omega) (by omega)).mpr z))
              refine lv_aload_n hx hb dX5_stations_72 rfl (lv_at hl 0 rfl) ?_
              refine va_get (D := D) (ci := 5) (v := .ref (ad 21)) (C := RX5) (T := TX5) (N := 31) hx hb hts hin_X5 hown hK hP 0 rfl rfl 30 (by decide) hf_79 (fun _ h9 => h9) rfl dX5_stations_73 ?_
              refine lv_bipush (v := 10) hx hb dX5_stations_76 (by decide) ?_
              refine lv_iload_n hx hb dX5_stations_78 rfl (lv_at hl 2 rfl) ?_
              refine lv_imul hx hb dX5_stations_79 ?_
              refine lv_iload_n hx hb dX5_stations_80 rfl (lv_at hl 3 rfl) ?_
              refine lv_iadd hx hb dX5_stations_81 ?_
              refine lv_aload_n hx hb dX5_stations_82 rfl (lv_at hl 0 rfl) ?_
              refine lv_iload_n hx hb dX5_stations_83 rfl (lv_at hl 2 rfl) ?_
              refine lv_iload_n hx hb dX5_stations_84 rfl (lv_at hl 3 rfl) ?_
              refine am_callRi (W.runV (As := [.int (nI a), .int (nI b)]) (rest := [.int ((10 * (nI a)) + (nI b)), .ref (ad 21)]) ⟨hx, hb, hml, hown, hts⟩ (c_X5_leadsTo l D ad cI cL cZ fi fl (va_up (va_up ai 20 (rc_ti (fun q => rc_inrow (ai 14) q (rc_len (fi 2))) (ai 20) 10)) 21 (rc_bi (ai 6) na a (rc_bo (ai 6) na (ai 21) a) b)) al a (nI b) na hna hnl (by omega)) (cwV 2 hts (am_gV (am_in 511 rfl) (am_in 512 rfl) (am_in 13 rfl) (am_in 35 rfl) (am_in 513 rfl)) rfl rfl rfl (by decide +kernel) ⟨Nat.le_of_ble_eq_true rfl, Nat.le_of_ble_eq_true rfl⟩) (am_preVR 5 0 rfl rfl rfl hP hK hN) rfl rfl hl.1 rfl (lv_room (Nat.le_of_ble_eq_true rfl)) dX5_stations_85 ⟨Nat.zero_le _, Nat.zero_le _⟩) ?_
              refine am_zast hx hb hK hP hD hS 21 2 rfl rfl (10 * a + b) (am_x10 a b) (by omega) (by decide) (am_zn (rc_leads_z _ _ _ _)) (rm_w ad cI cL cZ fi fl (va_up (va_up ai 20 (rc_ti (fun q => rc_inrow (ai 14) q (rc_len (fi 2))) (ai 20) 10)) 21 (upd (rc_bi (ai 6) na a (rc_bo (ai 6) na (ai 21) a) b) (10 * a + b) (rc_leads (ai 6) na a (nI b)))) al) rfl dX5_stations_88 (fun H locs hP hD hS => ?_)
              refine lv_iinc (v := nI (b + 1)) (lv' := [(3, .int (nI (b + 1))), (0, .ref (ad 0)), (1, .int x), (2, .int (nI a))]) hx hb dX5_stations_89 hl (k := 3) rfl (nI_1 b) (by decide) rfl (fun ls hl => ?_)
              refine lv_goto (tgt := 64) hx hb dX5_stations_92 (by decide) ?_
              have e_64_0 : (rc_bi (ai 6) na a (rc_bo (ai 6) na (ai 21) a) (b + 1)) = (upd (rc_bi (ai 6) na a (rc_bo (ai 6) na (ai 21) a) b) (10 * a + b) (rc_leads (ai 6) na a (nI b))) := by first | rfl | (simp only [rc_bi, c_4, c_9, c_14, c_24, c_59, c_69, if_true, if_false, eq_self, not_true_eq_false, not_false_eq_true, ite_true, ite_false, ↓reduceIte]; done) | (simp [rc_bi, c_4, c_9, c_14, c_24, c_59, c_69]; done)
              refine ih_64 (b + 1) (na - (b + 1)) H locs ls (by omega) ⟨rfl, (by omega), ?_, hS, ?_⟩
              · (try dsimp only); (try rw [e_64_0]); exact hP
              · (try dsimp only); (try rw [e_64_0]); exact lv_sub hl [1, 2, 3, 0] rfl
        · skip
          have c_24 : ¬ (10 ≤ (nI a)) := c_24
          have hkl_24 : a < 10 := Nat.lt_of_not_le (fun z => c_24 ((am_ge (rfl : (10 : Int32) = nI 10) (by decide) (by omega)).mpr z))
          refine lv_aload_n hx hb dX5_stations_27 rfl (lv_at hl 0 rfl) ?_
          refine va_get (D := D) (ci := 5) (v := .ref (ad 20)) (C := RX5) (T := TX5) (N := 31) hx hb hts hin_X5 hown hK hP 0 rfl rfl 29 (by decide) hf_76 (fun _ h9 => h9) rfl dX5_stations_28 ?_
          refine lv_iload_n hx hb dX5_stations_31 rfl (lv_at hl 2 rfl) ?_
          refine lv_aload_n hx hb dX5_stations_32 rfl (lv_at hl 0 rfl) ?_
          refine lv_iload_n hx hb dX5_stations_33 rfl (lv_at hl 2 rfl) ?_
          refine am_callRi (W.runV (As := [.int (nI a)]) (rest := [.int (nI a), .ref (ad 20)]) ⟨hx, hb, hml, hown, hts⟩ (c_X5_isInRow l D ad cI cL cZ fi fl (va_up ai 20 (rc_ti (fun q => rc_inrow (ai 14) q (rc_len (fi 2))) (ai 20) a)) al (nI a) ln hlen hln) (cwV 1 hts (am_gV (am_in 600 rfl) (am_in 601 rfl) (am_in 23 rfl) (am_in 35 rfl) (am_in 602 rfl)) rfl rfl rfl (by decide +kernel) ⟨Nat.le_of_ble_eq_true rfl, Nat.le_of_ble_eq_true rfl⟩) (am_preVR 5 0 rfl rfl rfl hP hK hN) rfl rfl hl.1 rfl (lv_room (Nat.le_of_ble_eq_true rfl)) dX5_stations_34 ⟨Nat.zero_le _, Nat.zero_le _⟩) ?_
          refine lv_if_eq (tgt := 44) hx hb dX5_stations_37 (by decide) (fun c_37 => ?_) (fun c_37 => ?_)
          · skip
            have c_37 : (rc_inrow (ai 14) (nI a) (rc_len (fi 2))) = 0 := c_37
            refine lv_iconst (v := (-1)) hx hb dX5_stations_44 (by decide) ?_
            refine am_iast hx hb hK hP hD hS 20 0 rfl rfl a rfl (by omega) (by decide) (rm_w ad cI cL cZ fi fl (va_up ai 20 (upd (rc_ti (fun q => rc_inrow (ai 14) q (rc_len (fi 2))) (ai 20) a) a (-1))) al) rfl dX5_stations_45 (fun H locs hP hD hS => ?_)
            refine lv_iinc (v := nI (a + 1)) (lv' := [(2, .int (nI (a + 1))), (0, .ref (ad 0)), (1, .int x)]) hx hb dX5_stations_46 hl (k := 2) rfl (nI_1 a) (by decide) rfl (fun ls hl => ?_)
            refine lv_goto (tgt := 21) hx hb dX5_stations_49 (by decide) ?_
            have e_21_0 : (rc_ti (fun q => rc_inrow (ai 14) q (rc_len (fi 2))) (ai 20) (a + 1)) = (upd (rc_ti (fun q => rc_inrow (ai 14) q (rc_len (fi 2))) (ai 20) a) a (-1)) := by first | rfl | (simp only [rc_ti, c_4, c_9, c_14, c_24, c_37, if_true, if_false, eq_self, not_true_eq_false, not_false_eq_true, ite_true, ite_false, ↓reduceIte]; done) | (simp [rc_ti, c_4, c_9, c_14, c_24, c_37]; done)
            refine ih_21 (a + 1) (10 - (a + 1)) H locs ls (by omega) ⟨rfl, (by omega), ?_, hS, ?_⟩
            · (try dsimp only); (try rw [e_21_0]); exact hP
            · (try dsimp only); (try rw [e_21_0]); exact lv_sub hl [1, 2, 0] rfl
          · skip
            have c_37 : ¬ ((rc_inrow (ai 14) (nI a) (rc_len (fi 2))) = 0) := c_37
            refine lv_iconst (v := 0) hx hb dX5_stations_40 (by decide) ?_
            refine lv_goto (tgt := 45) hx hb dX5_stations_41 (by decide) ?_
            refine am_iast hx hb hK hP hD hS 20 0 rfl rfl a rfl (by omega) (by decide) (rm_w ad cI cL cZ fi fl (va_up ai 20 (upd (rc_ti (fun q => rc_inrow (ai 14) q (rc_len (fi 2))) (ai 20) a) a 0)) al) rfl dX5_stations_45 (fun H locs hP hD hS => ?_)
            refine lv_iinc (v := nI (a + 1)) (lv' := [(2, .int (nI (a + 1))), (0, .ref (ad 0)), (1, .int x)]) hx hb dX5_stations_46 hl (k := 2) rfl (nI_1 a) (by decide) rfl (fun ls hl => ?_)
            refine lv_goto (tgt := 21) hx hb dX5_stations_49 (by decide) ?_
            have e_21_0 : (rc_ti (fun q => rc_inrow (ai 14) q (rc_len (fi 2))) (ai 20) (a + 1)) = (upd (rc_ti (fun q => rc_inrow (ai 14) q (rc_len (fi 2))) (ai 20) a) a 0) := by first | rfl | (simp only [rc_ti, c_4, c_9, c_14, c_24, c_37, if_true, if_false, eq_self, not_true_eq_false, not_false_eq_true, ite_true, ite_false, ↓reduceIte]; done) | (simp [rc_ti, c_4, c_9, c_14, c_24, c_37]; done)
            refine ih_21 (a + 1) (10 - (a + 1)) H locs ls (by omega) ⟨rfl, (by omega), ?_, hS, ?_⟩
            · (try dsimp only); (try rw [e_21_0]); exact hP
            · (try dsimp only); (try rw [e_21_0]); exact lv_sub hl [1, 2, 0] rfl
      · skip
        have c_14 : ¬ (x ≤ 4) := c_14
        refine lv_iconst (v := (-1)) hx hb dX5_stations_17 (by decide) ?_
        have hok : ¬ (rc_stOk (fi 2) x) := by first | rfl | (simp only [rc_stOk, c_4, c_9, c_14, if_true, if_false, eq_self, not_true_eq_false, not_false_eq_true, ite_true, ite_false, ↓reduceIte]; done) | (simp [rc_stOk, c_4, c_9, c_14]; done)
        exact am_iretM hx hb hr hlocks (by simp only [if_neg hok]; exact hP) hS (by rw [if_neg hok]; first | done | rfl) dX5_stations_18

