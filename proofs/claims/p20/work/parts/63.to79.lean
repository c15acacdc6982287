-- ===== the search over what was told =====
theorem pl_inj {j k b c : Nat} (hb : b < 10) (hc : c < 10) (hj : j ≤ 10) (hk : k ≤ 10) (h : ac_pl j b = ac_pl k c) : j = k ∧ b = c := by
  cases j with
  | zero => cases k with
    | zero => rw [ac_pl, ac_pl] at h; omega
    | succ k => rw [ac_pl, ac_pl] at h; omega
  | succ j => cases k with
    | zero => rw [ac_pl, ac_pl] at h; omega
    | succ k => rw [ac_pl, ac_pl] at h; omega
theorem ssi_at (cents : Nat → Nat → Int64) {b : Nat} (hb : b < 10) (f : Nat → Int64) : ∀ J, J ≤ 11 → (∀ j c, j ≤ 10 → c < 10 → ¬ c = b → ac_ssi cents b f J (ac_pl j c) = f (ac_pl j c)) ∧ ∀ j, j < J → ac_ssi cents b f J (ac_pl j b) = cents j b * 27720
  | 0, _ => ⟨fun _ _ _ _ _ => rfl, fun j hj => by omega⟩
  | J + 1, hJ => by
    obtain ⟨h1, h2⟩ := ssi_at cents hb f J (by omega)
    rw [ac_ssi]
    refine ⟨fun j c hj hc hcb => ?_, fun j hj => ?_⟩
    · rw [am_updL_n (fun z => hcb (pl_inj hc hb hj (by omega) z).2)]; exact h1 j c hj hc hcb
    · by_cases e : j = J
      · subst e; exact am_updL_s
      · rw [am_updL_n (fun z => e (pl_inj hb hb (by omega) (by omega) z).1)]; exact h2 j (by omega)
theorem sso_at (cents : Nat → Nat → Int64) {n : Nat} (hn : n ≤ 10) (f : Nat → Int64) : ∀ B, B ≤ n → ∀ b, b < B → ∀ j, j ≤ n → ac_sso cents n f B (ac_pl j b) = cents j b * 27720
  | 0, _, b, h => by omega
  | B + 1, hB, b, hb => by
    intro j hj
    obtain ⟨h1, h2⟩ := ssi_at cents (show B < 10 by omega) (ac_sso cents n f B) (n + 1) (by omega)
    rw [ac_sso]
    by_cases e : b = B
    · subst e; exact h2 j (by omega)
    · rw [h1 j b (by omega) (by omega) e]; exact sso_at cents hn f B (by omega) b (by omega) j hj
abbrev nd_dg (ch : Nat → Int64) : Prop := ∀ t, t < 6 → ch (7 * t) = 0
theorem leg_ok {to : Nat → Int32} {ch : Nat → Int64} {j b : Nat} (hj : rc_kind (to j)) (hb : rc_kind (to b)) (hd : nd_dg ch) : ch (to j * 6 + to b).toNatClampNeg = if to j = to b then 0 else ch (6 * to j + to b).toNatClampNeg := by
  obtain ⟨t, ht, et⟩ := hj
  obtain ⟨u, hu, eu⟩ := hb
  rw [Int32.mul_comm (to j) 6]
  by_cases c : to j = to b
  · rw [if_pos c, ← c, et, show (6 : Int32) * nI t + nI t = nI (7 * t) by rw [show (6 : Int32) = nI 6 from rfl, pk_mul, nI_add]; congr 1; omega, nI_clamp (by omega)]
    exact hd t ht
  · rw [if_neg c]
theorem cents_ok {to si : Nat → Int32} {ce ch tu : Nat → Int64} {n : Nat} (hto : ∀ a, a < n → rc_kind (to a)) (hsi : ∀ a, a < n → rc_kind (si a)) (hch : nd_dg ch) (htu : nd_dg tu) : ∀ j b, j ≤ n → b < n → ac_cents to si ce ch tu j b * 27720 = rc_step to si ce ch tu j b
  | 0, b, _, _ => Int64.mul_comm _ _
  | j + 1, b, hj, hb => by
    rw [ac_cents, rc_step, leg_ok (hto j (by omega)) (hto b hb) hch, leg_ok (hsi j (by omega)) (hsi b hb) htu, Int64.mul_comm]
theorem vals_at (wo sh f : Nat → Int64) : ∀ k p, p < k → ac_vals wo sh f k p = wo p * sh p
  | 0, p, h => by omega
  | k + 1, p, h => by
    rw [ac_vals]
    by_cases e : p = k
    · subst e; exact am_updL_s
    · rw [am_updL_n e]; exact vals_at wo sh f k p (by omega)
def lw_RG (fi : Nat → Int32) (fl : Nat → Int64) (ai : Nat → Nat → Int32) (al : Nat → Nat → Int64) (gi : Nat → Int32) (gl : Nat → Int64) (bi : Nat → Nat → Int32) (bl : Nat → Nat → Int64) : Prop := nd_fr (ai 5) (fi 0).toNatClampNeg ∧ nd_rp (ai 14) (fi 2).toNatClampNeg ∧ nd_dg (al 10) ∧ nd_dg (al 11) ∧ gi 7 = -1
theorem lw_RG0 : lw_RG (fun _ => 0) (fun _ => 0) ac_ai0 ac_al0 rc_fi0 (fun _ => 0) (rc_ai0 12) (fun _ _ => 0) :=
  ⟨fun a h => absurd h (Nat.not_lt_zero a), fun i j _ h => absurd h (Nat.not_lt_zero j), fun _ _ => rfl, fun _ _ => rfl, rfl⟩
theorem nd_fr_add {fr : Nat → Int32} {n : Nat} (h : nd_fr fr n) {x : Int32} (hx : x = -1 ∨ ¬ ac_isPart x = 0) : nd_fr (upd fr n x) (n + 1) := by
  intro a ha
  by_cases e : a = n
  · rw [show upd fr n x a = x from if_pos e]; exact hx.imp id am_isPart
  · rw [show upd fr n x a = fr a from if_neg e]; exact h a (by omega)
theorem nd_rp_add {rp : Nat → Int32} {nr : Nat} (h : nd_rp rp nr) (x : Int32) : nd_rp (upd rp (ac_place rp x nr 0) x) (if ac_place rp x nr 0 = nr then nr + 1 else nr) := by
  obtain ⟨h1, h2⟩ := place_ok rp x nr 0
  have hle := (ac_place_le rp x nr 0).2
  generalize hP : ac_place rp x nr 0 = P at h1 h2 hle ⊢
  intro i j hij hj
  by_cases c : P = nr
  · rw [if_pos c] at hj
    subst c
    rw [show upd rp P x i = rp i from if_neg (by omega)]
    by_cases e : j = P
    · rw [show upd rp P x j = x from if_pos e]; exact h1 i (by omega) (by omega)
    · rw [show upd rp P x j = rp j from if_neg e]; exact h i j hij (by omega)
  · rw [if_neg c] at hj
    have hx := h2 (by omega)
    have same : ∀ k, upd rp P x k = rp k := fun k => by
      by_cases e : k = P
      · rw [show upd rp P x k = x from if_pos e, e, hx]
      · exact if_neg e
    rw [same, same]; exact h i j hij hj
theorem nd_dg_upd {ch : Nat → Int64} (h : nd_dg ch) {x y : Int32} {z : Int64} (hok : ac_movOk x y z) : nd_dg (vp_updL ch (x * 6 + y).toNatClampNeg z) := by
  obtain ⟨h1, -⟩ := hok
  obtain ⟨⟨t, ht, rfl⟩, u, hu, rfl⟩ := am_isMove h1
  have hne : ¬ t = u := by
    intro e
    subst e
    refine h1 ?_
    unfold ac_isMove
    by_cases c : ac_isKind (nI t) = 0
    · rw [if_pos c]
    · rw [if_neg c, if_neg c, if_pos rfl]
  intro k hk
  rw [show nI t * 6 + nI u = nI (t * 6 + u) by rw [show (6 : Int32) = nI 6 from rfl, pk_mul, nI_add], nI_clamp (by omega), am_updL_n (by omega)]
  exact h k hk
/-- class and reference search over the same pieces -/
theorem S_of {na nr : Nat} {fi : Nat → Int32} {fl : Nat → Int64} {ai : Nat → Nat → Int32} {al : Nat → Nat → Int64} {gi : Nat → Int32} {gl : Nat → Int64} {bi : Nat → Nat → Int32} {bl : Nat → Nat → Int64} (hk : ac_K na nr fi ai) (hk2 : rc_K na nr gi bi bl) (hA : lw_RA fi fl ai al gi gl bi bl) (hD : nd_Rel (ai 9) (bi 6) na) (hG : lw_RG fi fl ai al gi gl bi bl) (f17 : Nat → Int64) {nd : Nat → Int32} {vR va : Nat → Int64} {tst tas : Int32}
    (hnd : nd_nd nd (bi 6) na) (hva : nd_va va (al 12) (bi 10) (bi 11) tst tas) (hvR : ∀ s, s < 2 ^ na → vR s = rc_val (bi 1) (bi 5) (bi 10) (bi 11) (bi 12) (bl 9) (bl 13) tst tas na nr (nI s)) :
    nd_S (ai 9) (bi 6) nd (ai 5) (ai 14) (rc_step (bi 2) (bi 3) (bl 4) (bl 7) (bl 8)) vR (al 15) va (ac_sso (ac_cents (ai 6) (ai 7) (al 8) (al 10) (al 11)) na f17 na) (fi 1) na nr := by
  have e1 : (fi 0).toNatClampNeg = na := by rw [hk.1]; exact nI_clamp (by have := hk.2.1; omega)
  have e2 : (fi 2).toNatClampNeg = nr := by rw [hk.2.2.1]; exact nI_clamp (by have := hk.2.2.2.1; omega)
  obtain ⟨g1, g2, g3, g4, -⟩ := hG
  rw [e1] at g1
  rw [e2] at g2
  refine ⟨hk.2.1, hD, hnd, rc_K_sp hk2, fun s hs => ?_, fun j b hj hb => ?_, fun s hs => ?_⟩
  · have := rc_va_ok (fr := bi 1) (br := bi 5) (be := bi 11) (rp := bi 12) (tst := tst) (tas := tas) (n := na) (f := fun _ => 0) (fun p _ => hk2.2.2.2.2.2.1 p) (fun p _ => hk2.2.1.2.2.1 p) (fun k _ => hk2.2.2.2.2.2.2 k) hk2.1.2.2.2.1 s hs
    rw [rc_vals_at _ _ _ _ hs] at this
    rw [hvR s hs]; exact this
  · rw [sso_at _ hk.2.1 f17 na (Nat.le_refl na) b hb j hj, hA.1.2.2.2.1, hA.1.2.2.2.2, hA.2.1.1, hA.2.1.2.1, hA.2.1.2.2.1]
    exact cents_ok hk.2.2.2.2.2.1 hk.2.2.2.2.2.2 g3 g4 j b hj hb
  · rw [hvR s hs, hA.1.2.2.1, hA.2.2.1.1, hA.2.1.2.2.2, hA.2.2.1.2]
    exact end_ok hk.2.1 g1 hA.2.2.2.1 hva g2 (nI s)
theorem va_told {na nr na2 nr2 : Nat} {fi : Nat → Int32} {fl : Nat → Int64} {ai : Nat → Nat → Int32} {al : Nat → Nat → Int64} {gi : Nat → Int32} {gl : Nat → Int64} {bi : Nat → Nat → Int32} {bl : Nat → Nat → Int64} (hk2 : rc_K na2 nr2 gi bi bl) (hA : lw_RA fi fl ai al gi gl bi bl) (f : Nat → Int64) (tas : Int32) : nd_va (ac_vals (al 12) (al 13) f 12) (al 12) (bi 10) (bi 11) (-1) tas := by
  intro p hp
  rw [vals_at _ _ _ 12 p hp, if_neg (nd_m1 hp), hA.2.2.2.2 p hp]
  exact lw_valE (by rw [← hA.2.1.2.2.2]; exact hk2.2.2.2.2.2.1 p) (hk2.2.1.2.2.1 p) (hk2.2.1.2.2.2 p hp)
theorem va_one {va wo : Nat → Int64} {ab be : Nat → Int32} {tst tas : Int32} {q : Nat} (hq : q < 12) (ht : tst = -1 ∨ tst = nI q) (h : nd_va va wo ab be tst tas) : nd_va (vp_updL va q (wo q * 27720)) wo ab be (nI q) 1 := by
  intro p hp
  by_cases e : p = q
  · subst e; rw [am_updL_s, if_pos rfl, if_pos rfl, Int64.mul_comm]
  · have hne : ¬ nI p = nI q := fun z => e ((nI_eq (by omega) (by omega)).mp z)
    rw [am_updL_n e, if_neg hne, h p hp, if_neg (fun z => ht.elim (fun w => nd_m1 hp (z.trans w)) (fun w => hne (z.trans w)))]
theorem va_none {va wo : Nat → Int64} {ab be : Nat → Int32} {tst tas : Int32} {q : Nat} (hq : q < 12) (ht : tst = -1 ∨ tst = nI q) (h : nd_va va wo ab be tst tas) : nd_va (vp_updL va q (wo q * 0)) wo ab be (nI q) 0 := by
  intro p hp
  by_cases e : p = q
  · subst e; rw [am_updL_s, if_pos rfl, if_neg (by decide), Int64.mul_zero]
  · have hne : ¬ nI p = nI q := fun z => e ((nI_eq (by omega) (by omega)).mp z)
    rw [am_updL_n e, if_neg hne, h p hp, if_neg (fun z => ht.elim (fun w => nd_m1 hp (z.trans w)) (fun w => hne (z.trans w)))]
set_option maxRecDepth 100000 in
theorem lrG_act {na nr na2 nr2 ln ln2 nt F9 : Nat} {fi : Nat → Int32} {fl : Nat → Int64} {ai : Nat → Nat → Int32} {al : Nat → Nat → Int64} {gi : Nat → Int32} {gl : Nat → Int64} {bi : Nat → Nat → Int32} {bl : Nat → Nat → Int64} (x : Int32) (t : Int32) (d : Int32) (z : Int64) (hk : ac_K na nr fi ai) (hk2 : rc_K na2 nr2 gi bi bl) (hA : lw_RA fi fl ai al gi gl bi bl) (hD : lw_RD fi fl ai al gi gl bi bl) (hF : lw_RF fi fl ai al gi gl bi bl) (hR : lw_RG fi fl ai al gi gl bi bl) (hX : ln ≤ 10 ∧ fi 5 = nI ln ∧ ln2 ≤ 10 ∧ (gi 2 = nI ln2 ∨ gi 2 = -1) ∧ nt ≤ 10 ∧ gi 5 = nI nt ∧ 1048576 ≤ F9) : lw_RG (upd (upd fi 0 (if ac_actOk (fi 0) x t d z then (fi 0) + 1 else (fi 0))) 4 (if ac_actOk (fi 0) x t d z then 0 else (fi 4))) fl (va_up (va_up (va_up ai 5 (if ac_actOk (fi 0) x t d z then upd (ai 5) na x else (ai 5))) 6 (if ac_actOk (fi 0) x t d z then upd (ai 6) na t else (ai 6))) 7 (if ac_actOk (fi 0) x t d z then upd (ai 7) na d else (ai 7))) (va_up al 8 (if ac_actOk (fi 0) x t d z then vp_updL (al 8) na z else (al 8))) (upd (upd gi 0 (if rc_actOk (gi 0) x t d z then (gi 0) + 1 else (gi 0))) 3 (if rc_actOk (gi 0) x t d z then 0 else (gi 3))) gl (va_up (va_up (va_up bi 1 (if rc_actOk (gi 0) x t d z then upd (bi 1) na2 x else (bi 1))) 2 (if rc_actOk (gi 0) x t d z then upd (bi 2) na2 t else (bi 2))) 3 (if rc_actOk (gi 0) x t d z then upd (bi 3) na2 d else (bi 3))) (va_up bl 4 (if rc_actOk (gi 0) x t d z then vp_updL (bl 4) na2 z else (bl 4))) := by
  have ecl : (fi 0).toNatClampNeg = na := by rw [hk.1]; exact nI_clamp (by have := hk.2.1; omega)
  by_cases c : ac_actOk (fi 0) x t d z
  · simp only [if_pos c]
    obtain ⟨g1, g2⟩ := hR
    rw [ecl] at g1
    have e1 : (fi 0 + 1).toNatClampNeg = na + 1 := by rw [hk.1, nI_1]; exact nI_clamp (by have := hk.2.1; omega)
    refine ⟨?_, g2⟩
    show nd_fr (upd (ai 5) na x) (fi 0 + 1).toNatClampNeg
    rw [e1]
    exact nd_fr_add g1 c.2.1
  · simp only [if_neg c]
    exact hR
set_option maxRecDepth 100000 in
theorem lrG_before {na nr na2 nr2 ln ln2 nt F9 : Nat} {fi : Nat → Int32} {fl : Nat → Int64} {ai : Nat → Nat → Int32} {al : Nat → Nat → Int64} {gi : Nat → Int32} {gl : Nat → Int64} {bi : Nat → Nat → Int32} {bl : Nat → Nat → Int64} (x : Int32) (y : Int32) (hk : ac_K na nr fi ai) (hk2 : rc_K na2 nr2 gi bi bl) (hA : lw_RA fi fl ai al gi gl bi bl) (hD : lw_RD fi fl ai al gi gl bi bl) (hF : lw_RF fi fl ai al gi gl bi bl) (hR : lw_RG fi fl ai al gi gl bi bl) (hX : ln ≤ 10 ∧ fi 5 = nI ln ∧ ln2 ≤ 10 ∧ (gi 2 = nI ln2 ∨ gi 2 = -1) ∧ nt ≤ 10 ∧ gi 5 = nI nt ∧ 1048576 ≤ F9) : lw_RG (upd fi 4 (if ac_befOk (fi 0) (ai 9) x y then 0 else (fi 4))) fl (va_up ai 9 (if ac_befOk (fi 0) (ai 9) x y then ac_addNeed ((ai 9) x.toNatClampNeg ||| ((1 : Int32) <<< (x &&& 31))) y (ai 9) na else (ai 9))) al (upd gi 3 (if rc_befOk (gi 0) (bi 6) na2 x y then 0 else (gi 3))) gl (va_up bi 6 (if rc_befOk (gi 0) (bi 6) na2 x y then upd (bi 6) (10 * y.toNatClampNeg + x.toNatClampNeg) 1 else (bi 6))) bl := by
  exact hR
set_option maxRecDepth 100000 in
theorem lrG_change {na nr na2 nr2 ln ln2 nt F9 : Nat} {fi : Nat → Int32} {fl : Nat → Int64} {ai : Nat → Nat → Int32} {al : Nat → Nat → Int64} {gi : Nat → Int32} {gl : Nat → Int64} {bi : Nat → Nat → Int32} {bl : Nat → Nat → Int64} (x : Int32) (y : Int32) (z : Int64) (hk : ac_K na nr fi ai) (hk2 : rc_K na2 nr2 gi bi bl) (hA : lw_RA fi fl ai al gi gl bi bl) (hD : lw_RD fi fl ai al gi gl bi bl) (hF : lw_RF fi fl ai al gi gl bi bl) (hR : lw_RG fi fl ai al gi gl bi bl) (hX : ln ≤ 10 ∧ fi 5 = nI ln ∧ ln2 ≤ 10 ∧ (gi 2 = nI ln2 ∨ gi 2 = -1) ∧ nt ≤ 10 ∧ gi 5 = nI nt ∧ 1048576 ≤ F9) : lw_RG (upd fi 4 (if ac_movOk x y z then 0 else (fi 4))) fl ai (va_up al 10 (if ac_movOk x y z then vp_updL (al 10) ((x * 6 + y).toNatClampNeg) z else (al 10))) (upd gi 3 (if rc_movOk x y z then 0 else (gi 3))) gl bi (va_up bl 7 (if rc_movOk x y z then vp_updL (bl 7) ((6 * x + y).toNatClampNeg) z else (bl 7))) := by
  by_cases c : ac_movOk x y z
  · simp only [if_pos c]
    exact ⟨hR.1, hR.2.1, nd_dg_upd hR.2.2.1 c, hR.2.2.2⟩
  · simp only [if_neg c]
    exact hR
set_option maxRecDepth 100000 in
theorem lrG_turn {na nr na2 nr2 ln ln2 nt F9 : Nat} {fi : Nat → Int32} {fl : Nat → Int64} {ai : Nat → Nat → Int32} {al : Nat → Nat → Int64} {gi : Nat → Int32} {gl : Nat → Int64} {bi : Nat → Nat → Int32} {bl : Nat → Nat → Int64} (x : Int32) (y : Int32) (z : Int64) (hk : ac_K na nr fi ai) (hk2 : rc_K na2 nr2 gi bi bl) (hA : lw_RA fi fl ai al gi gl bi bl) (hD : lw_RD fi fl ai al gi gl bi bl) (hF : lw_RF fi fl ai al gi gl bi bl) (hR : lw_RG fi fl ai al gi gl bi bl) (hX : ln ≤ 10 ∧ fi 5 = nI ln ∧ ln2 ≤ 10 ∧ (gi 2 = nI ln2 ∨ gi 2 = -1) ∧ nt ≤ 10 ∧ gi 5 = nI nt ∧ 1048576 ≤ F9) : lw_RG (upd fi 4 (if ac_movOk x y z then 0 else (fi 4))) fl ai (va_up al 11 (if ac_movOk x y z then vp_updL (al 11) ((x * 6 + y).toNatClampNeg) z else (al 11))) (upd gi 3 (if rc_movOk x y z then 0 else (gi 3))) gl bi (va_up bl 8 (if rc_movOk x y z then vp_updL (bl 8) ((6 * x + y).toNatClampNeg) z else (bl 8))) := by
  by_cases c : ac_movOk x y z
  · simp only [if_pos c]
    exact ⟨hR.1, hR.2.1, hR.2.2.1, nd_dg_upd hR.2.2.2.1 c, hR.2.2.2.2⟩
  · simp only [if_neg c]
    exact hR
set_option maxRecDepth 100000 in
theorem lrG_worth {na nr na2 nr2 ln ln2 nt F9 : Nat} {fi : Nat → Int32} {fl : Nat → Int64} {ai : Nat → Nat → Int32} {al : Nat → Nat → Int64} {gi : Nat → Int32} {gl : Nat → Int64} {bi : Nat → Nat → Int32} {bl : Nat → Nat → Int64} (x : Int32) (z : Int64) (hk : ac_K na nr fi ai) (hk2 : rc_K na2 nr2 gi bi bl) (hA : lw_RA fi fl ai al gi gl bi bl) (hD : lw_RD fi fl ai al gi gl bi bl) (hF : lw_RF fi fl ai al gi gl bi bl) (hR : lw_RG fi fl ai al gi gl bi bl) (hX : ln ≤ 10 ∧ fi 5 = nI ln ∧ ln2 ≤ 10 ∧ (gi 2 = nI ln2 ∨ gi 2 = -1) ∧ nt ≤ 10 ∧ gi 5 = nI nt ∧ 1048576 ≤ F9) : lw_RG (upd fi 4 (if ac_worOk x z then 0 else (fi 4))) fl ai (va_up al 12 (if ac_worOk x z then vp_updL (al 12) x.toNatClampNeg z else (al 12))) (upd gi 3 (if ac_worOk x z then 0 else (gi 3))) gl bi (va_up bl 9 (if ac_worOk x z then vp_updL (bl 9) x.toNatClampNeg z else (bl 9))) := by
  exact hR
set_option maxRecDepth 100000 in
theorem lrG_rest {na nr na2 nr2 ln ln2 nt F9 : Nat} {fi : Nat → Int32} {fl : Nat → Int64} {ai : Nat → Nat → Int32} {al : Nat → Nat → Int64} {gi : Nat → Int32} {gl : Nat → Int64} {bi : Nat → Nat → Int32} {bl : Nat → Nat → Int64} (v : Int64) (z : Int64) (hk : ac_K na nr fi ai) (hk2 : rc_K na2 nr2 gi bi bl) (hA : lw_RA fi fl ai al gi gl bi bl) (hD : lw_RD fi fl ai al gi gl bi bl) (hF : lw_RF fi fl ai al gi gl bi bl) (hR : lw_RG fi fl ai al gi gl bi bl) (hX : ln ≤ 10 ∧ fi 5 = nI ln ∧ ln2 ≤ 10 ∧ (gi 2 = nI ln2 ∨ gi 2 = -1) ∧ nt ≤ 10 ∧ gi 5 = nI nt ∧ 1048576 ≤ F9) : lw_RG (upd (upd fi 2 (if ac_rstOk v z (ac_place (ai 14) v.toInt32 nr 0) then if ac_place (ai 14) v.toInt32 nr 0 = nr then (fi 2) + 1 else (fi 2) else (fi 2))) 4 (if ac_rstOk v z (ac_place (ai 14) v.toInt32 nr 0) then 0 else (fi 4))) fl (va_up ai 14 (if ac_rstOk v z (ac_place (ai 14) v.toInt32 nr 0) then upd (ai 14) (ac_place (ai 14) v.toInt32 nr 0) v.toInt32 else (ai 14))) (va_up al 15 (if ac_rstOk v z (ac_place (ai 14) v.toInt32 nr 0) then vp_updL (al 15) (ac_place (ai 14) v.toInt32 nr 0) z else (al 15))) (upd (upd gi 1 (if rc_rstOk v z (rc_pl (bi 12) v nr2 0) then if rc_pl (bi 12) v nr2 0 = nr2 then (gi 1) + 1 else (gi 1) else (gi 1))) 3 (if rc_rstOk v z (rc_pl (bi 12) v nr2 0) then 0 else (gi 3))) gl (va_up bi 12 (if rc_rstOk v z (rc_pl (bi 12) v nr2 0) then upd (bi 12) (rc_pl (bi 12) v nr2 0) v.toInt32 else (bi 12))) (va_up bl 13 (if rc_rstOk v z (rc_pl (bi 12) v nr2 0) then vp_updL (bl 13) (rc_pl (bi 12) v nr2 0) z else (bl 13))) := by
  have ecr : (fi 2).toNatClampNeg = nr := by rw [hk.2.2.1]; exact nI_clamp (by have := hk.2.2.2.1; omega)
  by_cases c : ac_rstOk v z (ac_place (ai 14) v.toInt32 nr 0)
  · simp only [if_pos c]
    obtain ⟨g1, g2, g3⟩ := hR
    rw [ecr] at g2
    refine ⟨g1, ?_, g3⟩
    show nd_rp (upd (ai 14) (ac_place (ai 14) v.toInt32 nr 0) v.toInt32) (if ac_place (ai 14) v.toInt32 nr 0 = nr then (fi 2) + 1 else (fi 2)).toNatClampNeg
    have e2 : (if ac_place (ai 14) v.toInt32 nr 0 = nr then (fi 2) + 1 else (fi 2)).toNatClampNeg = if ac_place (ai 14) v.toInt32 nr 0 = nr then nr + 1 else nr := by
      have hb := hk.2.2.2.1
      split
      · rw [hk.2.2.1, nI_1]; exact nI_clamp (by omega)
      · exact ecr
    rw [e2]
    exact nd_rp_add g2 _
  · simp only [if_neg c]
    exact hR
set_option maxRecDepth 100000 in
theorem lrG_breaks {na nr na2 nr2 ln ln2 nt F9 : Nat} {fi : Nat → Int32} {fl : Nat → Int64} {ai : Nat → Nat → Int32} {al : Nat → Nat → Int64} {gi : Nat → Int32} {gl : Nat → Int64} {bi : Nat → Nat → Int32} {bl : Nat → Nat → Int64} (x : Int32) (hk : ac_K na nr fi ai) (hk2 : rc_K na2 nr2 gi bi bl) (hA : lw_RA fi fl ai al gi gl bi bl) (hD : lw_RD fi fl ai al gi gl bi bl) (hF : lw_RF fi fl ai al gi gl bi bl) (hR : lw_RG fi fl ai al gi gl bi bl) (hX : ln ≤ 10 ∧ fi 5 = nI ln ∧ ln2 ≤ 10 ∧ (gi 2 = nI ln2 ∨ gi 2 = -1) ∧ nt ≤ 10 ∧ gi 5 = nI nt ∧ 1048576 ≤ F9) : lw_RG (upd (upd fi 1 (if ac_brkOk (fi 0) (fi 1) x then (fi 1) ||| ((1 : Int32) <<< (x &&& 31)) else (fi 1))) 4 (if ac_brkOk (fi 0) (fi 1) x then 0 else (fi 4))) fl ai al (upd gi 3 (if rc_brkOk (gi 0) (bi 5) x then 0 else (gi 3))) gl (va_up bi 5 (if rc_brkOk (gi 0) (bi 5) x then upd (bi 5) x.toNatClampNeg 1 else (bi 5))) bl := by
  exact hR
set_option maxRecDepth 100000 in
theorem lrG_sure {na nr na2 nr2 ln ln2 nt F9 : Nat} {fi : Nat → Int32} {fl : Nat → Int64} {ai : Nat → Nat → Int32} {al : Nat → Nat → Int64} {gi : Nat → Int32} {gl : Nat → Int64} {bi : Nat → Nat → Int32} {bl : Nat → Nat → Int64} (x : Int32) (u : Int64) (v : Int64) (hk : ac_K na nr fi ai) (hk2 : rc_K na2 nr2 gi bi bl) (hA : lw_RA fi fl ai al gi gl bi bl) (hD : lw_RD fi fl ai al gi gl bi bl) (hF : lw_RF fi fl ai al gi gl bi bl) (hR : lw_RG fi fl ai al gi gl bi bl) (hX : ln ≤ 10 ∧ fi 5 = nI ln ∧ ln2 ≤ 10 ∧ (gi 2 = nI ln2 ∨ gi 2 = -1) ∧ nt ≤ 10 ∧ gi 5 = nI nt ∧ 1048576 ≤ F9) : lw_RG (upd fi 4 (if ac_surOk x u v then 0 else (fi 4))) fl ai (va_up al 13 (if ac_surOk x u v then vp_updL (al 13) x.toNatClampNeg (27720 / v * u) else (al 13))) (upd gi 3 (if ac_surOk x u v then 0 else (gi 3))) gl (va_up (va_up bi 10 (if ac_surOk x u v then upd (bi 10) x.toNatClampNeg u.toInt32 else (bi 10))) 11 (if ac_surOk x u v then upd (bi 11) x.toNatClampNeg v.toInt32 else (bi 11))) bl := by
  exact hR
set_option maxRecDepth 100000 in
theorem lrG_run {na nr na2 nr2 ln ln2 nt F9 : Nat} {fi : Nat → Int32} {fl : Nat → Int64} {ai : Nat → Nat → Int32} {al : Nat → Nat → Int64} {gi : Nat → Int32} {gl : Nat → Int64} {bi : Nat → Nat → Int32} {bl : Nat → Nat → Int64} (z : Int64) (hk : ac_K na nr fi ai) (hk2 : rc_K na2 nr2 gi bi bl) (hA : lw_RA fi fl ai al gi gl bi bl) (hD : lw_RD fi fl ai al gi gl bi bl) (hF : lw_RF fi fl ai al gi gl bi bl) (hR : lw_RG fi fl ai al gi gl bi bl) (hX : ln ≤ 10 ∧ fi 5 = nI ln ∧ ln2 ≤ 10 ∧ (gi 2 = nI ln2 ∨ gi 2 = -1) ∧ nt ≤ 10 ∧ gi 5 = nI nt ∧ 1048576 ≤ F9) : lw_RG (upd (upd (upd (upd (upd fi 3 (if ac_count (ai 9) na (2 ^ na - 1) ≤ z then 1 else (fi 3))) 4 (if ac_count (ai 9) na (2 ^ na - 1) ≤ z then 1 else (fi 4))) 5 (if ac_count (ai 9) na (2 ^ na - 1) ≤ z then (nI (ac_rk fi ai (va_up (va_up (va_up al 16 (ac_vals (al 12) (al 13) (al 16) 12)) 17 (ac_rs ai (va_up al 16 (ac_vals (al 12) (al 13) (al 16) 12)) na)) 18 (ac_rd fi ai (va_up al 16 (ac_vals (al 12) (al 13) (al 16) 12)) na nr)) na nr).2.1) else (fi 5))) 6 (if ac_count (ai 9) na (2 ^ na - 1) ≤ z then (nI (ac_rk fi ai (va_up (va_up (va_up al 16 (ac_vals (al 12) (al 13) (al 16) 12)) 17 (ac_rs ai (va_up al 16 (ac_vals (al 12) (al 13) (al 16) 12)) na)) 18 (ac_rd fi ai (va_up al 16 (ac_vals (al 12) (al 13) (al 16) 12)) na nr)) na nr).2.2) else (fi 6))) 7 (if ac_count (ai 9) na (2 ^ na - 1) ≤ z then (ac_freed (ai 5) (nI (ac_rk fi ai (va_up (va_up (va_up al 16 (ac_vals (al 12) (al 13) (al 16) 12)) 17 (ac_rs ai (va_up al 16 (ac_vals (al 12) (al 13) (al 16) 12)) na)) 18 (ac_rd fi ai (va_up al 16 (ac_vals (al 12) (al 13) (al 16) 12)) na nr)) na nr).2.2) na) else (fi 7))) (vp_updL fl 0 (if ac_count (ai 9) na (2 ^ na - 1) ≤ z then (ac_rg fi ai (va_up al 16 (ac_vals (al 12) (al 13) (al 16) 12)) na nr) else (fl 0))) (va_up ai 19 (if ac_count (ai 9) na (2 ^ na - 1) ≤ z then ((ac_rk fi ai (va_up (va_up (va_up al 16 (ac_vals (al 12) (al 13) (al 16) 12)) 17 (ac_rs ai (va_up al 16 (ac_vals (al 12) (al 13) (al 16) 12)) na)) 18 (ac_rd fi ai (va_up al 16 (ac_vals (al 12) (al 13) (al 16) 12)) na nr)) na nr).1) else (ai 19))) (va_up (va_up (va_up (va_up al 16 (if ac_count (ai 9) na (2 ^ na - 1) ≤ z then (ac_vals (al 12) (al 13) (al 16) 12) else (al 16))) 17 (if ac_count (ai 9) na (2 ^ na - 1) ≤ z then (ac_rs ai (va_up al 16 (ac_vals (al 12) (al 13) (al 16) 12)) na) else (al 17))) 18 (if ac_count (ai 9) na (2 ^ na - 1) ≤ z then (ac_rd fi ai (va_up al 16 (ac_vals (al 12) (al 13) (al 16) 12)) na nr) else (al 18))) 20 (if ac_count (ai 9) na (2 ^ na - 1) ≤ z then (ac_rb fi ai (va_up (va_up (va_up al 16 (ac_vals (al 12) (al 13) (al 16) 12)) 17 (ac_rs ai (va_up al 16 (ac_vals (al 12) (al 13) (al 16) 12)) na)) 18 (ac_rd fi ai (va_up al 16 (ac_vals (al 12) (al 13) (al 16) 12)) na nr)) na (nI (ac_rk fi ai (va_up (va_up (va_up al 16 (ac_vals (al 12) (al 13) (al 16) 12)) 17 (ac_rs ai (va_up al 16 (ac_vals (al 12) (al 13) (al 16) 12)) na)) 18 (ac_rd fi ai (va_up al 16 (ac_vals (al 12) (al 13) (al 16) 12)) na nr)) na nr).2.2)) else (al 20))) (upd (upd (upd (upd gi 2 (if rc_runOk (rc_st (bi 6) na2 (2 ^ na2 - 1)) z then nI (rc_runQ bi bl (gi 7) (gi 8) na2 nr2 F9).2.1 else (gi 2))) 3 (if rc_runOk (rc_st (bi 6) na2 (2 ^ na2 - 1)) z then 1 else (gi 3))) 4 (if rc_runOk (rc_st (bi 6) na2 (2 ^ na2 - 1)) z then rc_rest (bi 1) (nI (rc_runQ bi bl (gi 7) (gi 8) na2 nr2 F9).1) na2 else (gi 4))) 5 (if rc_runOk (rc_st (bi 6) na2 (2 ^ na2 - 1)) z then (gi 0) else (gi 5))) (vp_updL gl 0 (if rc_runOk (rc_st (bi 6) na2 (2 ^ na2 - 1)) z then (rc_bwQ bi bl (gi 7) (gi 8) na2 nr2).1 else (gl 0))) (va_up (va_up bi 14 (if rc_runOk (rc_st (bi 6) na2 (2 ^ na2 - 1)) z then (rc_runQ bi bl (gi 7) (gi 8) na2 nr2 F9).2.2.1 else (bi 14))) 17 (if rc_runOk (rc_st (bi 6) na2 (2 ^ na2 - 1)) z then rc_bwN bi na2 else (bi 17))) (va_up (va_up (va_up bl 15 (if rc_runOk (rc_st (bi 6) na2 (2 ^ na2 - 1)) z then rc_bro (rc_brings (bi 1) (bi 5) (bi 10) (bi 11) (bl 9) (gi 7) (gi 8) na2 (nI (rc_runQ bi bl (gi 7) (gi 8) na2 nr2 F9).1)) (bl 15) 12 else (bl 15))) 18 (if rc_runOk (rc_st (bi 6) na2 (2 ^ na2 - 1)) z then (rc_runQ bi bl (gi 7) (gi 8) na2 nr2 F9).2.2.2 else (bl 18))) 19 (if rc_runOk (rc_st (bi 6) na2 (2 ^ na2 - 1)) z then rc_bwV bi bl (gi 7) (gi 8) na2 nr2 else (bl 19))) := by
  exact hR
set_option maxRecDepth 100000 in
theorem lrG_test {na nr na2 nr2 ln ln2 nt F9 : Nat} {fi : Nat → Int32} {fl : Nat → Int64} {ai : Nat → Nat → Int32} {al : Nat → Nat → Int64} {gi : Nat → Int32} {gl : Nat → Int64} {bi : Nat → Nat → Int32} {bl : Nat → Nat → Int64} (x : Int32) (z : Int64) (hk : ac_K na nr fi ai) (hk2 : rc_K na2 nr2 gi bi bl) (hA : lw_RA fi fl ai al gi gl bi bl) (hD : lw_RD fi fl ai al gi gl bi bl) (hF : lw_RF fi fl ai al gi gl bi bl) (hR : lw_RG fi fl ai al gi gl bi bl) (hX : ln ≤ 10 ∧ fi 5 = nI ln ∧ ln2 ≤ 10 ∧ (gi 2 = nI ln2 ∨ gi 2 = -1) ∧ nt ≤ 10 ∧ gi 5 = nI nt ∧ 1048576 ≤ F9) : lw_RG fi fl ai (va_up (va_up (va_up al 16 (if ac_tstOk x z then (vp_updL (vp_updL (ac_vals (al 12) (al 13) (al 16) 12) x.toNatClampNeg ((al 12) x.toNatClampNeg * 27720)) x.toNatClampNeg ((al 12) x.toNatClampNeg * 0)) else (al 16))) 17 (if ac_tstOk x z then (ac_rs ai (va_up (va_up (va_up al 16 (vp_updL (vp_updL (ac_vals (al 12) (al 13) (al 16) 12) x.toNatClampNeg ((al 12) x.toNatClampNeg * 27720)) x.toNatClampNeg ((al 12) x.toNatClampNeg * 0))) 17 (ac_rs ai (va_up (va_up (va_up al 16 (vp_updL (ac_vals (al 12) (al 13) (al 16) 12) x.toNatClampNeg ((al 12) x.toNatClampNeg * 27720))) 17 (ac_rs ai (va_up al 16 (ac_vals (al 12) (al 13) (al 16) 12)) na)) 18 (ac_rd fi ai (va_up al 16 (ac_vals (al 12) (al 13) (al 16) 12)) na nr)) na)) 18 (ac_rd fi ai (va_up (va_up (va_up al 16 (vp_updL (ac_vals (al 12) (al 13) (al 16) 12) x.toNatClampNeg ((al 12) x.toNatClampNeg * 27720))) 17 (ac_rs ai (va_up al 16 (ac_vals (al 12) (al 13) (al 16) 12)) na)) 18 (ac_rd fi ai (va_up al 16 (ac_vals (al 12) (al 13) (al 16) 12)) na nr)) na nr)) na) else (al 17))) 18 (if ac_tstOk x z then (ac_rd fi ai (va_up (va_up (va_up al 16 (vp_updL (vp_updL (ac_vals (al 12) (al 13) (al 16) 12) x.toNatClampNeg ((al 12) x.toNatClampNeg * 27720)) x.toNatClampNeg ((al 12) x.toNatClampNeg * 0))) 17 (ac_rs ai (va_up (va_up (va_up al 16 (vp_updL (ac_vals (al 12) (al 13) (al 16) 12) x.toNatClampNeg ((al 12) x.toNatClampNeg * 27720))) 17 (ac_rs ai (va_up al 16 (ac_vals (al 12) (al 13) (al 16) 12)) na)) 18 (ac_rd fi ai (va_up al 16 (ac_vals (al 12) (al 13) (al 16) 12)) na nr)) na)) 18 (ac_rd fi ai (va_up (va_up (va_up al 16 (vp_updL (ac_vals (al 12) (al 13) (al 16) 12) x.toNatClampNeg ((al 12) x.toNatClampNeg * 27720))) 17 (ac_rs ai (va_up al 16 (ac_vals (al 12) (al 13) (al 16) 12)) na)) 18 (ac_rd fi ai (va_up al 16 (ac_vals (al 12) (al 13) (al 16) 12)) na nr)) na nr)) na nr) else (al 18))) (upd (upd gi 7 (if ac_tstOk x z then (-1) else (gi 7))) 8 (if ac_tstOk x z then 0 else (gi 8))) gl (va_up bi 17 (if ac_tstOk x z then (rc_bwA (rc_bwA (rc_bwA bi na2) na2) na2) 17 else (bi 17))) (va_up (va_up bl 18 (if ac_tstOk x z then (rc_bwL (rc_bwA (rc_bwA bi na2) na2) (rc_bwL (rc_bwA bi na2) (rc_bwL bi bl (-1) 0 na2 nr2) x 1 na2 nr2) x 0 na2 nr2) 18 else (bl 18))) 19 (if ac_tstOk x z then (rc_bwL (rc_bwA (rc_bwA bi na2) na2) (rc_bwL (rc_bwA bi na2) (rc_bwL bi bl (-1) 0 na2 nr2) x 1 na2 nr2) x 0 na2 nr2) 19 else (bl 19))) := by
  by_cases c : ac_tstOk x z
  · simp only [if_pos c]
    exact ⟨hR.1, hR.2.1, hR.2.2.1, hR.2.2.2.1, rfl⟩
  · simp only [if_neg c]
    exact hR
set_option maxRecDepth 100000 in
theorem lrG_stations {na nr na2 nr2 ln ln2 nt F9 : Nat} {fi : Nat → Int32} {fl : Nat → Int64} {ai : Nat → Nat → Int32} {al : Nat → Nat → Int64} {gi : Nat → Int32} {gl : Nat → Int64} {bi : Nat → Nat → Int32} {bl : Nat → Nat → Int64} (x : Int32) (hk : ac_K na nr fi ai) (hk2 : rc_K na2 nr2 gi bi bl) (hA : lw_RA fi fl ai al gi gl bi bl) (hD : lw_RD fi fl ai al gi gl bi bl) (hF : lw_RF fi fl ai al gi gl bi bl) (hR : lw_RG fi fl ai al gi gl bi bl) (hX : ln ≤ 10 ∧ fi 5 = nI ln ∧ ln2 ≤ 10 ∧ (gi 2 = nI ln2 ∨ gi 2 = -1) ∧ nt ≤ 10 ∧ gi 5 = nI nt ∧ 1048576 ≤ F9) : lw_RG (upd (upd fi 8 (if ac_stOk (fi 3) x then (fi 6) else (fi 8))) 9 (if ac_stOk (fi 3) x then (nI x.toNatClampNeg) else (fi 9))) (vp_updL (vp_updL fl 1 (if ac_stOk (fi 3) x then ((ac_try (al 8) (ai 9) (fi 6) (nI x.toNatClampNeg) (ac_least (al 8) (fi 6) (nI x.toNatClampNeg) na) na na 0 0 ((ai 21), (ai 22), (ac_fillL 0 (al 23) 4), (ac_tot (al 8) (fi 6) na + 1))).2.2.2) else (fl 1))) 2 (if ac_stOk (fi 3) x then (ac_least (al 8) (fi 6) (nI x.toNatClampNeg) na) else (fl 2))) (va_up (va_up ai 21 (if ac_stOk (fi 3) x then ((ac_try (al 8) (ai 9) (fi 6) (nI x.toNatClampNeg) (ac_least (al 8) (fi 6) (nI x.toNatClampNeg) na) na na 0 0 ((ai 21), (ai 22), (ac_fillL 0 (al 23) 4), (ac_tot (al 8) (fi 6) na + 1))).1) else (ai 21))) 22 (if ac_stOk (fi 3) x then ((ac_try (al 8) (ai 9) (fi 6) (nI x.toNatClampNeg) (ac_least (al 8) (fi 6) (nI x.toNatClampNeg) na) na na 0 0 ((ai 21), (ai 22), (ac_fillL 0 (al 23) 4), (ac_tot (al 8) (fi 6) na + 1))).2.1) else (ai 22))) (va_up al 23 (if ac_stOk (fi 3) x then ((ac_try (al 8) (ai 9) (fi 6) (nI x.toNatClampNeg) (ac_least (al 8) (fi 6) (nI x.toNatClampNeg) na) na na 0 0 ((ai 21), (ai 22), (ac_fillL 0 (al 23) 4), (ac_tot (al 8) (fi 6) na + 1))).2.2.1) else (al 23))) (upd gi 6 (if rc_stOk (gi 2) x then 1 else (gi 6))) gl (va_up (va_up (va_up bi 16 (if rc_stOk (gi 2) x then (rc_sR bi (bl 4) (gi 2) na2 (x.toNatClampNeg) F9).2.2 else (bi 16))) 20 (if rc_stOk (gi 2) x then (rc_sR bi (bl 4) (gi 2) na2 (x.toNatClampNeg) F9).2.1 else (bi 20))) 21 (if rc_stOk (gi 2) x then rc_sB bi na2 else (bi 21))) bl := by
  exact hR
-- ===== what was found =====
def lw_RN (fi : Nat → Int32) (fl : Nat → Int64) (ai : Nat → Nat → Int32) (al : Nat → Nat → Int64) (gi : Nat → Int32) (gl : Nat → Int64) (bi : Nat → Nat → Int32) (bl : Nat → Nat → Int64) : Prop := ai 19 = bi 14 ∧ ((fi 3 = 0 ∧ gi 2 = -1 ∧ fi 5 = 0 ∧ fl 0 = 0 ∧ ∀ p, p < 12 → al 20 p = 0) ∨
  (¬ fi 3 = 0 ∧ ¬ gi 2 < 0 ∧ gi 2 = fi 5 ∧ gl 0 = fl 0 ∧ (∀ p, p < 12 → al 20 p = bl 15 p) ∧ gi 4 = 4095 &&& (fi 7 ^^^ (-1))))
theorem lw_RN0 : lw_RN (fun _ => 0) (fun _ => 0) ac_ai0 ac_al0 rc_fi0 (fun _ => 0) (rc_ai0 12) (fun _ _ => 0) := ⟨rfl, Or.inl ⟨rfl, rfl, rfl, rfl, fun _ _ => rfl⟩⟩
theorem brg_at (va : Nat → Int64) (wh : Int32) (br : Nat → Int64) : ∀ k p, p < k → ac_brg va wh br k p = if ac_has wh (nI p) = 0 then 0 else va p
  | 0, p, h => by omega
  | k + 1, p, h => by
    rw [ac_brg]
    by_cases e : p = k
    · subst e
      by_cases c : ac_has wh (nI p) = 0
      · rw [if_pos c, if_pos c]; exact am_updL_s
      · rw [if_neg c, if_neg c]; exact am_updL_s
    · have ih := brg_at va wh br k p (by omega)
      by_cases c : ac_has wh (nI k) = 0
      · rw [if_pos c, am_updL_n e]; exact ih
      · rw [if_neg c, am_updL_n e]; exact ih
theorem bro_at (g f : Nat → Int64) : ∀ k p, p < k → rc_bro g f k p = g p
  | 0, p, h => by omega
  | k + 1, p, h => by
    rw [rc_bro]
    by_cases e : p = k
    · subst e; exact am_updL_s
    · rw [am_updL_n e]; exact bro_at g f k p (by omega)
set_option maxRecDepth 100000 in
theorem run_all {na nr F9 : Nat} {fi : Nat → Int32} {fl : Nat → Int64} {ai : Nat → Nat → Int32} {al : Nat → Nat → Int64} {gi : Nat → Int32} {gl : Nat → Int64} {bi : Nat → Nat → Int32} {bl : Nat → Nat → Int64} (hk : ac_K na nr fi ai) (hk2 : rc_K na nr gi bi bl) (hA : lw_RA fi fl ai al gi gl bi bl) (hD : nd_Rel (ai 9) (bi 6) na) (hG : lw_RG fi fl ai al gi gl bi bl) (hrow : ai 19 = bi 14) (hF9 : 1048576 ≤ F9) :
    (ac_rk fi ai (va_up (va_up (va_up al 16 (ac_vals (al 12) (al 13) (al 16) 12)) 17 (ac_rs ai (va_up al 16 (ac_vals (al 12) (al 13) (al 16) 12)) na)) 18 (ac_rd fi ai (va_up al 16 (ac_vals (al 12) (al 13) (al 16) 12)) na nr)) na nr = ((rc_runQ bi bl (gi 7) (gi 8) na nr F9).2.2.1, (rc_runQ bi bl (gi 7) (gi 8) na nr F9).2.1, (rc_runQ bi bl (gi 7) (gi 8) na nr F9).1)) ∧
    ac_rg fi ai (va_up al 16 (ac_vals (al 12) (al 13) (al 16) 12)) na nr = (rc_bwQ bi bl (gi 7) (gi 8) na nr).1 ∧
    (∀ s p, p < 12 → ac_rb fi ai (va_up (va_up (va_up al 16 (ac_vals (al 12) (al 13) (al 16) 12)) 17 (ac_rs ai (va_up al 16 (ac_vals (al 12) (al 13) (al 16) 12)) na)) 18 (ac_rd fi ai (va_up al 16 (ac_vals (al 12) (al 13) (al 16) 12)) na nr)) na s p = rc_bro (rc_brings (bi 1) (bi 5) (bi 10) (bi 11) (bl 9) (gi 7) (gi 8) na s) (bl 15) 12 p) ∧
    (∀ s, rc_rest (bi 1) s na = 4095 &&& (ac_freed (ai 5) s na ^^^ (-1))) := by
  have e1 : (fi 0).toNatClampNeg = na := by rw [hk.1]; exact nI_clamp (by have := hk.2.1; omega)
  have hp := am_p2 hk.2.1
  have hfr : nd_fr (ai 5) na := by rw [← e1]; exact hG.1
  have hva : nd_va (ac_vals (al 12) (al 13) (al 16) 12) (al 12) (bi 10) (bi 11) (gi 7) (gi 8) := by rw [hG.2.2.2.2]; exact va_told (na := na) (nr := nr) hk2 hA _ _
  have H := S_of hk hk2 hA hD hG (al 17) (nd := rc_bwN bi na) (vR := rc_bwV bi bl (gi 7) (gi 8) na nr) (no_at (bi 6) hk.2.1 (bi 17) na (Nat.le_refl na)) hva (fun s hs => rc_vals_at _ _ _ _ hs)
  have e0 : (0 : Int64).toInt = 0 := by decide +kernel
  refine ⟨?_, gain_ok H (al 18) (bl 18), fun s p hp12 => ?_, fun s => ?_⟩
  · have hB := rc_best_ok (nd := rc_bwN bi na) (z := 0) (s0 := 0) (j := 0) H.1 H.2.2.2.1 H.2.2.2.2.1 (by omega) (by omega) (by rw [e0]; omega) (by rw [e0]; omega) (bl 18)
    have h := row_ok H (al 18) (v := (rc_bwQ bi bl (gi 7) (gi 8) na nr).1) 10 F9 0 0 0 0 (ai 19) (rc_bwQ bi bl (gi 7) (gi 8) na nr).2 (by decide) (by omega) (by omega) (by omega) (cl_0 (bi 6) na hk.2.1) (by rw [e0]; omega) (by rw [e0]; omega) hB
    unfold rc_runQ
    rw [← hrow]
    exact h
  · show ac_brg (ac_vals (al 12) (al 13) (al 16) 12) (ac_whole (ai 5) (fi 1) na s) (al 20) 12 p = _
    rw [brg_at _ _ _ 12 p hp12, bro_at _ _ 12 p hp12, hA.1.2.2.1, hA.2.1.2.2.2]
    exact (brings_ok hk.2.1 hfr hA.2.2.2.1 hva s hp12).symm
  · rw [hA.1.2.2.1]; exact rest_ok hk.2.1 hfr s
theorem step_0 (x : Int32) (r : Nat → Int32) : ac_step 0 r x = -1 := by
  unfold ac_step
  by_cases c : x < 0
  · rw [if_pos c]
  · rw [if_neg c, if_pos (Int32.le_iff_toInt_le.mpr (Int.not_lt.mp (fun h => c (Int32.lt_iff_toInt_lt.mpr h))))]
theorem step_m1 (x : Int32) (r : Nat → Int32) : ac_step (-1) r x = -1 := by
  unfold ac_step
  by_cases c : x < 0
  · rw [if_pos c]
  · rw [if_neg c, if_pos (am_m1le c)]
theorem stops_eq {op len key : Int32} (hl : ¬ len < 0) : ∀ m k c, k + m ≤ 12 → ac_mem op key m k c = rc_stops op len key m k c
  | 0, k, c, _ => rfl
  | m + 1, k, c, h => by
    rw [ac_mem, rc_stops, if_neg hl]
    by_cases d : ac_has op (nI k) = 0
    · rw [if_pos d, if_pos ((rc_has_bt op (by omega)).mpr ((ac_has_bt op (by omega)).mp d))]; exact stops_eq hl m (k + 1) c (by omega)
    · rw [if_neg d, if_neg (fun z => d ((ac_has_bt op (by omega)).mpr ((rc_has_bt op (by omega)).mp z))), stops_eq hl m (k + 1) (c + 1) (by omega)]
set_option maxRecDepth 100000 in
theorem lrN_act {na nr na2 nr2 ln ln2 nt F9 : Nat} {fi : Nat → Int32} {fl : Nat → Int64} {ai : Nat → Nat → Int32} {al : Nat → Nat → Int64} {gi : Nat → Int32} {gl : Nat → Int64} {bi : Nat → Nat → Int32} {bl : Nat → Nat → Int64} (x : Int32) (t : Int32) (d : Int32) (z : Int64) (hk : ac_K na nr fi ai) (hk2 : rc_K na2 nr2 gi bi bl) (hA : lw_RA fi fl ai al gi gl bi bl) (hD : lw_RD fi fl ai al gi gl bi bl) (hF : lw_RF fi fl ai al gi gl bi bl) (hG : lw_RG fi fl ai al gi gl bi bl) (hR : lw_RN fi fl ai al gi gl bi bl) (hX : ln ≤ 10 ∧ fi 5 = nI ln ∧ ln2 ≤ 10 ∧ (gi 2 = nI ln2 ∨ gi 2 = -1) ∧ nt ≤ 10 ∧ gi 5 = nI nt ∧ 1048576 ≤ F9) : lw_RN (upd (upd fi 0 (if ac_actOk (fi 0) x t d z then (fi 0) + 1 else (fi 0))) 4 (if ac_actOk (fi 0) x t d z then 0 else (fi 4))) fl (va_up (va_up (va_up ai 5 (if ac_actOk (fi 0) x t d z then upd (ai 5) na x else (ai 5))) 6 (if ac_actOk (fi 0) x t d z then upd (ai 6) na t else (ai 6))) 7 (if ac_actOk (fi 0) x t d z then upd (ai 7) na d else (ai 7))) (va_up al 8 (if ac_actOk (fi 0) x t d z then vp_updL (al 8) na z else (al 8))) (upd (upd gi 0 (if rc_actOk (gi 0) x t d z then (gi 0) + 1 else (gi 0))) 3 (if rc_actOk (gi 0) x t d z then 0 else (gi 3))) gl (va_up (va_up (va_up bi 1 (if rc_actOk (gi 0) x t d z then upd (bi 1) na2 x else (bi 1))) 2 (if rc_actOk (gi 0) x t d z then upd (bi 2) na2 t else (bi 2))) 3 (if rc_actOk (gi 0) x t d z then upd (bi 3) na2 d else (bi 3))) (va_up bl 4 (if rc_actOk (gi 0) x t d z then vp_updL (bl 4) na2 z else (bl 4))) := by
  exact hR
set_option maxRecDepth 100000 in
theorem lrN_before {na nr na2 nr2 ln ln2 nt F9 : Nat} {fi : Nat → Int32} {fl : Nat → Int64} {ai : Nat → Nat → Int32} {al : Nat → Nat → Int64} {gi : Nat → Int32} {gl : Nat → Int64} {bi : Nat → Nat → Int32} {bl : Nat → Nat → Int64} (x : Int32) (y : Int32) (hk : ac_K na nr fi ai) (hk2 : rc_K na2 nr2 gi bi bl) (hA : lw_RA fi fl ai al gi gl bi bl) (hD : lw_RD fi fl ai al gi gl bi bl) (hF : lw_RF fi fl ai al gi gl bi bl) (hG : lw_RG fi fl ai al gi gl bi bl) (hR : lw_RN fi fl ai al gi gl bi bl) (hX : ln ≤ 10 ∧ fi 5 = nI ln ∧ ln2 ≤ 10 ∧ (gi 2 = nI ln2 ∨ gi 2 = -1) ∧ nt ≤ 10 ∧ gi 5 = nI nt ∧ 1048576 ≤ F9) : lw_RN (upd fi 4 (if ac_befOk (fi 0) (ai 9) x y then 0 else (fi 4))) fl (va_up ai 9 (if ac_befOk (fi 0) (ai 9) x y then ac_addNeed ((ai 9) x.toNatClampNeg ||| ((1 : Int32) <<< (x &&& 31))) y (ai 9) na else (ai 9))) al (upd gi 3 (if rc_befOk (gi 0) (bi 6) na2 x y then 0 else (gi 3))) gl (va_up bi 6 (if rc_befOk (gi 0) (bi 6) na2 x y then upd (bi 6) (10 * y.toNatClampNeg + x.toNatClampNeg) 1 else (bi 6))) bl := by
  exact hR
set_option maxRecDepth 100000 in
theorem lrN_change {na nr na2 nr2 ln ln2 nt F9 : Nat} {fi : Nat → Int32} {fl : Nat → Int64} {ai : Nat → Nat → Int32} {al : Nat → Nat → Int64} {gi : Nat → Int32} {gl : Nat → Int64} {bi : Nat → Nat → Int32} {bl : Nat → Nat → Int64} (x : Int32) (y : Int32) (z : Int64) (hk : ac_K na nr fi ai) (hk2 : rc_K na2 nr2 gi bi bl) (hA : lw_RA fi fl ai al gi gl bi bl) (hD : lw_RD fi fl ai al gi gl bi bl) (hF : lw_RF fi fl ai al gi gl bi bl) (hG : lw_RG fi fl ai al gi gl bi bl) (hR : lw_RN fi fl ai al gi gl bi bl) (hX : ln ≤ 10 ∧ fi 5 = nI ln ∧ ln2 ≤ 10 ∧ (gi 2 = nI ln2 ∨ gi 2 = -1) ∧ nt ≤ 10 ∧ gi 5 = nI nt ∧ 1048576 ≤ F9) : lw_RN (upd fi 4 (if ac_movOk x y z then 0 else (fi 4))) fl ai (va_up al 10 (if ac_movOk x y z then vp_updL (al 10) ((x * 6 + y).toNatClampNeg) z else (al 10))) (upd gi 3 (if rc_movOk x y z then 0 else (gi 3))) gl bi (va_up bl 7 (if rc_movOk x y z then vp_updL (bl 7) ((6 * x + y).toNatClampNeg) z else (bl 7))) := by
  exact hR
set_option maxRecDepth 100000 in
theorem lrN_turn {na nr na2 nr2 ln ln2 nt F9 : Nat} {fi : Nat → Int32} {fl : Nat → Int64} {ai : Nat → Nat → Int32} {al : Nat → Nat → Int64} {gi : Nat → Int32} {gl : Nat → Int64} {bi : Nat → Nat → Int32} {bl : Nat → Nat → Int64} (x : Int32) (y : Int32) (z : Int64) (hk : ac_K na nr fi ai) (hk2 : rc_K na2 nr2 gi bi bl) (hA : lw_RA fi fl ai al gi gl bi bl) (hD : lw_RD fi fl ai al gi gl bi bl) (hF : lw_RF fi fl ai al gi gl bi bl) (hG : lw_RG fi fl ai al gi gl bi bl) (hR : lw_RN fi fl ai al gi gl bi bl) (hX : ln ≤ 10 ∧ fi 5 = nI ln ∧ ln2 ≤ 10 ∧ (gi 2 = nI ln2 ∨ gi 2 = -1) ∧ nt ≤ 10 ∧ gi 5 = nI nt ∧ 1048576 ≤ F9) : lw_RN (upd fi 4 (if ac_movOk x y z then 0 else (fi 4))) fl ai (va_up al 11 (if ac_movOk x y z then vp_updL (al 11) ((x * 6 + y).toNatClampNeg) z else (al 11))) (upd gi 3 (if rc_movOk x y z then 0 else (gi 3))) gl bi (va_up bl 8 (if rc_movOk x y z then vp_updL (bl 8) ((6 * x + y).toNatClampNeg) z else (bl 8))) := by
  exact hR
set_option maxRecDepth 100000 in
theorem lrN_worth {na nr na2 nr2 ln ln2 nt F9 : Nat} {fi : Nat → Int32} {fl : Nat → Int64} {ai : Nat → Nat → Int32} {al : Nat → Nat → Int64} {gi : Nat → Int32} {gl : Nat → Int64} {bi : Nat → Nat → Int32} {bl : Nat → Nat → Int64} (x : Int32) (z : Int64) (hk : ac_K na nr fi ai) (hk2 : rc_K na2 nr2 gi bi bl) (hA : lw_RA fi fl ai al gi gl bi bl) (hD : lw_RD fi fl ai al gi gl bi bl) (hF : lw_RF fi fl ai al gi gl bi bl) (hG : lw_RG fi fl ai al gi gl bi bl) (hR : lw_RN fi fl ai al gi gl bi bl) (hX : ln ≤ 10 ∧ fi 5 = nI ln ∧ ln2 ≤ 10 ∧ (gi 2 = nI ln2 ∨ gi 2 = -1) ∧ nt ≤ 10 ∧ gi 5 = nI nt ∧ 1048576 ≤ F9) : lw_RN (upd fi 4 (if ac_worOk x z then 0 else (fi 4))) fl ai (va_up al 12 (if ac_worOk x z then vp_updL (al 12) x.toNatClampNeg z else (al 12))) (upd gi 3 (if ac_worOk x z then 0 else (gi 3))) gl bi (va_up bl 9 (if ac_worOk x z then vp_updL (bl 9) x.toNatClampNeg z else (bl 9))) := by
  exact hR
set_option maxRecDepth 100000 in
theorem lrN_rest {na nr na2 nr2 ln ln2 nt F9 : Nat} {fi : Nat → Int32} {fl : Nat → Int64} {ai : Nat → Nat → Int32} {al : Nat → Nat → Int64} {gi : Nat → Int32} {gl : Nat → Int64} {bi : Nat → Nat → Int32} {bl : Nat → Nat → Int64} (v : Int64) (z : Int64) (hk : ac_K na nr fi ai) (hk2 : rc_K na2 nr2 gi bi bl) (hA : lw_RA fi fl ai al gi gl bi bl) (hD : lw_RD fi fl ai al gi gl bi bl) (hF : lw_RF fi fl ai al gi gl bi bl) (hG : lw_RG fi fl ai al gi gl bi bl) (hR : lw_RN fi fl ai al gi gl bi bl) (hX : ln ≤ 10 ∧ fi 5 = nI ln ∧ ln2 ≤ 10 ∧ (gi 2 = nI ln2 ∨ gi 2 = -1) ∧ nt ≤ 10 ∧ gi 5 = nI nt ∧ 1048576 ≤ F9) : lw_RN (upd (upd fi 2 (if ac_rstOk v z (ac_place (ai 14) v.toInt32 nr 0) then if ac_place (ai 14) v.toInt32 nr 0 = nr then (fi 2) + 1 else (fi 2) else (fi 2))) 4 (if ac_rstOk v z (ac_place (ai 14) v.toInt32 nr 0) then 0 else (fi 4))) fl (va_up ai 14 (if ac_rstOk v z (ac_place (ai 14) v.toInt32 nr 0) then upd (ai 14) (ac_place (ai 14) v.toInt32 nr 0) v.toInt32 else (ai 14))) (va_up al 15 (if ac_rstOk v z (ac_place (ai 14) v.toInt32 nr 0) then vp_updL (al 15) (ac_place (ai 14) v.toInt32 nr 0) z else (al 15))) (upd (upd gi 1 (if rc_rstOk v z (rc_pl (bi 12) v nr2 0) then if rc_pl (bi 12) v nr2 0 = nr2 then (gi 1) + 1 else (gi 1) else (gi 1))) 3 (if rc_rstOk v z (rc_pl (bi 12) v nr2 0) then 0 else (gi 3))) gl (va_up bi 12 (if rc_rstOk v z (rc_pl (bi 12) v nr2 0) then upd (bi 12) (rc_pl (bi 12) v nr2 0) v.toInt32 else (bi 12))) (va_up bl 13 (if rc_rstOk v z (rc_pl (bi 12) v nr2 0) then vp_updL (bl 13) (rc_pl (bi 12) v nr2 0) z else (bl 13))) := by
  exact hR
set_option maxRecDepth 100000 in
theorem lrN_breaks {na nr na2 nr2 ln ln2 nt F9 : Nat} {fi : Nat → Int32} {fl : Nat → Int64} {ai : Nat → Nat → Int32} {al : Nat → Nat → Int64} {gi : Nat → Int32} {gl : Nat → Int64} {bi : Nat → Nat → Int32} {bl : Nat → Nat → Int64} (x : Int32) (hk : ac_K na nr fi ai) (hk2 : rc_K na2 nr2 gi bi bl) (hA : lw_RA fi fl ai al gi gl bi bl) (hD : lw_RD fi fl ai al gi gl bi bl) (hF : lw_RF fi fl ai al gi gl bi bl) (hG : lw_RG fi fl ai al gi gl bi bl) (hR : lw_RN fi fl ai al gi gl bi bl) (hX : ln ≤ 10 ∧ fi 5 = nI ln ∧ ln2 ≤ 10 ∧ (gi 2 = nI ln2 ∨ gi 2 = -1) ∧ nt ≤ 10 ∧ gi 5 = nI nt ∧ 1048576 ≤ F9) : lw_RN (upd (upd fi 1 (if ac_brkOk (fi 0) (fi 1) x then (fi 1) ||| ((1 : Int32) <<< (x &&& 31)) else (fi 1))) 4 (if ac_brkOk (fi 0) (fi 1) x then 0 else (fi 4))) fl ai al (upd gi 3 (if rc_brkOk (gi 0) (bi 5) x then 0 else (gi 3))) gl (va_up bi 5 (if rc_brkOk (gi 0) (bi 5) x then upd (bi 5) x.toNatClampNeg 1 else (bi 5))) bl := by
  exact hR
set_option maxRecDepth 100000 in
theorem lrN_sure {na nr na2 nr2 ln ln2 nt F9 : Nat} {fi : Nat → Int32} {fl : Nat → Int64} {ai : Nat → Nat → Int32} {al : Nat → Nat → Int64} {gi : Nat → Int32} {gl : Nat → Int64} {bi : Nat → Nat → Int32} {bl : Nat → Nat → Int64} (x : Int32) (u : Int64) (v : Int64) (hk : ac_K na nr fi ai) (hk2 : rc_K na2 nr2 gi bi bl) (hA : lw_RA fi fl ai al gi gl bi bl) (hD : lw_RD fi fl ai al gi gl bi bl) (hF : lw_RF fi fl ai al gi gl bi bl) (hG : lw_RG fi fl ai al gi gl bi bl) (hR : lw_RN fi fl ai al gi gl bi bl) (hX : ln ≤ 10 ∧ fi 5 = nI ln ∧ ln2 ≤ 10 ∧ (gi 2 = nI ln2 ∨ gi 2 = -1) ∧ nt ≤ 10 ∧ gi 5 = nI nt ∧ 1048576 ≤ F9) : lw_RN (upd fi 4 (if ac_surOk x u v then 0 else (fi 4))) fl ai (va_up al 13 (if ac_surOk x u v then vp_updL (al 13) x.toNatClampNeg (27720 / v * u) else (al 13))) (upd gi 3 (if ac_surOk x u v then 0 else (gi 3))) gl (va_up (va_up bi 10 (if ac_surOk x u v then upd (bi 10) x.toNatClampNeg u.toInt32 else (bi 10))) 11 (if ac_surOk x u v then upd (bi 11) x.toNatClampNeg v.toInt32 else (bi 11))) bl := by
  exact hR
set_option maxRecDepth 100000 in
theorem lrN_run {na nr na2 nr2 ln ln2 nt F9 : Nat} {fi : Nat → Int32} {fl : Nat → Int64} {ai : Nat → Nat → Int32} {al : Nat → Nat → Int64} {gi : Nat → Int32} {gl : Nat → Int64} {bi : Nat → Nat → Int32} {bl : Nat → Nat → Int64} (z : Int64) (hk : ac_K na nr fi ai) (hk2 : rc_K na2 nr2 gi bi bl) (hA : lw_RA fi fl ai al gi gl bi bl) (hD : lw_RD fi fl ai al gi gl bi bl) (hF : lw_RF fi fl ai al gi gl bi bl) (hG : lw_RG fi fl ai al gi gl bi bl) (hR : lw_RN fi fl ai al gi gl bi bl) (hX : ln ≤ 10 ∧ fi 5 = nI ln ∧ ln2 ≤ 10 ∧ (gi 2 = nI ln2 ∨ gi 2 = -1) ∧ nt ≤ 10 ∧ gi 5 = nI nt ∧ 1048576 ≤ F9) : lw_RN (upd (upd (upd (upd (upd fi 3 (if ac_count (ai 9) na (2 ^ na - 1) ≤ z then 1 else (fi 3))) 4 (if ac_count (ai 9) na (2 ^ na - 1) ≤ z then 1 else (fi 4))) 5 (if ac_count (ai 9) na (2 ^ na - 1) ≤ z then (nI (ac_rk fi ai (va_up (va_up (va_up al 16 (ac_vals (al 12) (al 13) (al 16) 12)) 17 (ac_rs ai (va_up al 16 (ac_vals (al 12) (al 13) (al 16) 12)) na)) 18 (ac_rd fi ai (va_up al 16 (ac_vals (al 12) (al 13) (al 16) 12)) na nr)) na nr).2.1) else (fi 5))) 6 (if ac_count (ai 9) na (2 ^ na - 1) ≤ z then (nI (ac_rk fi ai (va_up (va_up (va_up al 16 (ac_vals (al 12) (al 13) (al 16) 12)) 17 (ac_rs ai (va_up al 16 (ac_vals (al 12) (al 13) (al 16) 12)) na)) 18 (ac_rd fi ai (va_up al 16 (ac_vals (al 12) (al 13) (al 16) 12)) na nr)) na nr).2.2) else (fi 6))) 7 (if ac_count (ai 9) na (2 ^ na - 1) ≤ z then (ac_freed (ai 5) (nI (ac_rk fi ai (va_up (va_up (va_up al 16 (ac_vals (al 12) (al 13) (al 16) 12)) 17 (ac_rs ai (va_up al 16 (ac_vals (al 12) (al 13) (al 16) 12)) na)) 18 (ac_rd fi ai (va_up al 16 (ac_vals (al 12) (al 13) (al 16) 12)) na nr)) na nr).2.2) na) else (fi 7))) (vp_updL fl 0 (if ac_count (ai 9) na (2 ^ na - 1) ≤ z then (ac_rg fi ai (va_up al 16 (ac_vals (al 12) (al 13) (al 16) 12)) na nr) else (fl 0))) (va_up ai 19 (if ac_count (ai 9) na (2 ^ na - 1) ≤ z then ((ac_rk fi ai (va_up (va_up (va_up al 16 (ac_vals (al 12) (al 13) (al 16) 12)) 17 (ac_rs ai (va_up al 16 (ac_vals (al 12) (al 13) (al 16) 12)) na)) 18 (ac_rd fi ai (va_up al 16 (ac_vals (al 12) (al 13) (al 16) 12)) na nr)) na nr).1) else (ai 19))) (va_up (va_up (va_up (va_up al 16 (if ac_count (ai 9) na (2 ^ na - 1) ≤ z then (ac_vals (al 12) (al 13) (al 16) 12) else (al 16))) 17 (if ac_count (ai 9) na (2 ^ na - 1) ≤ z then (ac_rs ai (va_up al 16 (ac_vals (al 12) (al 13) (al 16) 12)) na) else (al 17))) 18 (if ac_count (ai 9) na (2 ^ na - 1) ≤ z then (ac_rd fi ai (va_up al 16 (ac_vals (al 12) (al 13) (al 16) 12)) na nr) else (al 18))) 20 (if ac_count (ai 9) na (2 ^ na - 1) ≤ z then (ac_rb fi ai (va_up (va_up (va_up al 16 (ac_vals (al 12) (al 13) (al 16) 12)) 17 (ac_rs ai (va_up al 16 (ac_vals (al 12) (al 13) (al 16) 12)) na)) 18 (ac_rd fi ai (va_up al 16 (ac_vals (al 12) (al 13) (al 16) 12)) na nr)) na (nI (ac_rk fi ai (va_up (va_up (va_up al 16 (ac_vals (al 12) (al 13) (al 16) 12)) 17 (ac_rs ai (va_up al 16 (ac_vals (al 12) (al 13) (al 16) 12)) na)) 18 (ac_rd fi ai (va_up al 16 (ac_vals (al 12) (al 13) (al 16) 12)) na nr)) na nr).2.2)) else (al 20))) (upd (upd (upd (upd gi 2 (if rc_runOk (rc_st (bi 6) na2 (2 ^ na2 - 1)) z then nI (rc_runQ bi bl (gi 7) (gi 8) na2 nr2 F9).2.1 else (gi 2))) 3 (if rc_runOk (rc_st (bi 6) na2 (2 ^ na2 - 1)) z then 1 else (gi 3))) 4 (if rc_runOk (rc_st (bi 6) na2 (2 ^ na2 - 1)) z then rc_rest (bi 1) (nI (rc_runQ bi bl (gi 7) (gi 8) na2 nr2 F9).1) na2 else (gi 4))) 5 (if rc_runOk (rc_st (bi 6) na2 (2 ^ na2 - 1)) z then (gi 0) else (gi 5))) (vp_updL gl 0 (if rc_runOk (rc_st (bi 6) na2 (2 ^ na2 - 1)) z then (rc_bwQ bi bl (gi 7) (gi 8) na2 nr2).1 else (gl 0))) (va_up (va_up bi 14 (if rc_runOk (rc_st (bi 6) na2 (2 ^ na2 - 1)) z then (rc_runQ bi bl (gi 7) (gi 8) na2 nr2 F9).2.2.1 else (bi 14))) 17 (if rc_runOk (rc_st (bi 6) na2 (2 ^ na2 - 1)) z then rc_bwN bi na2 else (bi 17))) (va_up (va_up (va_up bl 15 (if rc_runOk (rc_st (bi 6) na2 (2 ^ na2 - 1)) z then rc_bro (rc_brings (bi 1) (bi 5) (bi 10) (bi 11) (bl 9) (gi 7) (gi 8) na2 (nI (rc_runQ bi bl (gi 7) (gi 8) na2 nr2 F9).1)) (bl 15) 12 else (bl 15))) 18 (if rc_runOk (rc_st (bi 6) na2 (2 ^ na2 - 1)) z then (rc_runQ bi bl (gi 7) (gi 8) na2 nr2 F9).2.2.2 else (bl 18))) 19 (if rc_runOk (rc_st (bi 6) na2 (2 ^ na2 - 1)) z then rc_bwV bi bl (gi 7) (gi 8) na2 nr2 else (bl 19))) := by
  obtain rfl : na = na2 := (lw_na hk2.1.1 (by have := hk2.1.2.1; omega) hk.1 (by have := hk.2.1; omega) hA.1.1).symm
  have ecl : (fi 0).toNatClampNeg = na := by rw [hk.1]; exact nI_clamp (by have := hk.2.1; omega)
  have hDn : nd_Rel (ai 9) (bi 6) na := by rw [← ecl]; exact hD
  obtain rfl : nr = nr2 := (lw_na hk2.1.2.2.1 (by have := hk2.1.2.2.2.1; omega) hk.2.2.1 (by have := hk.2.2.2.1; omega) hA.1.2.1).symm
  have e : ac_count (ai 9) na (2 ^ na - 1) ≤ z ↔ (rc_runOk (rc_st (bi 6) na (2 ^ na - 1)) z) := (by unfold rc_runOk; rw [states_ok hk.2.1 hDn _ (Nat.le_refl _)])
  by_cases c : ac_count (ai 9) na (2 ^ na - 1) ≤ z
  · have c2 := e.mp c
    simp only [if_pos c, if_pos c2]
    obtain ⟨r1, r2, r3, r4⟩ := run_all (F9 := F9) hk hk2 hA hDn hG hR.1 hX.2.2.2.2.2.2
    have rs := congrArg (fun q => q.2.2) r1
    refine ⟨congrArg (fun q => q.1) r1, Or.inr ⟨(by decide : ¬ (1 : Int32) = 0), nI_pos (by have := (rc_runQ_ok hk2 (gi 7) (gi 8) F9).1; omega), congrArg nI (congrArg (fun q => q.2.1) r1).symm, r2.symm, fun p hp => ?_, ?_⟩⟩
    · refine (r3 _ p hp).trans ?_
      exact congrArg (fun q => rc_bro (rc_brings (bi 1) (bi 5) (bi 10) (bi 11) (bl 9) (gi 7) (gi 8) na (nI q)) (bl 15) 12 p) rs
    · refine (r4 _).trans ?_
      exact congrArg (fun q => 4095 &&& (ac_freed (ai 5) (nI q) na ^^^ (-1))) rs.symm
  · have c2 : ¬ (rc_runOk (rc_st (bi 6) na (2 ^ na - 1)) z) := fun h => c (e.mpr h)
    simp only [if_neg c, if_neg c2]
    exact hR
set_option maxRecDepth 100000 in
theorem lrN_test {na nr na2 nr2 ln ln2 nt F9 : Nat} {fi : Nat → Int32} {fl : Nat → Int64} {ai : Nat → Nat → Int32} {al : Nat → Nat → Int64} {gi : Nat → Int32} {gl : Nat → Int64} {bi : Nat → Nat → Int32} {bl : Nat → Nat → Int64} (x : Int32) (z : Int64) (hk : ac_K na nr fi ai) (hk2 : rc_K na2 nr2 gi bi bl) (hA : lw_RA fi fl ai al gi gl bi bl) (hD : lw_RD fi fl ai al gi gl bi bl) (hF : lw_RF fi fl ai al gi gl bi bl) (hG : lw_RG fi fl ai al gi gl bi bl) (hR : lw_RN fi fl ai al gi gl bi bl) (hX : ln ≤ 10 ∧ fi 5 = nI ln ∧ ln2 ≤ 10 ∧ (gi 2 = nI ln2 ∨ gi 2 = -1) ∧ nt ≤ 10 ∧ gi 5 = nI nt ∧ 1048576 ≤ F9) : lw_RN fi fl ai (va_up (va_up (va_up al 16 (if ac_tstOk x z then (vp_updL (vp_updL (ac_vals (al 12) (al 13) (al 16) 12) x.toNatClampNeg ((al 12) x.toNatClampNeg * 27720)) x.toNatClampNeg ((al 12) x.toNatClampNeg * 0)) else (al 16))) 17 (if ac_tstOk x z then (ac_rs ai (va_up (va_up (va_up al 16 (vp_updL (vp_updL (ac_vals (al 12) (al 13) (al 16) 12) x.toNatClampNeg ((al 12) x.toNatClampNeg * 27720)) x.toNatClampNeg ((al 12) x.toNatClampNeg * 0))) 17 (ac_rs ai (va_up (va_up (va_up al 16 (vp_updL (ac_vals (al 12) (al 13) (al 16) 12) x.toNatClampNeg ((al 12) x.toNatClampNeg * 27720))) 17 (ac_rs ai (va_up al 16 (ac_vals (al 12) (al 13) (al 16) 12)) na)) 18 (ac_rd fi ai (va_up al 16 (ac_vals (al 12) (al 13) (al 16) 12)) na nr)) na)) 18 (ac_rd fi ai (va_up (va_up (va_up al 16 (vp_updL (ac_vals (al 12) (al 13) (al 16) 12) x.toNatClampNeg ((al 12) x.toNatClampNeg * 27720))) 17 (ac_rs ai (va_up al 16 (ac_vals (al 12) (al 13) (al 16) 12)) na)) 18 (ac_rd fi ai (va_up al 16 (ac_vals (al 12) (al 13) (al 16) 12)) na nr)) na nr)) na) else (al 17))) 18 (if ac_tstOk x z then (ac_rd fi ai (va_up (va_up (va_up al 16 (vp_updL (vp_updL (ac_vals (al 12) (al 13) (al 16) 12) x.toNatClampNeg ((al 12) x.toNatClampNeg * 27720)) x.toNatClampNeg ((al 12) x.toNatClampNeg * 0))) 17 (ac_rs ai (va_up (va_up (va_up al 16 (vp_updL (ac_vals (al 12) (al 13) (al 16) 12) x.toNatClampNeg ((al 12) x.toNatClampNeg * 27720))) 17 (ac_rs ai (va_up al 16 (ac_vals (al 12) (al 13) (al 16) 12)) na)) 18 (ac_rd fi ai (va_up al 16 (ac_vals (al 12) (al 13) (al 16) 12)) na nr)) na)) 18 (ac_rd fi ai (va_up (va_up (va_up al 16 (vp_updL (ac_vals (al 12) (al 13) (al 16) 12) x.toNatClampNeg ((al 12) x.toNatClampNeg * 27720))) 17 (ac_rs ai (va_up al 16 (ac_vals (al 12) (al 13) (al 16) 12)) na)) 18 (ac_rd fi ai (va_up al 16 (ac_vals (al 12) (al 13) (al 16) 12)) na nr)) na nr)) na nr) else (al 18))) (upd (upd gi 7 (if ac_tstOk x z then (-1) else (gi 7))) 8 (if ac_tstOk x z then 0 else (gi 8))) gl (va_up bi 17 (if ac_tstOk x z then (rc_bwA (rc_bwA (rc_bwA bi na2) na2) na2) 17 else (bi 17))) (va_up (va_up bl 18 (if ac_tstOk x z then (rc_bwL (rc_bwA (rc_bwA bi na2) na2) (rc_bwL (rc_bwA bi na2) (rc_bwL bi bl (-1) 0 na2 nr2) x 1 na2 nr2) x 0 na2 nr2) 18 else (bl 18))) 19 (if ac_tstOk x z then (rc_bwL (rc_bwA (rc_bwA bi na2) na2) (rc_bwL (rc_bwA bi na2) (rc_bwL bi bl (-1) 0 na2 nr2) x 1 na2 nr2) x 0 na2 nr2) 19 else (bl 19))) := by
  exact hR
set_option maxRecDepth 100000 in
theorem lrN_stations {na nr na2 nr2 ln ln2 nt F9 : Nat} {fi : Nat → Int32} {fl : Nat → Int64} {ai : Nat → Nat → Int32} {al : Nat → Nat → Int64} {gi : Nat → Int32} {gl : Nat → Int64} {bi : Nat → Nat → Int32} {bl : Nat → Nat → Int64} (x : Int32) (hk : ac_K na nr fi ai) (hk2 : rc_K na2 nr2 gi bi bl) (hA : lw_RA fi fl ai al gi gl bi bl) (hD : lw_RD fi fl ai al gi gl bi bl) (hF : lw_RF fi fl ai al gi gl bi bl) (hG : lw_RG fi fl ai al gi gl bi bl) (hR : lw_RN fi fl ai al gi gl bi bl) (hX : ln ≤ 10 ∧ fi 5 = nI ln ∧ ln2 ≤ 10 ∧ (gi 2 = nI ln2 ∨ gi 2 = -1) ∧ nt ≤ 10 ∧ gi 5 = nI nt ∧ 1048576 ≤ F9) : lw_RN (upd (upd fi 8 (if ac_stOk (fi 3) x then (fi 6) else (fi 8))) 9 (if ac_stOk (fi 3) x then (nI x.toNatClampNeg) else (fi 9))) (vp_updL (vp_updL fl 1 (if ac_stOk (fi 3) x then ((ac_try (al 8) (ai 9) (fi 6) (nI x.toNatClampNeg) (ac_least (al 8) (fi 6) (nI x.toNatClampNeg) na) na na 0 0 ((ai 21), (ai 22), (ac_fillL 0 (al 23) 4), (ac_tot (al 8) (fi 6) na + 1))).2.2.2) else (fl 1))) 2 (if ac_stOk (fi 3) x then (ac_least (al 8) (fi 6) (nI x.toNatClampNeg) na) else (fl 2))) (va_up (va_up ai 21 (if ac_stOk (fi 3) x then ((ac_try (al 8) (ai 9) (fi 6) (nI x.toNatClampNeg) (ac_least (al 8) (fi 6) (nI x.toNatClampNeg) na) na na 0 0 ((ai 21), (ai 22), (ac_fillL 0 (al 23) 4), (ac_tot (al 8) (fi 6) na + 1))).1) else (ai 21))) 22 (if ac_stOk (fi 3) x then ((ac_try (al 8) (ai 9) (fi 6) (nI x.toNatClampNeg) (ac_least (al 8) (fi 6) (nI x.toNatClampNeg) na) na na 0 0 ((ai 21), (ai 22), (ac_fillL 0 (al 23) 4), (ac_tot (al 8) (fi 6) na + 1))).2.1) else (ai 22))) (va_up al 23 (if ac_stOk (fi 3) x then ((ac_try (al 8) (ai 9) (fi 6) (nI x.toNatClampNeg) (ac_least (al 8) (fi 6) (nI x.toNatClampNeg) na) na na 0 0 ((ai 21), (ai 22), (ac_fillL 0 (al 23) 4), (ac_tot (al 8) (fi 6) na + 1))).2.2.1) else (al 23))) (upd gi 6 (if rc_stOk (gi 2) x then 1 else (gi 6))) gl (va_up (va_up (va_up bi 16 (if rc_stOk (gi 2) x then (rc_sR bi (bl 4) (gi 2) na2 (x.toNatClampNeg) F9).2.2 else (bi 16))) 20 (if rc_stOk (gi 2) x then (rc_sR bi (bl 4) (gi 2) na2 (x.toNatClampNeg) F9).2.1 else (bi 20))) 21 (if rc_stOk (gi 2) x then rc_sB bi na2 else (bi 21))) bl := by
  exact hR
-- ===== the found row as a set =====
theorem inrow_congr {r t : Nat → Int32} (q : Int32) : ∀ k, (∀ i, i < k → r i = t i) → rc_inrow r q k = rc_inrow t q k
  | 0, _ => rfl
  | k + 1, h => by rw [rc_inrow, rc_inrow, inrow_congr q k (fun i hi => h i (by omega)), h k (by omega)]
theorem inrow_add (row : Nat → Int32) (len : Nat) {a c : Nat} (ha : a < 10) (hc : c < 10) : ¬ rc_inrow (upd row len (nI a)) (nI c) (len + 1) = 0 ↔ (¬ rc_inrow row (nI c) len = 0 ∨ c = a) := by
  have e : rc_inrow (upd row len (nI a)) (nI c) len = rc_inrow row (nI c) len := inrow_congr _ len (fun i hi => if_neg (by omega))
  rw [rc_inrow, e, show upd row len (nI a) len = nI a from if_pos rfl]
  by_cases c1 : rc_inrow row (nI c) len = 0
  · rw [if_pos c1]
    by_cases c2 : nI a = nI c
    · rw [if_pos c2]
      have := (nI_eq (by omega) (by omega)).mp c2
      exact ⟨fun _ => Or.inr this.symm, fun _ => by decide⟩
    · rw [if_neg c2]
      exact ⟨fun h => absurd rfl h, fun h => h.elim (fun z => absurd c1 z) (fun z => absurd (by rw [z]) c2)⟩
  · rw [if_neg c1]
    exact ⟨fun _ => Or.inl c1, fun _ => by decide⟩
def nd_q (row : Nat → Int32) (len s : Nat) : Prop := ∀ c, c < 10 → (bt (nI s) c = true ↔ ¬ rc_inrow row (nI c) len = 0)
theorem kr_q {bn : Nat → Nat → Nat} {n : Nat} (hn : n ≤ 10) (hbn : ∀ s j, bn s j ≤ n) : ∀ m (row : Nat → Int32) len s x, x ≤ n → s < 2 ^ n → nd_q row len s → (ac_kr bn m row len s x).2.2 < 2 ^ n ∧ nd_q (ac_kr bn m row len s x).1 (ac_kr bn m row len s x).2.1 (ac_kr bn m row len s x).2.2
  | 0, _, _, _, _, _, hs, h => ⟨hs, h⟩
  | _ + 1, _, _, _, 0, _, hs, h => ⟨hs, h⟩
  | m + 1, row, len, s, a + 1, hx, hs, h => by
    rw [ac_kr]
    refine kr_q hn hbn m _ _ _ _ (hbn _ _) (rc_or_lt hs (by omega)) (fun c hc => ?_)
    rw [b_or2 s (by omega) (by omega), Bool.or_eq_true, h c hc, decide_eq_true_eq, inrow_add row len (by omega) hc]
theorem rk_q (fi : Nat → Int32) (ai : Nat → Nat → Int32) (al : Nat → Nat → Int64) {na : Nat} (hn : na ≤ 10) (nr : Nat) : (ac_rk fi ai al na nr).2.2 < 2 ^ na ∧ nd_q (ac_rk fi ai al na nr).1 (ac_rk fi ai al na nr).2.1 (ac_rk fi ai al na nr).2.2 := by
  have hp := am_p2 hn
  refine kr_q hn (fun s j => ac_bn_le _ _ _ _ _ _ _ _ _ _ _ _) 10 _ 0 0 _ (ac_bn_le _ _ _ _ _ _ _ _ _ _ _ _) (by omega) (fun c hc => ?_)
  rw [show nI 0 = 0 from rfl, b_0]
  exact ⟨fun h => absurd h (by decide), fun h => absurd rfl h⟩
theorem rc_len_nI {n : Nat} (h : n ≤ 10) : rc_len (nI n) = n := by rw [rc_len, if_neg (nI_pos (by omega)), nI_clamp (by omega)]
def lw_RH (fi : Nat → Int32) (fl : Nat → Int64) (ai : Nat → Nat → Int32) (al : Nat → Nat → Int64) (gi : Nat → Int32) (gl : Nat → Int64) (bi : Nat → Nat → Int32) (bl : Nat → Nat → Int64) : Prop := ¬ fi 3 = 0 → (∀ c, c < 10 → (bt (fi 6) c = true ↔ ¬ rc_inrow (bi 14) (nI c) (rc_len (gi 2)) = 0)) ∧ ∀ c, c < 32 → bt (fi 6) c = true → c < (fi 0).toNatClampNeg
theorem lw_RH0 : lw_RH (fun _ => 0) (fun _ => 0) ac_ai0 ac_al0 rc_fi0 (fun _ => 0) (rc_ai0 12) (fun _ _ => 0) := fun h => absurd rfl h
set_option maxRecDepth 100000 in
theorem lrH_act {na nr na2 nr2 ln ln2 nt F9 : Nat} {fi : Nat → Int32} {fl : Nat → Int64} {ai : Nat → Nat → Int32} {al : Nat → Nat → Int64} {gi : Nat → Int32} {gl : Nat → Int64} {bi : Nat → Nat → Int32} {bl : Nat → Nat → Int64} (x : Int32) (t : Int32) (d : Int32) (z : Int64) (hk : ac_K na nr fi ai) (hk2 : rc_K na2 nr2 gi bi bl) (hA : lw_RA fi fl ai al gi gl bi bl) (hD : lw_RD fi fl ai al gi gl bi bl) (hF : lw_RF fi fl ai al gi gl bi bl) (hG : lw_RG fi fl ai al gi gl bi bl) (hN : lw_RN fi fl ai al gi gl bi bl) (hR : lw_RH fi fl ai al gi gl bi bl) (hX : ln ≤ 10 ∧ fi 5 = nI ln ∧ ln2 ≤ 10 ∧ (gi 2 = nI ln2 ∨ gi 2 = -1) ∧ nt ≤ 10 ∧ gi 5 = nI nt ∧ 1048576 ≤ F9) : lw_RH (upd (upd fi 0 (if ac_actOk (fi 0) x t d z then (fi 0) + 1 else (fi 0))) 4 (if ac_actOk (fi 0) x t d z then 0 else (fi 4))) fl (va_up (va_up (va_up ai 5 (if ac_actOk (fi 0) x t d z then upd (ai 5) na x else (ai 5))) 6 (if ac_actOk (fi 0) x t d z then upd (ai 6) na t else (ai 6))) 7 (if ac_actOk (fi 0) x t d z then upd (ai 7) na d else (ai 7))) (va_up al 8 (if ac_actOk (fi 0) x t d z then vp_updL (al 8) na z else (al 8))) (upd (upd gi 0 (if rc_actOk (gi 0) x t d z then (gi 0) + 1 else (gi 0))) 3 (if rc_actOk (gi 0) x t d z then 0 else (gi 3))) gl (va_up (va_up (va_up bi 1 (if rc_actOk (gi 0) x t d z then upd (bi 1) na2 x else (bi 1))) 2 (if rc_actOk (gi 0) x t d z then upd (bi 2) na2 t else (bi 2))) 3 (if rc_actOk (gi 0) x t d z then upd (bi 3) na2 d else (bi 3))) (va_up bl 4 (if rc_actOk (gi 0) x t d z then vp_updL (bl 4) na2 z else (bl 4))) := by
  have ecl : (fi 0).toNatClampNeg = na := by rw [hk.1]; exact nI_clamp (by have := hk.2.1; omega)
  by_cases c : ac_actOk (fi 0) x t d z
  · simp only [if_pos c]
    have e1 : (fi 0 + 1).toNatClampNeg = na + 1 := by rw [hk.1, nI_1]; exact nI_clamp (by have := hk.2.1; omega)
    intro h
    obtain ⟨h1, h2⟩ := hR h
    refine ⟨h1, fun c9 hc9 h9 => ?_⟩
    show c9 < (fi 0 + 1).toNatClampNeg
    have := h2 c9 hc9 h9
    rw [ecl] at this
    rw [e1]
    omega
  · simp only [if_neg c]
    exact hR
set_option maxRecDepth 100000 in
theorem lrH_before {na nr na2 nr2 ln ln2 nt F9 : Nat} {fi : Nat → Int32} {fl : Nat → Int64} {ai : Nat → Nat → Int32} {al : Nat → Nat → Int64} {gi : Nat → Int32} {gl : Nat → Int64} {bi : Nat → Nat → Int32} {bl : Nat → Nat → Int64} (x : Int32) (y : Int32) (hk : ac_K na nr fi ai) (hk2 : rc_K na2 nr2 gi bi bl) (hA : lw_RA fi fl ai al gi gl bi bl) (hD : lw_RD fi fl ai al gi gl bi bl) (hF : lw_RF fi fl ai al gi gl bi bl) (hG : lw_RG fi fl ai al gi gl bi bl) (hN : lw_RN fi fl ai al gi gl bi bl) (hR : lw_RH fi fl ai al gi gl bi bl) (hX : ln ≤ 10 ∧ fi 5 = nI ln ∧ ln2 ≤ 10 ∧ (gi 2 = nI ln2 ∨ gi 2 = -1) ∧ nt ≤ 10 ∧ gi 5 = nI nt ∧ 1048576 ≤ F9) : lw_RH (upd fi 4 (if ac_befOk (fi 0) (ai 9) x y then 0 else (fi 4))) fl (va_up ai 9 (if ac_befOk (fi 0) (ai 9) x y then ac_addNeed ((ai 9) x.toNatClampNeg ||| ((1 : Int32) <<< (x &&& 31))) y (ai 9) na else (ai 9))) al (upd gi 3 (if rc_befOk (gi 0) (bi 6) na2 x y then 0 else (gi 3))) gl (va_up bi 6 (if rc_befOk (gi 0) (bi 6) na2 x y then upd (bi 6) (10 * y.toNatClampNeg + x.toNatClampNeg) 1 else (bi 6))) bl := by
  exact hR
set_option maxRecDepth 100000 in
theorem lrH_change {na nr na2 nr2 ln ln2 nt F9 : Nat} {fi : Nat → Int32} {fl : Nat → Int64} {ai : Nat → Nat → Int32} {al : Nat → Nat → Int64} {gi : Nat → Int32} {gl : Nat → Int64} {bi : Nat → Nat → Int32} {bl : Nat → Nat → Int64} (x : Int32) (y : Int32) (z : Int64) (hk : ac_K na nr fi ai) (hk2 : rc_K na2 nr2 gi bi bl) (hA : lw_RA fi fl ai al gi gl bi bl) (hD : lw_RD fi fl ai al gi gl bi bl) (hF : lw_RF fi fl ai al gi gl bi bl) (hG : lw_RG fi fl ai al gi gl bi bl) (hN : lw_RN fi fl ai al gi gl bi bl) (hR : lw_RH fi fl ai al gi gl bi bl) (hX : ln ≤ 10 ∧ fi 5 = nI ln ∧ ln2 ≤ 10 ∧ (gi 2 = nI ln2 ∨ gi 2 = -1) ∧ nt ≤ 10 ∧ gi 5 = nI nt ∧ 1048576 ≤ F9) : lw_RH (upd fi 4 (if ac_movOk x y z then 0 else (fi 4))) fl ai (va_up al 10 (if ac_movOk x y z then vp_updL (al 10) ((x * 6 + y).toNatClampNeg) z else (al 10))) (upd gi 3 (if rc_movOk x y z then 0 else (gi 3))) gl bi (va_up bl 7 (if rc_movOk x y z then vp_updL (bl 7) ((6 * x + y).toNatClampNeg) z else (bl 7))) := by
  exact hR
set_option maxRecDepth 100000 in
theorem lrH_turn {na nr na2 nr2 ln ln2 nt F9 : Nat} {fi : Nat → Int32} {fl : Nat → Int64} {ai : Nat → Nat → Int32} {al : Nat → Nat → Int64} {gi : Nat → Int32} {gl : Nat → Int64} {bi : Nat → Nat → Int32} {bl : Nat → Nat → Int64} (x : Int32) (y : Int32) (z : Int64) (hk : ac_K na nr fi ai) (hk2 : rc_K na2 nr2 gi bi bl) (hA : lw_RA fi fl ai al gi gl bi bl) (hD : lw_RD fi fl ai al gi gl bi bl) (hF : lw_RF fi fl ai al gi gl bi bl) (hG : lw_RG fi fl ai al gi gl bi bl) (hN : lw_RN fi fl ai al gi gl bi bl) (hR : lw_RH fi fl ai al gi gl bi bl) (hX : ln ≤ 10 ∧ fi 5 = nI ln ∧ ln2 ≤ 10 ∧ (gi 2 = nI ln2 ∨ gi 2 = -1) ∧ nt ≤ 10 ∧ gi 5 = nI nt ∧ 1048576 ≤ F9) : lw_RH (upd fi 4 (if ac_movOk x y z then 0 else (fi 4))) fl ai (va_up al 11 (if ac_movOk x y z then vp_updL (al 11) ((x * 6 + y).toNatClampNeg) z else (al 11))) (upd gi 3 (if rc_movOk x y z then 0 else (gi 3))) gl bi (va_up bl 8 (if rc_movOk x y z then vp_updL (bl 8) ((6 * x + y).toNatClampNeg) z else (bl 8))) := by
  exact hR
set_option maxRecDepth 100000 in
theorem lrH_worth {na nr na2 nr2 ln ln2 nt F9 : Nat} {fi : Nat → Int32} {fl : Nat → Int64} {ai : Nat → Nat → Int32} {al : Nat → Nat → Int64} {gi : Nat → Int32} {gl : Nat → Int64} {bi : Nat → Nat → Int32} {bl : Nat → Nat → Int64} (x : Int32) (z : Int64) (hk : ac_K na nr fi ai) (hk2 : rc_K na2 nr2 gi bi bl) (hA : lw_RA fi fl ai al gi gl bi bl) (hD : lw_RD fi fl ai al gi gl bi bl) (hF : lw_RF fi fl ai al gi gl bi bl) (hG : lw_RG fi fl ai al gi gl bi bl) (hN : lw_RN fi fl ai al gi gl bi bl) (hR : lw_RH fi fl ai al gi gl bi bl) (hX : ln ≤ 10 ∧ fi 5 = nI ln ∧ ln2 ≤ 10 ∧ (gi 2 = nI ln2 ∨ gi 2 = -1) ∧ nt ≤ 10 ∧ gi 5 = nI nt ∧ 1048576 ≤ F9) : lw_RH (upd fi 4 (if ac_worOk x z then 0 else (fi 4))) fl ai (va_up al 12 (if ac_worOk x z then vp_updL (al 12) x.toNatClampNeg z else (al 12))) (upd gi 3 (if ac_worOk x z then 0 else (gi 3))) gl bi (va_up bl 9 (if ac_worOk x z then vp_updL (bl 9) x.toNatClampNeg z else (bl 9))) := by
  exact hR
set_option maxRecDepth 100000 in
theorem lrH_rest {na nr na2 nr2 ln ln2 nt F9 : Nat} {fi : Nat → Int32} {fl : Nat → Int64} {ai : Nat → Nat → Int32} {al : Nat → Nat → Int64} {gi : Nat → Int32} {gl : Nat → Int64} {bi : Nat → Nat → Int32} {bl : Nat → Nat → Int64} (v : Int64) (z : Int64) (hk : ac_K na nr fi ai) (hk2 : rc_K na2 nr2 gi bi bl) (hA : lw_RA fi fl ai al gi gl bi bl) (hD : lw_RD fi fl ai al gi gl bi bl) (hF : lw_RF fi fl ai al gi gl bi bl) (hG : lw_RG fi fl ai al gi gl bi bl) (hN : lw_RN fi fl ai al gi gl bi bl) (hR : lw_RH fi fl ai al gi gl bi bl) (hX : ln ≤ 10 ∧ fi 5 = nI ln ∧ ln2 ≤ 10 ∧ (gi 2 = nI ln2 ∨ gi 2 = -1) ∧ nt ≤ 10 ∧ gi 5 = nI nt ∧ 1048576 ≤ F9) : lw_RH (upd (upd fi 2 (if ac_rstOk v z (ac_place (ai 14) v.toInt32 nr 0) then if ac_place (ai 14) v.toInt32 nr 0 = nr then (fi 2) + 1 else (fi 2) else (fi 2))) 4 (if ac_rstOk v z (ac_place (ai 14) v.toInt32 nr 0) then 0 else (fi 4))) fl (va_up ai 14 (if ac_rstOk v z (ac_place (ai 14) v.toInt32 nr 0) then upd (ai 14) (ac_place (ai 14) v.toInt32 nr 0) v.toInt32 else (ai 14))) (va_up al 15 (if ac_rstOk v z (ac_place (ai 14) v.toInt32 nr 0) then vp_updL (al 15) (ac_place (ai 14) v.toInt32 nr 0) z else (al 15))) (upd (upd gi 1 (if rc_rstOk v z (rc_pl (bi 12) v nr2 0) then if rc_pl (bi 12) v nr2 0 = nr2 then (gi 1) + 1 else (gi 1) else (gi 1))) 3 (if rc_rstOk v z (rc_pl (bi 12) v nr2 0) then 0 else (gi 3))) gl (va_up bi 12 (if rc_rstOk v z (rc_pl (bi 12) v nr2 0) then upd (bi 12) (rc_pl (bi 12) v nr2 0) v.toInt32 else (bi 12))) (va_up bl 13 (if rc_rstOk v z (rc_pl (bi 12) v nr2 0) then vp_updL (bl 13) (rc_pl (bi 12) v nr2 0) z else (bl 13))) := by
  exact hR
set_option maxRecDepth 100000 in
theorem lrH_breaks {na nr na2 nr2 ln ln2 nt F9 : Nat} {fi : Nat → Int32} {fl : Nat → Int64} {ai : Nat → Nat → Int32} {al : Nat → Nat → Int64} {gi : Nat → Int32} {gl : Nat → Int64} {bi : Nat → Nat → Int32} {bl : Nat → Nat → Int64} (x : Int32) (hk : ac_K na nr fi ai) (hk2 : rc_K na2 nr2 gi bi bl) (hA : lw_RA fi fl ai al gi gl bi bl) (hD : lw_RD fi fl ai al gi gl bi bl) (hF : lw_RF fi fl ai al gi gl bi bl) (hG : lw_RG fi fl ai al gi gl bi bl) (hN : lw_RN fi fl ai al gi gl bi bl) (hR : lw_RH fi fl ai al gi gl bi bl) (hX : ln ≤ 10 ∧ fi 5 = nI ln ∧ ln2 ≤ 10 ∧ (gi 2 = nI ln2 ∨ gi 2 = -1) ∧ nt ≤ 10 ∧ gi 5 = nI nt ∧ 1048576 ≤ F9) : lw_RH (upd (upd fi 1 (if ac_brkOk (fi 0) (fi 1) x then (fi 1) ||| ((1 : Int32) <<< (x &&& 31)) else (fi 1))) 4 (if ac_brkOk (fi 0) (fi 1) x then 0 else (fi 4))) fl ai al (upd gi 3 (if rc_brkOk (gi 0) (bi 5) x then 0 else (gi 3))) gl (va_up bi 5 (if rc_brkOk (gi 0) (bi 5) x then upd (bi 5) x.toNatClampNeg 1 else (bi 5))) bl := by
  exact hR
set_option maxRecDepth 100000 in
theorem lrH_sure {na nr na2 nr2 ln ln2 nt F9 : Nat} {fi : Nat → Int32} {fl : Nat → Int64} {ai : Nat → Nat → Int32} {al : Nat → Nat → Int64} {gi : Nat → Int32} {gl : Nat → Int64} {bi : Nat → Nat → Int32} {bl : Nat → Nat → Int64} (x : Int32) (u : Int64) (v : Int64) (hk : ac_K na nr fi ai) (hk2 : rc_K na2 nr2 gi bi bl) (hA : lw_RA fi fl ai al gi gl bi bl) (hD : lw_RD fi fl ai al gi gl bi bl) (hF : lw_RF fi fl ai al gi gl bi bl) (hG : lw_RG fi fl ai al gi gl bi bl) (hN : lw_RN fi fl ai al gi gl bi bl) (hR : lw_RH fi fl ai al gi gl bi bl) (hX : ln ≤ 10 ∧ fi 5 = nI ln ∧ ln2 ≤ 10 ∧ (gi 2 = nI ln2 ∨ gi 2 = -1) ∧ nt ≤ 10 ∧ gi 5 = nI nt ∧ 1048576 ≤ F9) : lw_RH (upd fi 4 (if ac_surOk x u v then 0 else (fi 4))) fl ai (va_up al 13 (if ac_surOk x u v then vp_updL (al 13) x.toNatClampNeg (27720 / v * u) else (al 13))) (upd gi 3 (if ac_surOk x u v then 0 else (gi 3))) gl (va_up (va_up bi 10 (if ac_surOk x u v then upd (bi 10) x.toNatClampNeg u.toInt32 else (bi 10))) 11 (if ac_surOk x u v then upd (bi 11) x.toNatClampNeg v.toInt32 else (bi 11))) bl := by
  exact hR
set_option maxRecDepth 100000 in
theorem lrH_run {na nr na2 nr2 ln ln2 nt F9 : Nat} {fi : Nat → Int32} {fl : Nat → Int64} {ai : Nat → Nat → Int32} {al : Nat → Nat → Int64} {gi : Nat → Int32} {gl : Nat → Int64} {bi : Nat → Nat → Int32} {bl : Nat → Nat → Int64} (z : Int64) (hk : ac_K na nr fi ai) (hk2 : rc_K na2 nr2 gi bi bl) (hA : lw_RA fi fl ai al gi gl bi bl) (hD : lw_RD fi fl ai al gi gl bi bl) (hF : lw_RF fi fl ai al gi gl bi bl) (hG : lw_RG fi fl ai al gi gl bi bl) (hN : lw_RN fi fl ai al gi gl bi bl) (hR : lw_RH fi fl ai al gi gl bi bl) (hX : ln ≤ 10 ∧ fi 5 = nI ln ∧ ln2 ≤ 10 ∧ (gi 2 = nI ln2 ∨ gi 2 = -1) ∧ nt ≤ 10 ∧ gi 5 = nI nt ∧ 1048576 ≤ F9) : lw_RH (upd (upd (upd (upd (upd fi 3 (if ac_count (ai 9) na (2 ^ na - 1) ≤ z then 1 else (fi 3))) 4 (if ac_count (ai 9) na (2 ^ na - 1) ≤ z then 1 else (fi 4))) 5 (if ac_count (ai 9) na (2 ^ na - 1) ≤ z then (nI (ac_rk fi ai (va_up (va_up (va_up al 16 (ac_vals (al 12) (al 13) (al 16) 12)) 17 (ac_rs ai (va_up al 16 (ac_vals (al 12) (al 13) (al 16) 12)) na)) 18 (ac_rd fi ai (va_up al 16 (ac_vals (al 12) (al 13) (al 16) 12)) na nr)) na nr).2.1) else (fi 5))) 6 (if ac_count (ai 9) na (2 ^ na - 1) ≤ z then (nI (ac_rk fi ai (va_up (va_up (va_up al 16 (ac_vals (al 12) (al 13) (al 16) 12)) 17 (ac_rs ai (va_up al 16 (ac_vals (al 12) (al 13) (al 16) 12)) na)) 18 (ac_rd fi ai (va_up al 16 (ac_vals (al 12) (al 13) (al 16) 12)) na nr)) na nr).2.2) else (fi 6))) 7 (if ac_count (ai 9) na (2 ^ na - 1) ≤ z then (ac_freed (ai 5) (nI (ac_rk fi ai (va_up (va_up (va_up al 16 (ac_vals (al 12) (al 13) (al 16) 12)) 17 (ac_rs ai (va_up al 16 (ac_vals (al 12) (al 13) (al 16) 12)) na)) 18 (ac_rd fi ai (va_up al 16 (ac_vals (al 12) (al 13) (al 16) 12)) na nr)) na nr).2.2) na) else (fi 7))) (vp_updL fl 0 (if ac_count (ai 9) na (2 ^ na - 1) ≤ z then (ac_rg fi ai (va_up al 16 (ac_vals (al 12) (al 13) (al 16) 12)) na nr) else (fl 0))) (va_up ai 19 (if ac_count (ai 9) na (2 ^ na - 1) ≤ z then ((ac_rk fi ai (va_up (va_up (va_up al 16 (ac_vals (al 12) (al 13) (al 16) 12)) 17 (ac_rs ai (va_up al 16 (ac_vals (al 12) (al 13) (al 16) 12)) na)) 18 (ac_rd fi ai (va_up al 16 (ac_vals (al 12) (al 13) (al 16) 12)) na nr)) na nr).1) else (ai 19))) (va_up (va_up (va_up (va_up al 16 (if ac_count (ai 9) na (2 ^ na - 1) ≤ z then (ac_vals (al 12) (al 13) (al 16) 12) else (al 16))) 17 (if ac_count (ai 9) na (2 ^ na - 1) ≤ z then (ac_rs ai (va_up al 16 (ac_vals (al 12) (al 13) (al 16) 12)) na) else (al 17))) 18 (if ac_count (ai 9) na (2 ^ na - 1) ≤ z then (ac_rd fi ai (va_up al 16 (ac_vals (al 12) (al 13) (al 16) 12)) na nr) else (al 18))) 20 (if ac_count (ai 9) na (2 ^ na - 1) ≤ z then (ac_rb fi ai (va_up (va_up (va_up al 16 (ac_vals (al 12) (al 13) (al 16) 12)) 17 (ac_rs ai (va_up al 16 (ac_vals (al 12) (al 13) (al 16) 12)) na)) 18 (ac_rd fi ai (va_up al 16 (ac_vals (al 12) (al 13) (al 16) 12)) na nr)) na (nI (ac_rk fi ai (va_up (va_up (va_up al 16 (ac_vals (al 12) (al 13) (al 16) 12)) 17 (ac_rs ai (va_up al 16 (ac_vals (al 12) (al 13) (al 16) 12)) na)) 18 (ac_rd fi ai (va_up al 16 (ac_vals (al 12) (al 13) (al 16) 12)) na nr)) na nr).2.2)) else (al 20))) (upd (upd (upd (upd gi 2 (if rc_runOk (rc_st (bi 6) na2 (2 ^ na2 - 1)) z then nI (rc_runQ bi bl (gi 7) (gi 8) na2 nr2 F9).2.1 else (gi 2))) 3 (if rc_runOk (rc_st (bi 6) na2 (2 ^ na2 - 1)) z then 1 else (gi 3))) 4 (if rc_runOk (rc_st (bi 6) na2 (2 ^ na2 - 1)) z then rc_rest (bi 1) (nI (rc_runQ bi bl (gi 7) (gi 8) na2 nr2 F9).1) na2 else (gi 4))) 5 (if rc_runOk (rc_st (bi 6) na2 (2 ^ na2 - 1)) z then (gi 0) else (gi 5))) (vp_updL gl 0 (if rc_runOk (rc_st (bi 6) na2 (2 ^ na2 - 1)) z then (rc_bwQ bi bl (gi 7) (gi 8) na2 nr2).1 else (gl 0))) (va_up (va_up bi 14 (if rc_runOk (rc_st (bi 6) na2 (2 ^ na2 - 1)) z then (rc_runQ bi bl (gi 7) (gi 8) na2 nr2 F9).2.2.1 else (bi 14))) 17 (if rc_runOk (rc_st (bi 6) na2 (2 ^ na2 - 1)) z then rc_bwN bi na2 else (bi 17))) (va_up (va_up (va_up bl 15 (if rc_runOk (rc_st (bi 6) na2 (2 ^ na2 - 1)) z then rc_bro (rc_brings (bi 1) (bi 5) (bi 10) (bi 11) (bl 9) (gi 7) (gi 8) na2 (nI (rc_runQ bi bl (gi 7) (gi 8) na2 nr2 F9).1)) (bl 15) 12 else (bl 15))) 18 (if rc_runOk (rc_st (bi 6) na2 (2 ^ na2 - 1)) z then (rc_runQ bi bl (gi 7) (gi 8) na2 nr2 F9).2.2.2 else (bl 18))) 19 (if rc_runOk (rc_st (bi 6) na2 (2 ^ na2 - 1)) z then rc_bwV bi bl (gi 7) (gi 8) na2 nr2 else (bl 19))) := by
  obtain rfl : na = na2 := (lw_na hk2.1.1 (by have := hk2.1.2.1; omega) hk.1 (by have := hk.2.1; omega) hA.1.1).symm
  have ecl : (fi 0).toNatClampNeg = na := by rw [hk.1]; exact nI_clamp (by have := hk.2.1; omega)
  have hDn : nd_Rel (ai 9) (bi 6) na := by rw [← ecl]; exact hD
  obtain rfl : nr = nr2 := (lw_na hk2.1.2.2.1 (by have := hk2.1.2.2.2.1; omega) hk.2.2.1 (by have := hk.2.2.2.1; omega) hA.1.2.1).symm
  have e : ac_count (ai 9) na (2 ^ na - 1) ≤ z ↔ (rc_runOk (rc_st (bi 6) na (2 ^ na - 1)) z) := (by unfold rc_runOk; rw [states_ok hk.2.1 hDn _ (Nat.le_refl _)])
  by_cases c : ac_count (ai 9) na (2 ^ na - 1) ≤ z
  · have c2 := e.mp c
    simp only [if_pos c, if_pos c2]
    obtain ⟨r1, -⟩ := run_all (F9 := F9) hk hk2 hA hDn hG hN.1 hX.2.2.2.2.2.2
    obtain ⟨s1, s2⟩ := rk_q fi ai (va_up (va_up (va_up al 16 (ac_vals (al 12) (al 13) (al 16) 12)) 17 (ac_rs ai (va_up al 16 (ac_vals (al 12) (al 13) (al 16) 12)) na)) 18 (ac_rd fi ai (va_up al 16 (ac_vals (al 12) (al 13) (al 16) 12)) na nr)) hk.2.1 nr
    have l10 := (rc_runQ_ok hk2 (gi 7) (gi 8) F9).1
    intro _
    refine ⟨fun c9 hc9 => ?_, fun c9 hc9 h9 => ?_⟩
    · show bt (nI (ac_rk fi ai (va_up (va_up (va_up al 16 (ac_vals (al 12) (al 13) (al 16) 12)) 17 (ac_rs ai (va_up al 16 (ac_vals (al 12) (al 13) (al 16) 12)) na)) 18 (ac_rd fi ai (va_up al 16 (ac_vals (al 12) (al 13) (al 16) 12)) na nr)) na nr).2.2) c9 = true ↔ ¬ rc_inrow (rc_runQ bi bl (gi 7) (gi 8) na nr F9).2.2.1 (nI c9) (rc_len (nI (rc_runQ bi bl (gi 7) (gi 8) na nr F9).2.1)) = 0
      rw [rc_len_nI l10]
      have h := s2 c9 hc9
      rw [r1] at h
      rw [r1]
      exact h
    · show c9 < (fi 0).toNatClampNeg
      rw [ecl]
      rcases Nat.lt_or_ge c9 na with y | y
      · exact y
      · have h9 : bt (nI (ac_rk fi ai (va_up (va_up (va_up al 16 (ac_vals (al 12) (al 13) (al 16) 12)) 17 (ac_rs ai (va_up al 16 (ac_vals (al 12) (al 13) (al 16) 12)) na)) 18 (ac_rd fi ai (va_up al 16 (ac_vals (al 12) (al 13) (al 16) 12)) na nr)) na nr).2.2) c9 = true := h9
        rw [nI_out s1 c9 y hc9] at h9
        cases h9
  · have c2 : ¬ (rc_runOk (rc_st (bi 6) na (2 ^ na - 1)) z) := fun h => c (e.mpr h)
    simp only [if_neg c, if_neg c2]
    exact hR
set_option maxRecDepth 100000 in
theorem lrH_test {na nr na2 nr2 ln ln2 nt F9 : Nat} {fi : Nat → Int32} {fl : Nat → Int64} {ai : Nat → Nat → Int32} {al : Nat → Nat → Int64} {gi : Nat → Int32} {gl : Nat → Int64} {bi : Nat → Nat → Int32} {bl : Nat → Nat → Int64} (x : Int32) (z : Int64) (hk : ac_K na nr fi ai) (hk2 : rc_K na2 nr2 gi bi bl) (hA : lw_RA fi fl ai al gi gl bi bl) (hD : lw_RD fi fl ai al gi gl bi bl) (hF : lw_RF fi fl ai al gi gl bi bl) (hG : lw_RG fi fl ai al gi gl bi bl) (hN : lw_RN fi fl ai al gi gl bi bl) (hR : lw_RH fi fl ai al gi gl bi bl) (hX : ln ≤ 10 ∧ fi 5 = nI ln ∧ ln2 ≤ 10 ∧ (gi 2 = nI ln2 ∨ gi 2 = -1) ∧ nt ≤ 10 ∧ gi 5 = nI nt ∧ 1048576 ≤ F9) : lw_RH fi fl ai (va_up (va_up (va_up al 16 (if ac_tstOk x z then (vp_updL (vp_updL (ac_vals (al 12) (al 13) (al 16) 12) x.toNatClampNeg ((al 12) x.toNatClampNeg * 27720)) x.toNatClampNeg ((al 12) x.toNatClampNeg * 0)) else (al 16))) 17 (if ac_tstOk x z then (ac_rs ai (va_up (va_up (va_up al 16 (vp_updL (vp_updL (ac_vals (al 12) (al 13) (al 16) 12) x.toNatClampNeg ((al 12) x.toNatClampNeg * 27720)) x.toNatClampNeg ((al 12) x.toNatClampNeg * 0))) 17 (ac_rs ai (va_up (va_up (va_up al 16 (vp_updL (ac_vals (al 12) (al 13) (al 16) 12) x.toNatClampNeg ((al 12) x.toNatClampNeg * 27720))) 17 (ac_rs ai (va_up al 16 (ac_vals (al 12) (al 13) (al 16) 12)) na)) 18 (ac_rd fi ai (va_up al 16 (ac_vals (al 12) (al 13) (al 16) 12)) na nr)) na)) 18 (ac_rd fi ai (va_up (va_up (va_up al 16 (vp_updL (ac_vals (al 12) (al 13) (al 16) 12) x.toNatClampNeg ((al 12) x.toNatClampNeg * 27720))) 17 (ac_rs ai (va_up al 16 (ac_vals (al 12) (al 13) (al 16) 12)) na)) 18 (ac_rd fi ai (va_up al 16 (ac_vals (al 12) (al 13) (al 16) 12)) na nr)) na nr)) na) else (al 17))) 18 (if ac_tstOk x z then (ac_rd fi ai (va_up (va_up (va_up al 16 (vp_updL (vp_updL (ac_vals (al 12) (al 13) (al 16) 12) x.toNatClampNeg ((al 12) x.toNatClampNeg * 27720)) x.toNatClampNeg ((al 12) x.toNatClampNeg * 0))) 17 (ac_rs ai (va_up (va_up (va_up al 16 (vp_updL (ac_vals (al 12) (al 13) (al 16) 12) x.toNatClampNeg ((al 12) x.toNatClampNeg * 27720))) 17 (ac_rs ai (va_up al 16 (ac_vals (al 12) (al 13) (al 16) 12)) na)) 18 (ac_rd fi ai (va_up al 16 (ac_vals (al 12) (al 13) (al 16) 12)) na nr)) na)) 18 (ac_rd fi ai (va_up (va_up (va_up al 16 (vp_updL (ac_vals (al 12) (al 13) (al 16) 12) x.toNatClampNeg ((al 12) x.toNatClampNeg * 27720))) 17 (ac_rs ai (va_up al 16 (ac_vals (al 12) (al 13) (al 16) 12)) na)) 18 (ac_rd fi ai (va_up al 16 (ac_vals (al 12) (al 13) (al 16) 12)) na nr)) na nr)) na nr) else (al 18))) (upd (upd gi 7 (if ac_tstOk x z then (-1) else (gi 7))) 8 (if ac_tstOk x z then 0 else (gi 8))) gl (va_up bi 17 (if ac_tstOk x z then (rc_bwA (rc_bwA (rc_bwA bi na2) na2) na2) 17 else (bi 17))) (va_up (va_up bl 18 (if ac_tstOk x z then (rc_bwL (rc_bwA (rc_bwA bi na2) na2) (rc_bwL (rc_bwA bi na2) (rc_bwL bi bl (-1) 0 na2 nr2) x 1 na2 nr2) x 0 na2 nr2) 18 else (bl 18))) 19 (if ac_tstOk x z then (rc_bwL (rc_bwA (rc_bwA bi na2) na2) (rc_bwL (rc_bwA bi na2) (rc_bwL bi bl (-1) 0 na2 nr2) x 1 na2 nr2) x 0 na2 nr2) 19 else (bl 19))) := by
  exact hR
set_option maxRecDepth 100000 in
theorem lrH_stations {na nr na2 nr2 ln ln2 nt F9 : Nat} {fi : Nat → Int32} {fl : Nat → Int64} {ai : Nat → Nat → Int32} {al : Nat → Nat → Int64} {gi : Nat → Int32} {gl : Nat → Int64} {bi : Nat → Nat → Int32} {bl : Nat → Nat → Int64} (x : Int32) (hk : ac_K na nr fi ai) (hk2 : rc_K na2 nr2 gi bi bl) (hA : lw_RA fi fl ai al gi gl bi bl) (hD : lw_RD fi fl ai al gi gl bi bl) (hF : lw_RF fi fl ai al gi gl bi bl) (hG : lw_RG fi fl ai al gi gl bi bl) (hN : lw_RN fi fl ai al gi gl bi bl) (hR : lw_RH fi fl ai al gi gl bi bl) (hX : ln ≤ 10 ∧ fi 5 = nI ln ∧ ln2 ≤ 10 ∧ (gi 2 = nI ln2 ∨ gi 2 = -1) ∧ nt ≤ 10 ∧ gi 5 = nI nt ∧ 1048576 ≤ F9) : lw_RH (upd (upd fi 8 (if ac_stOk (fi 3) x then (fi 6) else (fi 8))) 9 (if ac_stOk (fi 3) x then (nI x.toNatClampNeg) else (fi 9))) (vp_updL (vp_updL fl 1 (if ac_stOk (fi 3) x then ((ac_try (al 8) (ai 9) (fi 6) (nI x.toNatClampNeg) (ac_least (al 8) (fi 6) (nI x.toNatClampNeg) na) na na 0 0 ((ai 21), (ai 22), (ac_fillL 0 (al 23) 4), (ac_tot (al 8) (fi 6) na + 1))).2.2.2) else (fl 1))) 2 (if ac_stOk (fi 3) x then (ac_least (al 8) (fi 6) (nI x.toNatClampNeg) na) else (fl 2))) (va_up (va_up ai 21 (if ac_stOk (fi 3) x then ((ac_try (al 8) (ai 9) (fi 6) (nI x.toNatClampNeg) (ac_least (al 8) (fi 6) (nI x.toNatClampNeg) na) na na 0 0 ((ai 21), (ai 22), (ac_fillL 0 (al 23) 4), (ac_tot (al 8) (fi 6) na + 1))).1) else (ai 21))) 22 (if ac_stOk (fi 3) x then ((ac_try (al 8) (ai 9) (fi 6) (nI x.toNatClampNeg) (ac_least (al 8) (fi 6) (nI x.toNatClampNeg) na) na na 0 0 ((ai 21), (ai 22), (ac_fillL 0 (al 23) 4), (ac_tot (al 8) (fi 6) na + 1))).2.1) else (ai 22))) (va_up al 23 (if ac_stOk (fi 3) x then ((ac_try (al 8) (ai 9) (fi 6) (nI x.toNatClampNeg) (ac_least (al 8) (fi 6) (nI x.toNatClampNeg) na) na na 0 0 ((ai 21), (ai 22), (ac_fillL 0 (al 23) 4), (ac_tot (al 8) (fi 6) na + 1))).2.2.1) else (al 23))) (upd gi 6 (if rc_stOk (gi 2) x then 1 else (gi 6))) gl (va_up (va_up (va_up bi 16 (if rc_stOk (gi 2) x then (rc_sR bi (bl 4) (gi 2) na2 (x.toNatClampNeg) F9).2.2 else (bi 16))) 20 (if rc_stOk (gi 2) x then (rc_sR bi (bl 4) (gi 2) na2 (x.toNatClampNeg) F9).2.1 else (bi 20))) 21 (if rc_stOk (gi 2) x then rc_sB bi na2 else (bi 21))) bl := by
  exact hR
-- ===== stations: the best sharing out, and the first of the best =====
def sn_V (set : Int32) (st : Nat) (g : Nat → Int32) : Prop := ∀ a, a < 10 → (bt set a = true → ∃ d, d < st ∧ g a = nI d) ∧ (bt set a = false → g a = -1)
def sn_F (set : Int32) (ne : Nat → Int32) (n : Nat) (g : Nat → Int32) : Prop := ∀ a b, a < n → b < n → bt set a = true → bt set b = true → bt (ne a) b = true → (g b).toInt ≤ (g a).toInt
def sn_s (g : Nat → Int32) (co : Nat → Int64) (q : Nat) : Nat → Int
  | 0 => 0
  | k + 1 => sn_s g co q k + (if g k = nI q then (co k).toInt else 0)
def sn_m (g : Nat → Int32) (co : Nat → Int64) (k : Nat) : Nat → Int
  | 0 => 0
  | Q + 1 => if sn_s g co Q k ≤ sn_m g co k Q then sn_m g co k Q else sn_s g co Q k
theorem sn_s_rng {g : Nat → Int32} {co : Nat → Int64} (hco : ∀ a, rc_cents (co a)) (q : Nat) : ∀ k : Nat, 0 ≤ sn_s g co q k ∧ sn_s g co q k ≤ 1000000 * (k : Int)
  | 0 => by rw [sn_s]; omega
  | k + 1 => by
    have ih := sn_s_rng (g := g) hco q k
    have h := hco k
    rw [sn_s]
    split <;> omega
theorem sn_ls {g : Nat → Int32} {co : Nat → Int64} (hco : ∀ a, rc_cents (co a)) (q : Nat) : ∀ k, k ≤ 10 → (rc_ls g co q k).toInt = sn_s g co q k
  | 0, _ => by show (0 : Int64).toInt = 0; decide +kernel
  | k + 1, hk => by
    have e0 : (0 : Int64).toInt = 0 := by decide +kernel
    have ih := sn_ls (g := g) hco q k (by omega)
    have r := sn_s_rng (g := g) hco q k
    have h := hco k
    rw [rc_ls, sn_s]
    by_cases c : g k = nI q
    · rw [if_pos c, if_pos c, i64_add (by omega) (by omega), ih]
    · rw [if_neg c, if_neg c, i64_add (by omega) (by omega), ih, e0]
theorem sn_lo {g : Nat → Int32} {co : Nat → Int64} (hco : ∀ a, rc_cents (co a)) {k : Nat} (hk : k ≤ 10) : ∀ Q, (rc_lo g co k Q).toInt = sn_m g co k Q
  | 0 => by show (0 : Int64).toInt = 0; decide +kernel
  | Q + 1 => by
    have ih := sn_lo (g := g) hco hk Q
    rw [rc_lo, sn_m]
    by_cases c : rc_ls g co Q k ≤ rc_lo g co k Q
    · rw [if_pos c, if_pos (by have := Int64.le_iff_toInt_le.mp c; rw [sn_ls hco Q k hk, ih] at this; exact this), ih]
    · rw [if_neg c, if_neg (fun z => c (Int64.le_iff_toInt_le.mpr (by rw [sn_ls hco Q k hk, ih]; exact z))), sn_ls hco Q k hk]
theorem sn_m_ok (g : Nat → Int32) (co : Nat → Int64) (k : Nat) : ∀ Q, 0 ≤ sn_m g co k Q ∧ (∀ q, q < Q → sn_s g co q k ≤ sn_m g co k Q) ∧ (sn_m g co k Q = 0 ∨ ∃ q, q < Q ∧ sn_m g co k Q = sn_s g co q k)
  | 0 => ⟨Int.le_refl 0, fun q h => by omega, Or.inl rfl⟩
  | Q + 1 => by
    obtain ⟨h1, h2, h3⟩ := sn_m_ok g co k Q
    rw [sn_m]
    by_cases c : sn_s g co Q k ≤ sn_m g co k Q
    · rw [if_pos c]
      refine ⟨h1, fun q hq => ?_, h3.imp id (fun ⟨q, g1, g2⟩ => ⟨q, by omega, g2⟩)⟩
      by_cases e : q = Q
      · rw [e]; exact c
      · exact h2 q (by omega)
    · rw [if_neg c]
      refine ⟨by omega, fun q hq => ?_, Or.inr ⟨Q, by omega, rfl⟩⟩
      by_cases e : q = Q
      · rw [e]; exact Int.le_refl _
      · have := h2 q (by omega); omega
theorem sn_s_congr {g h : Nat → Int32} (co : Nat → Int64) (q : Nat) : ∀ k, (∀ b, b < k → g b = h b) → sn_s g co q k = sn_s h co q k
  | 0, _ => rfl
  | k + 1, e => by rw [sn_s, sn_s, sn_s_congr co q k (fun b hb => e b (by omega)), e k (by omega)]
theorem sn_m_congr {g h : Nat → Int32} (co : Nat → Int64) {k : Nat} (e : ∀ b, b < k → g b = h b) : ∀ Q, sn_m g co k Q = sn_m h co k Q
  | 0 => rfl
  | Q + 1 => by rw [sn_m, sn_m, sn_m_congr co e Q, sn_s_congr co Q k e]
theorem sn_m_le {g : Nat → Int32} {co : Nat → Int64} {k j : Nat} (h : ∀ q, q < 4 → sn_s g co q k ≤ sn_s g co q j) : sn_m g co k 4 ≤ sn_m g co j 4 := by
  obtain ⟨a1, a2, a3⟩ := sn_m_ok g co k 4
  obtain ⟨b1, b2, b3⟩ := sn_m_ok g co j 4
  rcases a3 with e | ⟨q, hq, e⟩
  · omega
  · have := h q hq
    have := b2 q hq
    omega
theorem sn_s_mono {g : Nat → Int32} {co : Nat → Int64} (hco : ∀ a, rc_cents (co a)) (q k : Nat) : ∀ j, sn_s g co q k ≤ sn_s g co q (k + j)
  | 0 => Int.le_refl _
  | j + 1 => by
    have ih := sn_s_mono (g := g) hco q k j
    have := hco (k + j)
    rw [show k + (j + 1) = (k + j) + 1 by omega, sn_s]
    split <;> omega
theorem sn_m_mono {g : Nat → Int32} {co : Nat → Int64} (hco : ∀ a, rc_cents (co a)) {k n : Nat} (h : k ≤ n) : sn_m g co k 4 ≤ sn_m g co n 4 :=
  sn_m_le (fun q _ => by have := sn_s_mono (g := g) hco q k (n - k); rw [show k + (n - k) = n by omega] at this; exact this)
theorem sn_none {g : Nat → Int32} {k : Nat} (h : g k = -1) (q : Nat) (hq : q < 12) : ¬ g k = nI q := fun z => nd_m1 hq (z.symm.trans h)
theorem sn_m_skip {g : Nat → Int32} (co : Nat → Int64) {k : Nat} (h : g k = -1) : ∀ Q, Q ≤ 4 → sn_m g co (k + 1) Q = sn_m g co k Q
  | 0, _ => rfl
  | Q + 1, hQ => by
    have : sn_s g co Q (k + 1) = sn_s g co Q k := by rw [sn_s, if_neg (sn_none h Q (by omega)), Int.add_zero]
    rw [sn_m, sn_m, sn_m_skip co h Q (by omega), this]
theorem sn_m_put {g : Nat → Int32} {co : Nat → Int64} (hco : ∀ a, rc_cents (co a)) {k p : Nat} (hp : p < 4) (h : g k = nI p) : sn_m g co (k + 1) 4 = if sn_s g co p k + (co k).toInt < sn_m g co k 4 then sn_m g co k 4 else sn_s g co p k + (co k).toInt := by
  obtain ⟨a1, a2, a3⟩ := sn_m_ok g co k 4
  obtain ⟨b1, b2, b3⟩ := sn_m_ok g co (k + 1) 4
  have ep : sn_s g co p (k + 1) = sn_s g co p k + (co k).toInt := by rw [sn_s, if_pos h]
  have en : ∀ q, q < 4 → ¬ q = p → sn_s g co q (k + 1) = sn_s g co q k := fun q hq hqp => by
    rw [sn_s, if_neg (fun z => hqp ((nI_eq (by omega) (by omega)).mp (z.symm.trans h))), Int.add_zero]
  have hc := hco k
  have hup : sn_m g co k 4 ≤ sn_m g co (k + 1) 4 := sn_m_mono hco (by omega)
  have hpp := b2 p hp
  have hs := (sn_s_rng (g := g) hco p k).1
  split
  · rename_i c
    rcases b3 with e | ⟨q, hq, e⟩
    · omega
    · by_cases hqp : q = p
      · rw [hqp, ep] at e; omega
      · rw [en q hq hqp] at e
        have := a2 q hq; omega
  · rename_i c
    rcases b3 with e | ⟨q, hq, e⟩
    · omega
    · by_cases hqp : q = p
      · rw [hqp, ep] at e; omega
      · rw [en q hq hqp] at e
        have := a2 q hq; omega
theorem sn_dig {set : Int32} {st : Nat} (h4 : st ≤ 4) {g : Nat → Int32} (h : sn_V set st g) {a : Nat} (ha : a < 10) : (g a).toNatClampNeg ≤ 3 := by
  cases e : bt set a with
  | true => obtain ⟨d, hd, e2⟩ := (h a ha).1 e; rw [e2, nI_clamp (by omega)]; omega
  | false => rw [(h a ha).2 e]; decide +kernel
theorem sn_lex {set : Int32} {st : Nat} (h4 : st ≤ 4) {g h : Nat → Int32} (hg : sn_V set st g) (hh : sn_V set st h) {a n : Nat} (hn : n ≤ 10) (han : a < n) (e : ∀ b, b < a → g b = h b) (hlt : (g a).toNatClampNeg < (h a).toNatClampNeg) : rc_rk g n < rc_rk h n := by
  have go : ∀ j, a + 1 + j ≤ 10 → rc_rk g (a + 1 + j) < rc_rk h (a + 1 + j) := by
    intro j
    induction j with
    | zero =>
      intro _
      show rc_rk g (a + 1) < rc_rk h (a + 1)
      rw [rc_rk, rc_rk, rc_rk_congr a e]; omega
    | succ j ih =>
      intro hj
      have := ih (by omega)
      have d1 := sn_dig h4 hg (show a + 1 + j < 10 by omega)
      rw [show a + 1 + (j + 1) = (a + 1 + j) + 1 by omega, rc_rk, rc_rk]; omega
  have := go (n - (a + 1)) (by omega)
  rw [show a + 1 + (n - (a + 1)) = n by omega] at this
  exact this
theorem sn_uniq {set : Int32} {st : Nat} (h4 : st ≤ 4) {g h : Nat → Int32} (hg : sn_V set st g) (hh : sn_V set st h) : ∀ n, n ≤ 10 → rc_rk g n = rc_rk h n → ∀ a, a < n → g a = h a
  | 0, _, _, a, ha => by omega
  | n + 1, hn, e, a, ha => by
    have d1 := sn_dig h4 hg (show n < 10 by omega)
    have d2 := sn_dig h4 hh (show n < 10 by omega)
    rw [rc_rk, rc_rk] at e
    by_cases q : a = n
    · subst q
      have ed : (g a).toNatClampNeg = (h a).toNatClampNeg := by omega
      cases w : bt set a with
      | true =>
        obtain ⟨x, hx, ex⟩ := (hg a (by omega)).1 w
        obtain ⟨y, hy, ey⟩ := (hh a (by omega)).1 w
        rw [ex, ey, nI_clamp (by omega), nI_clamp (by omega)] at ed
        rw [ex, ey, ed]
      | false => rw [(hg a (by omega)).2 w, (hh a (by omega)).2 w]
    · exact sn_uniq h4 hg hh n (by omega) (by omega) a (by omega)
abbrev sn_val (g : Nat → Int32) (co : Nat → Int64) (n : Nat) : Int := sn_m g co n 4
def sn_best (set : Int32) (ne : Nat → Int32) (co : Nat → Int64) (st n : Nat) (g : Nat → Int32) : Prop :=
  sn_V set st g ∧ sn_F set ne n g ∧ ∀ h, sn_V set st h → sn_F set ne n h → sn_val g co n ≤ sn_val h co n ∧ (rc_rk h n < rc_rk g n → sn_val g co n < sn_val h co n)
theorem sn_best_uniq {set : Int32} {ne : Nat → Int32} {co : Nat → Int64} {st n : Nat} (h4 : st ≤ 4) (hn : n ≤ 10) (hset : ∀ a, a < 32 → bt set a = true → a < n) {g h : Nat → Int32} (hg : sn_best set ne co st n g) (hh : sn_best set ne co st n h) : sn_val g co n = sn_val h co n ∧ ∀ a, a < 10 → g a = h a := by
  obtain ⟨g1, g2, g3⟩ := hg
  obtain ⟨h1, h2, h3⟩ := hh
  have a1 := g3 h h1 h2
  have a2 := h3 g g1 g2
  have er : rc_rk g n = rc_rk h n := by
    rcases Nat.lt_trichotomy (rc_rk g n) (rc_rk h n) with z | z | z
    · have := a2.2 z; omega
    · exact z
    · have := a1.2 z; omega
  refine ⟨by omega, fun a ha => ?_⟩
  rcases Nat.lt_or_ge a n with z | z
  · exact sn_uniq h4 g1 h1 n hn er a z
  · have w : bt set a = false := nd_nt (fun w => by have := hset a (by omega) w; omega)
    rw [(g1 a ha).2 w, (h1 a ha).2 w]
-- the reference's odometer goes through all of them
theorem sn_dg {set : Int32} {st : Nat} {g : Nat → Int32} (h : sn_V set st g) : rc_dg st g := by
  intro a ha
  cases w : bt set a with
  | true => exact Or.inr ((h a ha).1 w)
  | false => exact Or.inl ((h a ha).2 w)
theorem sn_V_upd {set : Int32} {st : Nat} {g : Nat → Int32} (h : sn_V set st g) {a : Nat} {v : Int32} (h1 : bt set a = true → ∃ d, d < st ∧ v = nI d) (h2 : bt set a = false → v = -1) : sn_V set st (upd g a v) := by
  intro b hb
  by_cases e : b = a
  · rw [show upd g a v b = v from if_pos e, e]; exact ⟨h1, h2⟩
  · rw [show upd g a v b = g b from if_neg e]; exact h b hb
theorem next_succ {set : Int32} {st : Nat} (h1 : 1 ≤ st) (h4 : st ≤ 4) : ∀ j, j ≤ 10 → ∀ f : Nat → Int32, sn_V set st f → sn_V set st (rc_next (nI st) j f).1 ∧
    (((rc_next (nI st) j f).2 = 0 ∧ ∀ g, sn_V set st g → rc_rk g j ≤ rc_rk f j) ∨ (¬ (rc_next (nI st) j f).2 = 0 ∧ rc_rk f j < rc_rk (rc_next (nI st) j f).1 j ∧ ∀ g, sn_V set st g → rc_rk f j < rc_rk g j → rc_rk (rc_next (nI st) j f).1 j ≤ rc_rk g j))
  | 0, _, f, h => ⟨h, Or.inl ⟨rfl, fun g _ => Nat.le_refl _⟩⟩
  | a + 1, hj, f, h => by
    have rec9 : ∀ v : Int32, (bt set a = true → ∃ d, d < st ∧ v = nI d) → (bt set a = false → v = -1) → v.toNatClampNeg = 0 → (∀ g, sn_V set st g → (g a).toNatClampNeg ≤ (f a).toNatClampNeg) →
        sn_V set st (rc_next (nI st) a (upd f a v)).1 ∧ (((rc_next (nI st) a (upd f a v)).2 = 0 ∧ ∀ g, sn_V set st g → rc_rk g (a + 1) ≤ rc_rk f (a + 1)) ∨ (¬ (rc_next (nI st) a (upd f a v)).2 = 0 ∧ rc_rk f (a + 1) < rc_rk (rc_next (nI st) a (upd f a v)).1 (a + 1) ∧ ∀ g, sn_V set st g → rc_rk f (a + 1) < rc_rk g (a + 1) → rc_rk (rc_next (nI st) a (upd f a v)).1 (a + 1) ≤ rc_rk g (a + 1))) := by
      intro v v1 v2 v3 hmax
      have hu := sn_V_upd h v1 v2
      obtain ⟨i1, i2⟩ := next_succ h1 h4 a (by omega) (upd f a v) hu
      have hsame := (rc_next_ok h1 h4 a (by omega) (upd f a v) (sn_dg hu)).2.1 a (Nat.le_refl a)
      rw [show upd f a v a = v from if_pos rfl] at hsame
      have ek : rc_rk (upd f a v) a = rc_rk f a := rc_rk_congr a (fun b hb => if_neg (by omega))
      rw [ek] at i2
      refine ⟨i1, ?_⟩
      have df := sn_dig h4 h (show a < 10 by omega)
      rcases i2 with ⟨i3, i4⟩ | ⟨i3, i4, i5⟩
      · left
        refine ⟨i3, fun g hg => ?_⟩
        have := i4 g hg
        have := hmax g hg
        rw [rc_rk, rc_rk]; omega
      · right
        refine ⟨i3, ?_, fun g hg hlt => ?_⟩
        · rw [rc_rk, rc_rk, hsame, v3]; omega
        · have := hmax g hg
          rw [rc_rk, rc_rk] at hlt
          have := i5 g hg (by omega)
          rw [rc_rk, rc_rk, hsame, v3]; omega
    rw [rc_next]
    cases w : bt set a with
    | false =>
      have ef := (h a (by omega)).2 w
      rw [if_pos (by rw [ef]; decide +kernel)]
      refine rec9 (-1) (fun z => by rw [w] at z; cases z) (fun _ => rfl) (by decide +kernel) (fun g hg => ?_)
      rw [(hg a (by omega)).2 w, ef]; exact Nat.le_refl _
    | true =>
      obtain ⟨d, hd, ef⟩ := (h a (by omega)).1 w
      rw [if_neg (by rw [ef]; exact nI_pos (by omega))]
      by_cases c2 : nI st - 1 ≤ f a
      · rw [if_pos c2]
        refine rec9 0 (fun _ => ⟨0, by omega, rfl⟩) (fun z => by rw [w] at z; cases z) (by decide +kernel) (fun g hg => ?_)
        obtain ⟨x, hx, ex⟩ := (hg a (by omega)).1 w
        rw [ef, show st = (st - 1) + 1 by omega, nI_pred, nI_leI (by omega) (by omega)] at c2
        rw [ex, ef, nI_clamp (by omega), nI_clamp (by omega)]; omega
      · rw [if_neg c2]
        have hd1 : d + 1 < st := by
          rcases Nat.lt_or_ge (d + 1) st with z | z
          · exact z
          · refine absurd ?_ c2
            rw [ef, show st = (st - 1) + 1 by omega, nI_pred, nI_leI (by omega) (by omega)]
            omega
        have e1 : f a + 1 = nI (d + 1) := by rw [ef]; exact nI_1 d
        have ek : rc_rk (upd f a (f a + 1)) (a + 1) = rc_rk f (a + 1) + 1 := by
          rw [rc_rk, rc_rk, rc_rk_congr a (fun b hb => show upd f a (f a + 1) b = f b from if_neg (by omega)), show upd f a (f a + 1) a = nI (d + 1) from (if_pos rfl).trans e1, ef, nI_clamp (by omega), nI_clamp (by omega)]
          omega
        refine ⟨sn_V_upd h (fun _ => ⟨d + 1, hd1, e1⟩) (fun z => by rw [w] at z; cases z), Or.inr ⟨by show ¬ (1 : Int32) = 0; decide, ?_, fun g hg hlt => ?_⟩⟩
        · show rc_rk f (a + 1) < rc_rk (upd f a (f a + 1)) (a + 1)
          omega
        · show rc_rk (upd f a (f a + 1)) (a + 1) ≤ _
          omega
theorem cp_at (tr pl : Nat → Int32) : ∀ k a, a < k → rc_cp tr pl k a = tr a
  | 0, a, h => by omega
  | k + 1, a, h => by
    rw [rc_cp]
    by_cases e : a = k
    · rw [e]; exact if_pos rfl
    · exact (if_neg e).trans (cp_at tr pl k a (by omega))
theorem rtry_ok {set : Int32} {ne bh : Nat → Int32} {co : Nat → Int64} {st n : Nat} (hco : ∀ a, rc_cents (co a)) (h1 : 1 ≤ st) (h4 : st ≤ 4) (hn : n ≤ 10) (hset : ∀ a, a < 32 → bt set a = true → a < n)
    (hka : ∀ g, sn_V set st g → (¬ rc_ka g bh n n = 0 ↔ sn_F set ne n g)) (hex : ∃ g, sn_V set st g ∧ sn_F set ne n g) : ∀ fuel (best : Int64) (tr pl : Nat → Int32), sn_V set st tr → 4 ^ n ≤ fuel + rc_rk tr n →
    ((best = -1 ∧ ∀ h, sn_V set st h → sn_F set ne n h → rc_rk tr n ≤ rc_rk h n) ∨ (∃ P, sn_V set st P ∧ sn_F set ne n P ∧ (∀ a, a < 10 → pl a = P a) ∧ best.toInt = sn_val P co n ∧ rc_rk P n < rc_rk tr n ∧ ∀ h, sn_V set st h → sn_F set ne n h → rc_rk h n < rc_rk tr n → sn_val P co n ≤ sn_val h co n ∧ (rc_rk h n < rc_rk P n → sn_val P co n < sn_val h co n))) →
    ∃ P, sn_best set ne co st n P ∧ (∀ a, a < 10 → (rc_try bh co n (nI st) fuel best tr pl).2.2 a = P a) ∧ (rc_try bh co n (nI st) fuel best tr pl).1.toInt = sn_val P co n := by
  intro fuel
  induction fuel with
  | zero =>
    intro best tr pl hV hf
    have := rc_rk_lt h4 (sn_dg hV) n hn
    omega
  | succ fuel ih =>
    intro best tr pl hV hf hI
    have e0 : (0 : Int64).toInt = 0 := by decide +kernel
    have em : (-1 : Int64).toInt = -1 := by decide +kernel
    -- what holds when tr is through
    have hI2 : (((if rc_tk (rc_lg bh tr co n) best then rc_lg bh tr co n else best) = -1 ∧ ∀ h, sn_V set st h → sn_F set ne n h → rc_rk tr n < rc_rk h n) ∨ (∃ P, sn_V set st P ∧ sn_F set ne n P ∧ (∀ a, a < 10 → (if rc_tk (rc_lg bh tr co n) best then rc_cp tr pl 10 else pl) a = P a) ∧ (if rc_tk (rc_lg bh tr co n) best then rc_lg bh tr co n else best).toInt = sn_val P co n ∧ rc_rk P n ≤ rc_rk tr n ∧ ∀ h, sn_V set st h → sn_F set ne n h → rc_rk h n ≤ rc_rk tr n → sn_val P co n ≤ sn_val h co n ∧ (rc_rk h n < rc_rk P n → sn_val P co n < sn_val h co n))) := by
      have same : ∀ h, sn_V set st h → rc_rk h n = rc_rk tr n → sn_val h co n = sn_val tr co n ∧ (sn_F set ne n h → sn_F set ne n tr) := by
        intro h hh e
        have hu := sn_uniq h4 hh hV n hn e
        refine ⟨sn_m_congr co hu 4, fun hF a b ha hb s1 s2 s3 => ?_⟩
        rw [← hu a ha, ← hu b hb]; exact hF a b ha hb s1 s2 s3
      by_cases hF : sn_F set ne n tr
      · have elg : rc_lg bh tr co n = rc_lo tr co n 4 := if_neg ((hka tr hV).mpr hF)
        have ev : (rc_lg bh tr co n).toInt = sn_val tr co n := by rw [elg]; exact sn_lo hco hn 4
        have hpos : 0 ≤ sn_val tr co n := (sn_m_ok tr co n 4).1
        have hnl : ¬ rc_lg bh tr co n < 0 := fun z => by have := Int64.lt_iff_toInt_lt.mp z; rw [ev, e0] at this; omega
        have take : (∀ h, sn_V set st h → sn_F set ne n h → rc_rk h n < rc_rk tr n → sn_val tr co n < sn_val h co n) → rc_tk (rc_lg bh tr co n) best → (∃ P, sn_V set st P ∧ sn_F set ne n P ∧ (∀ a, a < 10 → (if rc_tk (rc_lg bh tr co n) best then rc_cp tr pl 10 else pl) a = P a) ∧ (if rc_tk (rc_lg bh tr co n) best then rc_lg bh tr co n else best).toInt = sn_val P co n ∧ rc_rk P n ≤ rc_rk tr n ∧ ∀ h, sn_V set st h → sn_F set ne n h → rc_rk h n ≤ rc_rk tr n → sn_val P co n ≤ sn_val h co n ∧ (rc_rk h n < rc_rk P n → sn_val P co n < sn_val h co n)) := by
          intro hall htk
          refine ⟨tr, hV, hF, fun a ha => by rw [if_pos htk]; exact cp_at tr pl 10 a ha, by rw [if_pos htk]; exact ev, Nat.le_refl _, fun h hh hhF hle => ?_⟩
          rcases Nat.lt_or_ge (rc_rk h n) (rc_rk tr n) with z | z
          · have := hall h hh hhF z
            exact ⟨by omega, fun _ => this⟩
          · have := (same h hh (by omega)).1
            exact ⟨by omega, fun w => by omega⟩
        rcases hI with ⟨hb, hI⟩ | ⟨P, p1, p2, p3, p4, p5, p6⟩
        · right
          refine take (fun h hh hhF hlt => by have := hI h hh hhF; omega) ⟨hnl, Or.inl (by rw [hb]; decide +kernel)⟩
        · by_cases c : best ≤ rc_lg bh tr co n
          · have hc := Int64.le_iff_toInt_le.mp c
            have hb0 : ¬ best < 0 := fun z => by
              have := Int64.lt_iff_toInt_lt.mp z
              have := (sn_m_ok P co n 4).1
              have : sn_val P co n = sn_m P co n 4 := rfl
              omega
            have ntk : ¬ rc_tk (rc_lg bh tr co n) best := fun z => z.2.elim hb0 (fun w => w c)
            right
            refine ⟨P, p1, p2, fun a ha => by rw [if_neg ntk]; exact p3 a ha, by rw [if_neg ntk]; exact p4, by omega, fun h hh hhF hle => ?_⟩
            rcases Nat.lt_or_ge (rc_rk h n) (rc_rk tr n) with z | z
            · exact p6 h hh hhF z
            · have := (same h hh (by omega)).1
              exact ⟨by omega, fun w => by omega⟩
          · have hc : (rc_lg bh tr co n).toInt < best.toInt := Int.not_le.mp (fun z => c (Int64.le_iff_toInt_le.mpr z))
            right
            refine take (fun h hh hhF hlt => by have := (p6 h hh hhF hlt).1; omega) ⟨hnl, Or.inr c⟩
      · have elg : rc_lg bh tr co n = -1 := if_pos (Classical.byContradiction (fun z => hF ((hka tr hV).mp z)))
        have ntk : ¬ rc_tk (rc_lg bh tr co n) best := fun z => z.1 (by rw [elg]; decide +kernel)
        rcases hI with ⟨hb, hI⟩ | ⟨P, p1, p2, p3, p4, p5, p6⟩
        · left
          refine ⟨by rw [if_neg ntk]; exact hb, fun h hh hhF => ?_⟩
          have := hI h hh hhF
          rcases Nat.lt_or_ge (rc_rk tr n) (rc_rk h n) with z | z
          · exact z
          · exact absurd ((same h hh (by omega)).2 hhF) hF
        · right
          refine ⟨P, p1, p2, fun a ha => by rw [if_neg ntk]; exact p3 a ha, by rw [if_neg ntk]; exact p4, by omega, fun h hh hhF hle => ?_⟩
          rcases Nat.lt_or_ge (rc_rk h n) (rc_rk tr n) with z | z
          · exact p6 h hh hhF z
          · exact absurd ((same h hh (by omega)).2 hhF) hF
    obtain ⟨n1, n2⟩ := next_succ h1 h4 n hn tr hV
    rw [rc_try]
    generalize (if rc_tk (rc_lg bh tr co n) best then rc_lg bh tr co n else best) = b2 at hI2 ⊢
    generalize (if rc_tk (rc_lg bh tr co n) best then rc_cp tr pl 10 else pl) = pl2 at hI2 ⊢
    rcases n2 with ⟨n3, n4⟩ | ⟨n3, n4, n5⟩
    · rw [if_pos n3]
      rcases hI2 with ⟨hb, hI⟩ | ⟨P, p1, p2, p3, p4, p5, p6⟩
      · obtain ⟨g, hg, hgF⟩ := hex
        have := hI g hg hgF
        have := n4 g hg
        omega
      · exact ⟨P, ⟨p1, p2, fun h hh hhF => p6 h hh hhF (n4 h hh)⟩, p3, p4⟩
    · rw [if_neg n3]
      refine ih b2 _ pl2 n1 (by omega) ?_
      rcases hI2 with ⟨hb, hI⟩ | ⟨P, p1, p2, p3, p4, p5, p6⟩
      · exact Or.inl ⟨hb, fun h hh hhF => n5 h hh (hI h hh hhF)⟩
      · refine Or.inr ⟨P, p1, p2, p3, p4, by omega, fun h hh hhF hlt => p6 h hh hhF ?_⟩
        rcases Nat.lt_or_ge (rc_rk tr n) (rc_rk h n) with z | z
        · have := n5 h hh z; omega
        · exact z
-- the class's search with bounds finds the same
def sn_M (set : Int32) (tr : Nat → Int32) (b : Nat) : Int32 := if bt set b = true then tr b else -1
theorem imax_toInt (x y : Int32) : (ac_imax x y).toInt = if x.toInt < y.toInt then y.toInt else x.toInt := by
  unfold ac_imax
  by_cases c : x < y
  · rw [if_pos c, if_pos (Int32.lt_iff_toInt_lt.mp c)]
  · rw [if_neg c, if_neg (fun z => c (Int32.lt_iff_toInt_lt.mpr z))]
theorem imin_toInt (x y : Int32) : (ac_imin x y).toInt = if y.toInt < x.toInt then y.toInt else x.toInt := by
  unfold ac_imin
  by_cases c : y < x
  · rw [if_pos c, if_pos (Int32.lt_iff_toInt_lt.mp c)]
  · rw [if_neg c, if_neg (fun z => c (Int32.lt_iff_toInt_lt.mpr z))]
theorem early_ok (set nd : Int32) (tr : Nat → Int32) (z : Int) : ∀ K, K ≤ 10 → ((ac_early set nd tr K).toInt ≤ z ↔ 0 ≤ z ∧ ∀ k, k < K → bt set k = true → bt nd k = true → (tr k).toInt ≤ z)
  | 0, _ => by
    rw [ac_early, show (0 : Int32).toInt = 0 by decide +kernel]
    exact ⟨fun h => ⟨h, fun k hk => by omega⟩, fun h => h.1⟩
  | K + 1, hK => by
    have ih := early_ok set nd tr z K (by omega)
    rw [ac_early]
    by_cases c : ac_has (set &&& nd) (nI K) = 0
    · rw [if_pos c, ih]
      rw [ac_has_bt _ (by omega), b_and] at c
      refine ⟨fun h => ⟨h.1, fun k hk s1 s2 => ?_⟩, fun h => ⟨h.1, fun k hk => h.2 k (by omega)⟩⟩
      by_cases e : k = K
      · rw [e] at s1 s2; rw [s1, s2] at c; cases c
      · exact h.2 k (by omega) s1 s2
    · rw [if_neg c, imax_toInt]
      rw [ac_has_t _ (by omega), b_and, Bool.and_eq_true] at c
      constructor
      · intro h
        have h1 : (ac_early set nd tr K).toInt ≤ z ∧ (tr K).toInt ≤ z := by split at h <;> omega
        have g := ih.mp h1.1
        refine ⟨g.1, fun k hk s1 s2 => ?_⟩
        by_cases e : k = K
        · rw [e]; exact h1.2
        · exact g.2 k (by omega) s1 s2
      · intro h
        have h1 := ih.mpr ⟨h.1, fun k hk => h.2 k (by omega)⟩
        have h2 := h.2 K (by omega) c.1 c.2
        split <;> omega
theorem late_ok (set st : Int32) {a : Nat} (ha : a < 10) (ne tr : Nat → Int32) (z : Int) : ∀ K, K ≤ 10 → (z ≤ (ac_late set st (nI a) ne tr K).toInt ↔ z ≤ (st - 1).toInt ∧ ∀ k, k < K → bt set k = true → bt (ne k) a = true → z ≤ (tr k).toInt)
  | 0, _ => by
    rw [ac_late]
    exact ⟨fun h => ⟨h, fun k hk => by omega⟩, fun h => h.1⟩
  | K + 1, hK => by
    have ih := late_ok set st ha ne tr z K (by omega)
    have skip : ¬ (bt set K = true ∧ bt (ne K) a = true) → (z ≤ (ac_late set st (nI a) ne tr K).toInt ↔ z ≤ (st - 1).toInt ∧ ∀ k, k < K + 1 → bt set k = true → bt (ne k) a = true → z ≤ (tr k).toInt) := by
      intro hq
      rw [ih]
      refine ⟨fun h => ⟨h.1, fun k hk s1 s2 => ?_⟩, fun h => ⟨h.1, fun k hk => h.2 k (by omega)⟩⟩
      by_cases e : k = K
      · rw [e] at s1 s2; exact absurd ⟨s1, s2⟩ hq
      · exact h.2 k (by omega) s1 s2
    rw [ac_late]
    by_cases c : ac_has set (nI K) = 0
    · rw [if_pos c]
      rw [ac_has_bt _ (by omega)] at c
      exact skip (fun h => by rw [c] at h; cases h.1)
    · rw [if_neg c]
      rw [ac_has_t _ (by omega)] at c
      by_cases c2 : ac_has (ne K) (nI a) = 0
      · rw [if_pos c2]
        rw [ac_has_bt _ (by omega)] at c2
        exact skip (fun h => by rw [c2] at h; cases h.2)
      · rw [if_neg c2, imin_toInt]
        rw [ac_has_t _ (by omega)] at c2
        constructor
        · intro h
          have h1 : z ≤ (ac_late set st (nI a) ne tr K).toInt ∧ z ≤ (tr K).toInt := by split at h <;> omega
          have g := ih.mp h1.1
          refine ⟨g.1, fun k hk s1 s2 => ?_⟩
          by_cases e : k = K
          · rw [e]; exact h1.2
          · exact g.2 k (by omega) s1 s2
        · intro h
          have h1 := ih.mpr ⟨h.1, fun k hk => h.2 k (by omega)⟩
          have h2 := h.2 K (by omega) c c2
          split <;> omega
theorem keep_at (set : Int32) (tr told : Nat → Int32) : ∀ k, k ≤ 10 → ∀ b, ac_keep set tr told k b = if b < k then sn_M set tr b else told b
  | 0, _, b => by rw [if_neg (by omega)]; rfl
  | k + 1, hk, b => by
    have ih := keep_at set tr told k (by omega) b
    have hM : sn_M set tr k = if ac_has set (nI k) = 0 then -1 else tr k := by
      unfold sn_M
      by_cases c : ac_has set (nI k) = 0
      · rw [if_pos c]
        rw [ac_has_bt _ (by omega)] at c
        rw [if_neg (by rw [c]; decide)]
      · rw [if_neg c]
        rw [ac_has_t _ (by omega)] at c
        rw [if_pos c]
    rw [ac_keep]
    by_cases e : b = k
    · subst e
      rw [show (if b < b + 1 then sn_M set tr b else told b) = sn_M set tr b from if_pos (by omega), hM]
      by_cases c : ac_has set (nI b) = 0
      · rw [if_pos c, if_pos c]; exact if_pos rfl
      · rw [if_neg c, if_neg c]; exact if_pos rfl
    · have hlow : (if b < k + 1 then sn_M set tr b else told b) = if b < k then sn_M set tr b else told b := by
        by_cases c : b < k
        · rw [if_pos c, if_pos (by omega)]
        · rw [if_neg c, if_neg (by omega)]
      rw [hlow, ← ih]
      by_cases c : ac_has set (nI k) = 0
      · rw [if_pos c]; exact if_neg e
      · rw [if_neg c]; exact if_neg e
abbrev sn_ext (set : Int32) (a : Nat) (tr g : Nat → Int32) : Prop := ∀ b, b < a → g b = sn_M set tr b
def sn_pre (set : Int32) (ne : Nat → Int32) (co : Nat → Int64) (st a : Nat) (load : Int64) (t : ac_T) : Prop :=
  (∀ b, b < a → bt set b = true → ∃ d, d < st ∧ t.2.1 b = nI d) ∧ (∀ b c, b < a → c < a → bt set b = true → bt set c = true → bt (ne b) c = true → (t.2.1 c).toInt ≤ (t.2.1 b).toInt) ∧
  (∀ q, q < 4 → (t.2.2.1 q).toInt = sn_s (sn_M set t.2.1) co q a) ∧ load.toInt = sn_m (sn_M set t.2.1) co a 4 ∧ load.toInt < t.2.2.2.toInt
/-- what a search over the completions for which X holds leaves behind -/
def sn_res (set : Int32) (ne : Nat → Int32) (co : Nat → Int64) (st n a : Nat) (X : (Nat → Int32) → Prop) (t u : ac_T) : Prop :=
  (∀ b, b < a → u.2.1 b = t.2.1 b) ∧ (∀ q, q < 4 → u.2.2.1 q = t.2.2.1 q) ∧
  ((u.2.2.2 = t.2.2.2 ∧ (∀ b, u.1 b = t.1 b) ∧ ∀ g, sn_V set st g → sn_F set ne n g → sn_ext set a t.2.1 g → X g → t.2.2.2.toInt ≤ sn_val g co n) ∨
   (∃ g, sn_V set st g ∧ sn_F set ne n g ∧ sn_ext set a t.2.1 g ∧ X g ∧ u.2.2.2.toInt = sn_val g co n ∧ sn_val g co n < t.2.2.2.toInt ∧ (∀ b, u.1 b = if b < n then g b else t.1 b) ∧
     ∀ h, sn_V set st h → sn_F set ne n h → sn_ext set a t.2.1 h → X h → sn_val g co n ≤ sn_val h co n ∧ (rc_rk h n < rc_rk g n → sn_val g co n < sn_val h co n)))
theorem sn_M_congr {set : Int32} {r t : Nat → Int32} {a : Nat} (h : ∀ b, b < a → r b = t b) : ∀ b, b < a → sn_M set r b = sn_M set t b := fun b hb => by unfold sn_M; rw [h b hb]
section CTRY
variable {set : Int32} {ne : Nat → Int32} {co : Nat → Int64} {st n : Nat} {least : Int64}
/-- the loop over an act's places -/
theorem ctl_ok (hco : ∀ a, rc_cents (co a)) (h1 : 1 ≤ st) (h4 : st ≤ 4) (hn : n ≤ 10) (hset : ∀ a, a < 32 → bt set a = true → a < n) (hleast : ∀ g, sn_V set st g → least.toInt ≤ sn_val g co n)
    {a : Nat} (ha : a < n) (hsa : bt set a = true) {load : Int64} {t : ac_T} (hP : sn_pre set ne co st a load t) {go : Int64 → ac_T → ac_T} (hgo : ∀ load u, sn_pre set ne co st (a + 1) load u → sn_res set ne co st n (a + 1) (fun _ => True) u (go load u)) {late : Int32}
    (hlate : ∀ z : Int, z ≤ late.toInt ↔ z ≤ (nI st - 1).toInt ∧ ∀ k, k < a → bt set k = true → bt (ne k) a = true → z ≤ (t.2.1 k).toInt) :
    ∀ (m p : Nat) (u : ac_T), p + m = 4 → (∀ k, k < a → bt set k = true → bt (ne a) k = true → (t.2.1 k).toInt ≤ (p : Int)) → sn_res set ne co st n a (fun g => (g a).toInt < (p : Int)) t u → u.2.2.2.toInt ≤ t.2.2.2.toInt →
      sn_res set ne co st n a (fun _ => True) t (ac_tl go (co a) least late a load m p u) := by
  obtain ⟨P1, P2, P3, P4, P5⟩ := hP
  have est : (nI st - 1).toInt = (st : Int) - 1 := by rw [show nI st - 1 = nI st - nI 1 from rfl, pk_sub_toInt (by omega) (by omega)]; rfl
  have hdig : ∀ g, sn_V set st g → ∃ d, d < st ∧ g a = nI d ∧ (g a).toInt = (d : Int) := fun g hg => by
    obtain ⟨d, hd, e⟩ := (hg a (by omega)).1 hsa
    exact ⟨d, hd, e, by rw [e]; exact nI_toInt (by omega)⟩
  -- a feasible completion is not beyond late
  have hlt : ∀ g, sn_V set st g → sn_F set ne n g → sn_ext set a t.2.1 g → (g a).toInt ≤ late.toInt := by
    intro g hg hF hx
    obtain ⟨d, hd, e, ei⟩ := hdig g hg
    rw [hlate]
    refine ⟨by rw [ei, est]; omega, fun k hk s1 s2 => ?_⟩
    have := hF k a (by omega) ha s1 hsa s2
    rw [hx k hk, sn_M, if_pos s1] at this
    exact this
  have weaken : ∀ (p : Nat) (u : ac_T), sn_res set ne co st n a (fun g => (g a).toInt < (p : Int)) t u → (∀ g, sn_V set st g → sn_F set ne n g → sn_ext set a t.2.1 g → ¬ (g a).toInt < (p : Int) → u.2.2.2.toInt ≤ sn_val g co n) → sn_res set ne co st n a (fun _ => True) t u := by
    intro p u ⟨r1, r2, r3⟩ hall
    refine ⟨r1, r2, ?_⟩
    rcases r3 with ⟨s1, s2, s3⟩ | ⟨g, g1, g2, g3, g4, g5, g6, g7, g8⟩
    · left
      refine ⟨s1, s2, fun g hg hF hx _ => ?_⟩
      by_cases c : (g a).toInt < (p : Int)
      · exact s3 g hg hF hx c
      · have := hall g hg hF hx c; rw [s1] at this; exact this
    · right
      refine ⟨g, g1, g2, g3, trivial, g5, g6, g7, fun h hh hF hx _ => ?_⟩
      by_cases c : (h a).toInt < (p : Int)
      · exact g8 h hh hF hx c
      · have := hall h hh hF hx c
        refine ⟨by omega, fun w => ?_⟩
        obtain ⟨x, hx1, ex, exi⟩ := hdig g g1
        obtain ⟨y, hy1, ey, eyi⟩ := hdig h hh
        have : rc_rk g n < rc_rk h n := sn_lex h4 g1 hh hn ha (fun b hb => (g3 b hb).trans (hx b hb).symm) (by rw [ex, ey, nI_clamp (by omega), nI_clamp (by omega)]; omega)
        omega
  intro m
  induction m with
  | zero =>
    intro p u hpm _ hr _
    rw [ac_tl]
    refine weaken p u hr (fun g hg hF hx hc => ?_)
    obtain ⟨d, hd, e, ei⟩ := hdig g hg
    omega
  | succ m ih =>
    intro p u hpm hearly hr hle
    have hr0 := hr
    obtain ⟨r1, r2, r3⟩ := hr
    rw [ac_tl]
    by_cases c1 : late < nI p
    · rw [if_pos c1]
      have hc1 := Int32.lt_iff_toInt_lt.mp c1
      rw [nI_toInt (by omega)] at hc1
      exact weaken p u hr0 (fun g hg hF hx hc => by have := hlt g hg hF hx; omega)
    · rw [if_neg c1]
      have hc1 : (p : Int) ≤ late.toInt := by
        have := Int.not_lt.mp (fun z => c1 (Int32.lt_iff_toInt_lt.mpr z))
        rw [nI_toInt (by omega)] at this; exact this
      by_cases c2 : u.2.2.2 ≤ least
      · rw [if_pos c2]
        have hc2 := Int64.le_iff_toInt_le.mp c2
        exact weaken p u hr0 (fun g hg hF hx hc => by have := hleast g hg; omega)
      · rw [if_neg c2]
        obtain ⟨hl1, hl2⟩ := (hlate (p : Int)).mp hc1
        rw [est] at hl1
        have hpst : p < st := by omega
        have hp4 : p < 4 := by omega
        -- the trial with act a at p
        have hca := hco a
        have hsr := sn_s_rng (g := sn_M set t.2.1) hco p a
        have hup : (u.2.2.1 p).toInt = sn_s (sn_M set t.2.1) co p a := by rw [r2 p hp4]; exact P3 p hp4
        have hadd : (u.2.2.1 p + co a).toInt = sn_s (sn_M set t.2.1) co p a + (co a).toInt := by rw [i64_add (by omega) (by omega), hup]
        have hMt : ∀ b, b < a → sn_M set (upd u.2.1 a (nI p)) b = sn_M set t.2.1 b := sn_M_congr (fun b hb => (if_neg (by omega)).trans (r1 b hb))
        have hMa : sn_M set (upd u.2.1 a (nI p)) a = nI p := by unfold sn_M; rw [if_pos hsa]; exact if_pos rfl
        have hmore : (ac_max load (u.2.2.1 p + co a)).toInt = sn_m (sn_M set (upd u.2.1 a (nI p))) co (a + 1) 4 := by
          rw [ac_max_toInt, hadd, P4, sn_m_put hco hp4 hMa, sn_m_congr co hMt 4, sn_s_congr co p a hMt]
        have hval : ∀ g, sn_V set st g → sn_ext set a t.2.1 g → (g a).toInt = (p : Int) → (ac_max load (u.2.2.1 p + co a)).toInt ≤ sn_val g co n := by
          intro g hg hx hga
          obtain ⟨d, hd, e, ei⟩ := hdig g hg
          have hd9 : d = p := by omega
          have hx2 : ∀ b, b < a + 1 → g b = sn_M set (upd u.2.1 a (nI p)) b := fun b hb => by
            by_cases q : b = a
            · rw [q, hMa, e, hd9]
            · rw [hMt b (by omega)]; exact hx b (by omega)
          rw [hmore, ← sn_m_congr co hx2 4]
          exact sn_m_mono hco (by omega)
        have hnext : ∀ k, k < a → bt set k = true → bt (ne a) k = true → (t.2.1 k).toInt ≤ ((p + 1 : Nat) : Int) := fun k hk s1 s2 => by have := hearly k hk s1 s2; omega
        have split1 : ∀ g, sn_V set st g → (g a).toInt < ((p + 1 : Nat) : Int) → (g a).toInt < (p : Int) ∨ (g a).toInt = (p : Int) := fun g hg h => by omega
        -- nothing better with act a at p: go on
        have pass : ∀ w : ac_T, (∀ b, b < a → w.2.1 b = u.2.1 b) → (∀ q, q < 4 → w.2.2.1 q = u.2.2.1 q) → w.2.2.2 = u.2.2.2 → (∀ b, w.1 b = u.1 b) → (∀ g, sn_V set st g → sn_F set ne n g → sn_ext set a t.2.1 g → (g a).toInt = (p : Int) → u.2.2.2.toInt ≤ sn_val g co n) → sn_res set ne co st n a (fun g => (g a).toInt < ((p + 1 : Nat) : Int)) t w := by
          intro w w1 w2 w3 w4 hall
          refine ⟨fun b hb => (w1 b hb).trans (r1 b hb), fun q hq => (w2 q hq).trans (r2 q hq), ?_⟩
          rcases r3 with ⟨s1, s2, s3⟩ | ⟨g, g1, g2, g3, g4, g5, g6, g7, g8⟩
          · left
            refine ⟨w3.trans s1, fun b => (w4 b).trans (s2 b), fun g hg hF hx hc => ?_⟩
            rcases split1 g hg hc with c | c
            · exact s3 g hg hF hx c
            · have := hall g hg hF hx c; rw [s1] at this; exact this
          · right
            refine ⟨g, g1, g2, g3, by omega, by rw [w3]; exact g5, g6, fun b => (w4 b).trans (g7 b), fun h hh hF hx hc => ?_⟩
            rcases split1 h hh hc with c | c
            · exact g8 h hh hF hx c
            · have := hall h hh hF hx c
              refine ⟨by omega, fun y => ?_⟩
              obtain ⟨x, hx1, ex, exi⟩ := hdig g g1
              obtain ⟨z, hz1, ez, ezi⟩ := hdig h hh
              have : rc_rk g n < rc_rk h n := sn_lex h4 g1 hh hn ha (fun b hb => (g3 b hb).trans (hx b hb).symm) (by rw [ex, ez, nI_clamp (by omega), nI_clamp (by omega)]; omega)
              omega
        by_cases c3 : u.2.2.2 ≤ ac_max load (u.2.2.1 p + co a)
        · rw [if_pos c3]
          have hc3 := Int64.le_iff_toInt_le.mp c3
          exact ih (p + 1) u (by omega) hnext (pass u (fun _ _ => rfl) (fun _ _ => rfl) rfl (fun _ => rfl) (fun g hg hF hx hga => by have := hval g hg hx hga; omega)) hle
        · rw [if_neg c3]
          have hc3 : (ac_max load (u.2.2.1 p + co a)).toInt < u.2.2.2.toInt := Int.not_le.mp (fun z => c3 (Int64.le_iff_toInt_le.mpr z))
          have hpre : sn_pre set ne co st (a + 1) (ac_max load (u.2.2.1 p + co a)) (ac_tput u a p (co a)) := by
            refine ⟨fun b hb s => ?_, fun b c hb hc s1 s2 s3 => ?_, fun q hq => ?_, hmore, hc3⟩
            · by_cases q : b = a
              · exact ⟨p, hpst, by rw [q]; exact if_pos rfl⟩
              · obtain ⟨d, hd, e⟩ := P1 b (by omega) s
                exact ⟨d, hd, by show upd u.2.1 a (nI p) b = nI d; rw [show upd u.2.1 a (nI p) b = u.2.1 b from if_neg q, r1 b (by omega), e]⟩
            · show (upd u.2.1 a (nI p) c).toInt ≤ (upd u.2.1 a (nI p) b).toInt
              have hpi : (nI p).toInt = (p : Int) := nI_toInt (by omega)
              by_cases q : b = a
              · rw [show upd u.2.1 a (nI p) b = nI p from if_pos q, hpi]
                by_cases q2 : c = a
                · rw [show upd u.2.1 a (nI p) c = nI p from if_pos q2, hpi]; exact Int.le_refl _
                · rw [show upd u.2.1 a (nI p) c = u.2.1 c from if_neg q2, r1 c (by omega)]
                  rw [q] at s3; exact hearly c (by omega) s2 s3
              · rw [show upd u.2.1 a (nI p) b = u.2.1 b from if_neg q, r1 b (by omega)]
                by_cases q2 : c = a
                · rw [show upd u.2.1 a (nI p) c = nI p from if_pos q2, hpi]
                  rw [q2] at s3; exact hl2 b (by omega) s1 s3
                · rw [show upd u.2.1 a (nI p) c = u.2.1 c from if_neg q2, r1 c (by omega)]
                  exact P2 b c (by omega) (by omega) s1 s2 s3
            · show (vp_updL u.2.2.1 p (u.2.2.1 p + co a) q).toInt = sn_s (sn_M set (upd u.2.1 a (nI p))) co q (a + 1)
              rw [sn_s, sn_s_congr co q a hMt, hMa]
              by_cases e : q = p
              · rw [e, am_updL_s, if_pos rfl, hadd]
              · rw [am_updL_n e, if_neg (fun z => e ((nI_eq (by omega) (by omega)).mp z).symm), Int.add_zero, r2 q hq]; exact P3 q hq
          obtain ⟨q1, q2, q3⟩ := hgo _ _ hpre
          generalize go (ac_max load (u.2.2.1 p + co a)) (ac_tput u a p (co a)) = v at q1 q2 q3 ⊢
          have v1 : ∀ b, b < a → (ac_toff v p (co a)).2.1 b = u.2.1 b := fun b hb => (q1 b (by omega)).trans (if_neg (by omega))
          have v2 : ∀ q, q < 4 → (ac_toff v p (co a)).2.2.1 q = u.2.2.1 q := fun q hq => by
            show vp_updL v.2.2.1 p (v.2.2.1 p - co a) q = u.2.2.1 q
            by_cases e : q = p
            · rw [e, am_updL_s, q2 p hp4, show (ac_tput u a p (co a)).2.2.1 p = u.2.2.1 p + co a from am_updL_s, Int64.add_sub_cancel]
            · rw [am_updL_n e, q2 q hq]; exact am_updL_n e
          have hex2 : ∀ g, sn_V set st g → sn_ext set a t.2.1 g → (g a).toInt = (p : Int) → sn_ext set (a + 1) (ac_tput u a p (co a)).2.1 g := by
            intro g hg hx hga b hb
            obtain ⟨d, hd, e, ei⟩ := hdig g hg
            have hd9 : d = p := by omega
            show g b = sn_M set (upd u.2.1 a (nI p)) b
            by_cases q : b = a
            · rw [q, hMa, e, hd9]
            · rw [hMt b (by omega)]; exact hx b (by omega)
          rcases q3 with ⟨s1, s2, s3⟩ | ⟨g, g1, g2, g3, g4, g5, g6, g7, g8⟩
          · refine ih (p + 1) _ (by omega) hnext (pass _ v1 v2 s1 s2 (fun g hg hF hx hga => s3 g hg hF (hex2 g hg hx hga) trivial)) ?_
            show v.2.2.2.toInt ≤ _
            rw [s1]; exact hle
          · have hga : (g a).toInt = (p : Int) := by rw [g3 a (by omega)]; show (sn_M set (upd u.2.1 a (nI p)) a).toInt = _; rw [hMa]; exact nI_toInt (by omega)
            have hgx : sn_ext set a t.2.1 g := fun b hb => (g3 b (by omega)).trans (hMt b hb)
            have g6 : sn_val g co n < u.2.2.2.toInt := g6
            refine ih (p + 1) _ (by omega) hnext ⟨fun b hb => (v1 b hb).trans (r1 b hb), fun q hq => (v2 q hq).trans (r2 q hq), Or.inr ⟨g, g1, g2, hgx, by omega, g5, by omega, fun b => ?_, fun h hh hF hx hc => ?_⟩⟩ ?_
            · show v.1 b = _
              rw [g7 b]
              by_cases q : b < n
              · rw [if_pos q, if_pos q]
              · rw [if_neg q, if_neg q]
                show u.1 b = t.1 b
                rcases r3 with ⟨y1, y2, y3⟩ | ⟨y, y1, y2, y3, y4, y5, y6, y7, y8⟩
                · exact y2 b
                · rw [y7 b, if_neg q]
            · rcases split1 h hh hc with c | c
              · have : u.2.2.2.toInt ≤ sn_val h co n := by
                  rcases r3 with ⟨y1, y2, y3⟩ | ⟨y, y1, y2, y3, y4, y5, y6, y7, y8⟩
                  · rw [y1]; exact y3 h hh hF hx c
                  · have := (y8 h hh hF hx c).1; omega
                exact ⟨by omega, fun _ => by omega⟩
              · exact g8 h hh hF (hex2 h hh hx c) trivial
            · show v.2.2.2.toInt ≤ _
              omega
theorem ctry_ok (hco : ∀ a, rc_cents (co a)) (h1 : 1 ≤ st) (h4 : st ≤ 4) (hn : n ≤ 10) (hset : ∀ a, a < 32 → bt set a = true → a < n) (hleast : ∀ g, sn_V set st g → least.toInt ≤ sn_val g co n) :
    ∀ m a load (t : ac_T), a + m = n → sn_pre set ne co st a load t → sn_res set ne co st n a (fun _ => True) t (ac_try co ne set (nI st) least n m a load t) := by
  intro m
  induction m with
  | zero =>
    intro a load t ham ⟨P1, P2, P3, P4, P5⟩
    have ean : a = n := by omega
    subst ean
    rw [ac_try]
    refine ⟨fun _ _ => rfl, fun _ _ => rfl, Or.inr ⟨sn_M set t.2.1, fun b hb => ⟨fun s => ?_, fun s => ?_⟩, fun b c hb hc s1 s2 s3 => ?_, fun _ _ => rfl, trivial, P4, by rw [← show load.toInt = sn_val (sn_M set t.2.1) co a from P4]; exact P5, fun b => keep_at set t.2.1 t.1 a hn b, fun h hh hF hx _ => ?_⟩⟩
    · unfold sn_M; rw [if_pos s]; exact P1 b (hset b (by omega) s) s
    · unfold sn_M; rw [if_neg (by rw [s]; decide)]
    · unfold sn_M; rw [if_pos s1, if_pos s2]; exact P2 b c hb hc s1 s2 s3
    · have e1 : sn_val h co a = sn_val (sn_M set t.2.1) co a := sn_m_congr co hx 4
      have e2 : rc_rk h a = rc_rk (sn_M set t.2.1) a := rc_rk_congr a hx
      exact ⟨by omega, fun w => by omega⟩
  | succ m ih =>
    intro a load t ham hP
    rw [ac_try]
    by_cases c : ac_has set (nI a) = 0
    · rw [if_pos c]
      rw [ac_has_bt _ (by omega)] at c
      obtain ⟨P1, P2, P3, P4, P5⟩ := hP
      have hMa : sn_M set t.2.1 a = -1 := by unfold sn_M; rw [if_neg (by rw [c]; decide)]
      have nota : ∀ b, b < a + 1 → bt set b = true → b < a := fun b hb s => by
        rcases Nat.lt_or_ge b a with z | z
        · exact z
        · rw [show b = a by omega, c] at s; cases s
      have hpre : sn_pre set ne co st (a + 1) load t := by
        refine ⟨fun b hb s => P1 b (nota b hb s) s, fun b d hb hd s1 s2 => P2 b d (nota b hb s1) (nota d hd s2) s1 s2, fun q hq => ?_, ?_, P5⟩
        · rw [sn_s, if_neg (sn_none hMa q (by omega)), Int.add_zero]; exact P3 q hq
        · rw [sn_m_skip co hMa 4 (Nat.le_refl 4)]; exact P4
      obtain ⟨q1, q2, q3⟩ := ih (a + 1) load t (by omega) hpre
      have up : ∀ g, sn_V set st g → sn_ext set a t.2.1 g → sn_ext set (a + 1) t.2.1 g := fun g hg hx b hb => by
        by_cases q : b = a
        · rw [q, hMa]; exact (hg a (by omega)).2 c
        · exact hx b (by omega)
      refine ⟨fun b hb => q1 b (by omega), q2, ?_⟩
      rcases q3 with ⟨s1, s2, s3⟩ | ⟨g, g1, g2, g3, g4, g5, g6, g7, g8⟩
      · exact Or.inl ⟨s1, s2, fun g hg hF hx _ => s3 g hg hF (up g hg hx) trivial⟩
      · exact Or.inr ⟨g, g1, g2, fun b hb => g3 b (by omega), trivial, g5, g6, g7, fun h hh hF hx _ => g8 h hh hF (up h hh hx) trivial⟩
    · rw [if_neg c]
      rw [ac_has_t _ (by omega)] at c
      have hE := early_ok set (ne a) t.2.1
      have hnn := ac_early_nn set (ne a) t.2.1 a
      obtain ⟨e, he, ee⟩ := nI_of hnn
      have hei : (ac_early set (ne a) t.2.1 a).toInt = (e : Int) := by rw [ee]; exact nI_toInt he
      have hcl : (ac_early set (ne a) t.2.1 a).toNatClampNeg = e := by rw [ee]; exact nI_clamp he
      have he3 : e ≤ 3 := by
        have := (hE 3 a (by omega)).mpr ⟨by omega, fun k hk s1 s2 => by
          obtain ⟨d, hd, ed⟩ := hP.1 k hk s1
          rw [ed, nI_toInt (by omega)]; omega⟩
        omega
      rw [hcl]
      refine ctl_ok hco h1 h4 hn hset hleast (by omega) c hP (fun load u hu => ih (a + 1) load u (by omega) hu) (fun z => late_ok set (nI st) (by omega) ne t.2.1 z a (by omega)) (4 - e) e t (by omega) ((hE (e : Int) a (by omega)).mp (Int.le_of_eq hei)).2 ⟨fun _ _ => rfl, fun _ _ => rfl, Or.inl ⟨rfl, fun _ => rfl, fun g hg hF hx hlt => ?_⟩⟩ (Int.le_refl _)
      -- no feasible completion is below early
      exfalso
      have : (ac_early set (ne a) t.2.1 a).toInt ≤ (g a).toInt := by
        rw [hE (g a).toInt a (by omega)]
        obtain ⟨d, hd, ed⟩ := (hg a (by omega)).1 c
        refine ⟨by rw [ed, nI_toInt (by omega)]; omega, fun k hk s1 s2 => ?_⟩
        have := hF a k (by omega) (by omega) c s1 s2
        rw [hx k hk, sn_M, if_pos s1] at this
        exact this
      omega
end CTRY
-- no sharing out is below the least, and one is there
theorem tot_rng {co : Nat → Int64} (hco : ∀ a, rc_cents (co a)) (set : Int32) : ∀ k : Nat, k ≤ 10 → 0 ≤ (ac_tot co set k).toInt ∧ (ac_tot co set k).toInt ≤ 1000000 * (k : Int)
  | 0, _ => by
    have e0 : (0 : Int64).toInt = 0 := by decide +kernel
    rw [ac_tot, e0]; omega
  | k + 1, hk => by
    have ih := tot_rng hco set k (by omega)
    have h := hco k
    rw [ac_tot]
    split
    · omega
    · rw [i64_add (by omega) (by omega)]; omega
theorem tot_sum {co : Nat → Int64} (hco : ∀ a, rc_cents (co a)) {set : Int32} {st : Nat} (h4 : st ≤ 4) {g : Nat → Int32} (hg : sn_V set st g) : ∀ k, k ≤ 10 → sn_s g co 0 k + sn_s g co 1 k + sn_s g co 2 k + sn_s g co 3 k = (ac_tot co set k).toInt ∧ ∀ q, st ≤ q → q < 4 → sn_s g co q k = 0
  | 0, _ => ⟨by show (0 : Int) + 0 + 0 + 0 = (0 : Int64).toInt; decide +kernel, fun q _ _ => rfl⟩
  | k + 1, hk => by
    obtain ⟨i1, i2⟩ := tot_sum hco h4 hg k (by omega)
    have r := tot_rng hco set k (by omega)
    have h := hco k
    have ne : ∀ x y : Nat, x < 4 → y < 4 → (nI x = nI y ↔ x = y) := fun x y hx hy => nI_eq (by omega) (by omega)
    rw [ac_tot]
    cases w : bt set k with
    | false =>
      have e := (hg k (by omega)).2 w
      rw [if_pos ((ac_has_bt set (by omega)).mpr w)]
      have z : ∀ q, q < 4 → sn_s g co q (k + 1) = sn_s g co q k := fun q hq => by rw [sn_s, if_neg (sn_none e q (by omega)), Int.add_zero]
      rw [z 0 (by omega), z 1 (by omega), z 2 (by omega), z 3 (by omega)]
      exact ⟨i1, fun q h1 h2 => by rw [z q h2]; exact i2 q h1 h2⟩
    | true =>
      obtain ⟨d, hd, e⟩ := (hg k (by omega)).1 w
      rw [if_neg (fun z => by rw [ac_has_bt set (by omega), w] at z; cases z), i64_add (by omega) (by omega)]
      have z : ∀ q, q < 4 → sn_s g co q (k + 1) = sn_s g co q k + if q = d then (co k).toInt else 0 := fun q hq => by
        rw [sn_s, e]
        by_cases c : q = d
        · rw [if_pos (by rw [c]), if_pos c]
        · rw [if_neg (fun y => c ((ne d q (by omega) hq).mp y).symm), if_neg c]
      refine ⟨?_, fun q h1 h2 => by rw [z q h2, i2 q h1 h2, if_neg (by omega)]; rfl⟩
      rw [z 0 (by omega), z 1 (by omega), z 2 (by omega), z 3 (by omega), ← i1]
      have : d = 0 ∨ d = 1 ∨ d = 2 ∨ d = 3 := by omega
      rcases this with rfl | rfl | rfl | rfl <;> simp <;> omega
theorem sn_elem {co : Nat → Int64} (hco : ∀ a, rc_cents (co a)) {g : Nat → Int32} {q b : Nat} (h : g b = nI q) : ∀ k, b < k → (co b).toInt ≤ sn_s g co q k
  | 0, hb => by omega
  | k + 1, hb => by
    have r := sn_s_rng (g := g) hco q k
    have hc := hco k
    rw [sn_s]
    by_cases e : b = k
    · rw [← e, if_pos h, e]; omega
    · have := sn_elem hco h k (by omega)
      split <;> omega
theorem dear_le {co : Nat → Int64} {set : Int32} {z : Int} (hz : 0 ≤ z) : ∀ k, k ≤ 10 → (∀ b, b < k → bt set b = true → (co b).toInt ≤ z) → (ac_dear co set k).toInt ≤ z
  | 0, _, _ => by
    have e0 : (0 : Int64).toInt = 0 := by decide +kernel
    rw [ac_dear, e0]; exact hz
  | k + 1, hk, h => by
    have ih := dear_le hz k (by omega) (fun b hb => h b (by omega))
    rw [ac_dear]
    by_cases c : ac_has set (nI k) = 0
    · rw [if_pos c]; exact ih
    · rw [if_neg c, ac_max_toInt]
      have := h k (by omega) ((ac_has_t set (by omega)).mp c)
      split <;> omega
theorem least_ok {co : Nat → Int64} (hco : ∀ a, rc_cents (co a)) {set : Int32} {st n : Nat} (h1 : 1 ≤ st) (h4 : st ≤ 4) (hn : n ≤ 10) {g : Nat → Int32} (hg : sn_V set st g) : (ac_least co set (nI st) n).toInt ≤ sn_val g co n := by
  obtain ⟨m1, m2, -⟩ := sn_m_ok g co n 4
  obtain ⟨t1, t2⟩ := tot_sum hco h4 hg n hn
  have r := tot_rng hco set n hn
  have hv : sn_val g co n = sn_m g co n 4 := rfl
  have hd : (ac_dear co set n).toInt ≤ sn_val g co n := dear_le m1 n hn (fun b hb s => by
    obtain ⟨d, hd, e⟩ := (hg b (by omega)).1 s
    exact Int.le_trans (sn_elem hco e n hb) (m2 d (by omega)))
  have hst0 : ¬ nI st ≤ 0 := by rw [show (0 : Int32) = nI 0 from rfl, nI_leI (by omega) (by omega)]; omega
  have e1 : (1 : Int64).toInt = 1 := by decide +kernel
  have es : (nI st).toInt64.toInt = (st : Int) := by rw [Int32.toInt_toInt64]; exact nI_toInt (by omega)
  have ea : (ac_tot co set n + (nI st).toInt64).toInt = (ac_tot co set n).toInt + st := by rw [i64_add (by rw [es]; omega) (by rw [es]; omega), es]
  have eb : (ac_tot co set n + (nI st).toInt64 - 1).toInt = (ac_tot co set n).toInt + st - 1 := by rw [i64_sub (by rw [ea, e1]; omega) (by rw [ea, e1]; omega), ea, e1]
  have hq : ((ac_tot co set n + (nI st).toInt64 - 1) / (nI st).toInt64).toInt ≤ sn_val g co n := by
    have hnn : (0 : Int) ≤ (ac_tot co set n).toInt + st - 1 := by omega
    have s0 := m2 0 (by omega)
    have s1 := m2 1 (by omega)
    have s2 := m2 2 (by omega)
    have s3 := m2 3 (by omega)
    have hb : (((ac_tot co set n).toInt + st - 1).tdiv (st : Int)).bmod (2 ^ 64) = ((ac_tot co set n).toInt + st - 1) / (st : Int) := by
      rw [Int.tdiv_eq_ediv_of_nonneg hnn]
      have d1 : 0 ≤ ((ac_tot co set n).toInt + st - 1) / (st : Int) := Int.ediv_nonneg hnn (by omega)
      have d2 : ((ac_tot co set n).toInt + st - 1) / (st : Int) ≤ (ac_tot co set n).toInt + st - 1 := Int.ediv_le_self _ hnn
      exact Int.bmod_eq_of_le (by omega) (by omega)
    rw [Int64.toInt_div, eb, es, hb]
    have : st = 1 ∨ st = 2 ∨ st = 3 ∨ st = 4 := by omega
    rcases this with rfl | rfl | rfl | rfl
    · have q1 := t2 1 (by omega) (by omega)
      have q2 := t2 2 (by omega) (by omega)
      have q3 := t2 3 (by omega) (by omega)
      omega
    · have q2 := t2 2 (by omega) (by omega)
      have q3 := t2 3 (by omega) (by omega)
      omega
    · have q3 := t2 3 (by omega) (by omega)
      omega
    · omega
  unfold ac_least
  rw [if_neg hst0, ac_max_toInt]
  split <;> omega
theorem sn_zero {set : Int32} {ne : Nat → Int32} {st n : Nat} (h1 : 1 ≤ st) : sn_V set st (sn_M set (fun _ => nI 0)) ∧ sn_F set ne n (sn_M set (fun _ => nI 0)) := by
  refine ⟨fun a ha => ⟨fun s => ⟨0, h1, by unfold sn_M; rw [if_pos s]⟩, fun s => by unfold sn_M; rw [if_neg (by rw [s]; decide)]⟩, fun a b ha hb s1 s2 _ => ?_⟩
  unfold sn_M
  rw [if_pos s1, if_pos s2]
  exact Int.le_refl _
theorem fillL_at (z : Int64) (f : Nat → Int64) : ∀ k q, q < k → ac_fillL z f k q = z
  | 0, q, h => by omega
  | k + 1, q, h => by
    rw [ac_fillL]
    by_cases e : q = k
    · subst e; exact am_updL_s
    · rw [am_updL_n e]; exact fillL_at z f k q (by omega)
theorem sn_m_0 (g : Nat → Int32) (co : Nat → Int64) : ∀ Q, sn_m g co 0 Q = 0
  | 0 => rfl
  | Q + 1 => by rw [sn_m, sn_m_0 g co Q]; rfl
theorem cst_ok {co : Nat → Int64} (hco : ∀ a, rc_cents (co a)) {set : Int32} {ne : Nat → Int32} {st n : Nat} (h1 : 1 ≤ st) (h4 : st ≤ 4) (hn : n ≤ 10) (hset : ∀ a, a < 32 → bt set a = true → a < n) (told trial : Nat → Int32) (loads : Nat → Int64) :
    ∃ g, sn_best set ne co st n g ∧ (ac_try co ne set (nI st) (ac_least co set (nI st) n) n n 0 0 (told, trial, ac_fillL 0 loads 4, ac_tot co set n + 1)).2.2.2.toInt = sn_val g co n ∧
      ∀ b, (ac_try co ne set (nI st) (ac_least co set (nI st) n) n n 0 0 (told, trial, ac_fillL 0 loads 4, ac_tot co set n + 1)).1 b = if b < n then g b else told b := by
  have e0 : (0 : Int64).toInt = 0 := by decide +kernel
  have e1 : (1 : Int64).toInt = 1 := by decide +kernel
  have r := tot_rng hco set n hn
  have et : (ac_tot co set n + 1).toInt = (ac_tot co set n).toInt + 1 := by rw [i64_add (by rw [e1]; omega) (by rw [e1]; omega), e1]
  have hpre : sn_pre set ne co st 0 0 (told, trial, ac_fillL 0 loads 4, ac_tot co set n + 1) := by
    refine ⟨fun b hb => by omega, fun b c hb => by omega, fun q hq => ?_, ?_, ?_⟩
    · show (ac_fillL 0 loads 4 q).toInt = 0
      rw [fillL_at 0 loads 4 q hq]; exact e0
    · rw [sn_m_0]; exact e0
    · show (0 : Int64).toInt < (ac_tot co set n + 1).toInt
      rw [e0, et]; omega
  obtain ⟨-, -, hr⟩ := ctry_ok (ne := ne) hco h1 h4 hn hset (fun g hg => least_ok hco h1 h4 hn hg) n 0 0 _ (by omega) hpre
  rcases hr with ⟨s1, s2, s3⟩ | ⟨g, g1, g2, g3, g4, g5, g6, g7, g8⟩
  · exfalso
    obtain ⟨z1, z2⟩ := sn_zero (set := set) (ne := ne) (n := n) h1
    have := s3 _ z1 z2 (fun b hb => by omega) trivial
    have h : (ac_tot co set n + 1).toInt ≤ sn_val (sn_M set (fun _ => nI 0)) co n := this
    obtain ⟨t1, -⟩ := tot_sum hco h4 z1 n hn
    obtain ⟨m1, m2, m3⟩ := sn_m_ok (sn_M set (fun _ => nI 0)) co n 4
    have w : ∀ q, 0 ≤ sn_s (sn_M set (fun _ => nI 0)) co q n := fun q => (sn_s_rng hco q n).1
    have w0 := w 0
    have w1 := w 1
    have w2 := w 2
    have w3 := w 3
    have hv : sn_val (sn_M set (fun _ => nI 0)) co n = sn_m (sn_M set (fun _ => nI 0)) co n 4 := rfl
    rcases m3 with e | ⟨q, hq, e⟩
    · omega
    · have : q = 0 ∨ q = 1 ∨ q = 2 ∨ q = 3 := by omega
      rcases this with rfl | rfl | rfl | rfl <;> omega
  · exact ⟨g, ⟨g1, g2, fun h hh hF => g8 h hh hF (fun b hb => by omega) trivial⟩, g5, g7⟩
theorem kb_ok (tr bh : Nat → Int32) (a : Nat) (c0 : Int32) : ∀ B, (¬ rc_kb tr bh a c0 B = 0 ↔ ¬ c0 = 0 ∧ ∀ b, b < B → tr a < 0 ∨ tr b < 0 ∨ bh (10 * a + b) = 0 ∨ ¬ tr a < tr b)
  | 0 => ⟨fun h => ⟨h, fun b hb => by omega⟩, fun h => h.1⟩
  | B + 1 => by
    have ih := kb_ok tr bh a c0 B
    rw [rc_kb]
    by_cases c : rc_kb tr bh a c0 B = 0
    · rw [if_pos c]
      exact ⟨fun h => absurd rfl h, fun h => absurd c (ih.mpr ⟨h.1, fun b hb => h.2 b (by omega)⟩)⟩
    · rw [if_neg c]
      have g := ih.mp c
      have ok : (tr a < 0 ∨ tr B < 0 ∨ bh (10 * a + B) = 0 ∨ ¬ tr a < tr B) → (¬ c0 = 0 ∧ ∀ b, b < B + 1 → tr a < 0 ∨ tr b < 0 ∨ bh (10 * a + b) = 0 ∨ ¬ tr a < tr b) := fun h => ⟨g.1, fun b hb => by
        by_cases e : b = B
        · rw [e]; exact h
        · exact g.2 b (by omega)⟩
      by_cases c1 : tr a < 0
      · rw [if_pos c1]; exact ⟨fun _ => ok (Or.inl c1), fun _ => by decide⟩
      · rw [if_neg c1]
        by_cases c2 : tr B < 0
        · rw [if_pos c2]; exact ⟨fun _ => ok (Or.inr (Or.inl c2)), fun _ => by decide⟩
        · rw [if_neg c2]
          by_cases c3 : bh (10 * a + B) = 0
          · rw [if_pos c3]; exact ⟨fun _ => ok (Or.inr (Or.inr (Or.inl c3))), fun _ => by decide⟩
          · rw [if_neg c3]
            by_cases c4 : tr a < tr B
            · rw [if_pos c4]
              refine ⟨fun h => absurd rfl h, fun h => ?_⟩
              rcases h.2 B (by omega) with w | w | w | w
              · exact absurd w c1
              · exact absurd w c2
              · exact absurd w c3
              · exact absurd c4 w
            · rw [if_neg c4]; exact ⟨fun _ => ok (Or.inr (Or.inr (Or.inr c4))), fun _ => by decide⟩
theorem ka_ok (tr bh : Nat → Int32) (n : Nat) : ∀ A, (¬ rc_ka tr bh n A = 0 ↔ ∀ a b, a < A → b < n → tr a < 0 ∨ tr b < 0 ∨ bh (10 * a + b) = 0 ∨ ¬ tr a < tr b)
  | 0 => ⟨fun _ a b h => by omega, fun _ => by show ¬ (1 : Int32) = 0; decide⟩
  | A + 1 => by
    rw [rc_ka, kb_ok, ka_ok tr bh n A]
    constructor
    · rintro ⟨h1, h2⟩ a b ha hb
      by_cases e : a = A
      · rw [e]; exact h2 b hb
      · exact h1 a b (by omega) hb
    · intro h
      exact ⟨fun a b ha hb => h a b (by omega) hb, fun b hb => h A b (by omega) hb⟩
theorem bi_at (nds : Nat → Int32) (na a : Nat) (f : Nat → Int32) : ∀ B, (∀ i, (i < 10 * a ∨ 10 * a + B ≤ i) → rc_bi nds na a f B i = f i) ∧ ∀ b, b < B → rc_bi nds na a f B (10 * a + b) = rc_leads nds na a (nI b)
  | 0 => ⟨fun _ _ => rfl, fun b hb => by omega⟩
  | B + 1 => by
    obtain ⟨h1, h2⟩ := bi_at nds na a f B
    rw [rc_bi]
    refine ⟨fun i hi => (if_neg (by omega)).trans (h1 i (by omega)), fun b hb => ?_⟩
    by_cases e : b = B
    · rw [e]; exact if_pos rfl
    · exact (if_neg (by omega)).trans (h2 b (by omega))
theorem bo_at (nds : Nat → Int32) {na : Nat} (hn : na ≤ 10) (f : Nat → Int32) : ∀ A, A ≤ na → ∀ a b, a < A → b < na → rc_bo nds na f A (10 * a + b) = rc_leads nds na a (nI b)
  | 0, _, a, b, h => by omega
  | A + 1, hA, a, b, ha => by
    intro hb
    obtain ⟨h1, h2⟩ := bi_at nds na A (rc_bo nds na f A) na
    rw [rc_bo]
    by_cases e : a = A
    · rw [e]; exact h2 b hb
    · rw [h1 _ (by omega)]; exact bo_at nds hn f A (by omega) a b (by omega) hb
theorem ti_at (inr : Int32 → Int32) (f : Nat → Int32) : ∀ k a, a < k → rc_ti inr f k a = if inr (nI a) = 0 then -1 else 0
  | 0, a, h => by omega
  | k + 1, a, h => by
    rw [rc_ti]
    by_cases e : a = k
    · rw [e]; exact if_pos rfl
    · exact (if_neg e).trans (ti_at inr f k a (by omega))
theorem rk_0 {g : Nat → Int32} : ∀ n, (∀ a, a < n → (g a).toNatClampNeg = 0) → rc_rk g n = 0
  | 0, _ => rfl
  | n + 1, h => by rw [rc_rk, rk_0 n (fun a ha => h a (by omega)), h n (by omega)]
theorem rst_ok {co : Nat → Int64} (hco : ∀ a, rc_cents (co a)) {set : Int32} {ne nds : Nat → Int32} {st n F : Nat} (h1 : 1 ≤ st) (h4 : st ≤ 4) (hn : n ≤ 10) (hset : ∀ a, a < 32 → bt set a = true → a < n) (hD : nd_Rel ne nds n) {tr0 bh : Nat → Int32} (pl : Nat → Int32)
    (htr : ∀ a, a < 10 → tr0 a = if bt set a = true then 0 else -1) (hbh : ∀ a b, a < n → b < n → bh (10 * a + b) = rc_leads nds n a (nI b)) (hF : 1048576 ≤ F) :
    ∃ P, sn_best set ne co st n P ∧ (∀ a, a < 10 → (rc_try bh co n (nI st) F (-1) tr0 pl).2.2 a = P a) ∧ (rc_try bh co n (nI st) F (-1) tr0 pl).1.toInt = sn_val P co n := by
  have hV : sn_V set st tr0 := fun a ha => ⟨fun s => ⟨0, h1, by rw [htr a ha, if_pos s]; rfl⟩, fun s => by rw [htr a ha, if_neg (by rw [s]; decide)]⟩
  have hk : ∀ a, a < n → (tr0 a).toNatClampNeg = 0 := fun a ha => by
    rw [htr a (by omega)]
    split <;> decide +kernel
  have hneg : ∀ g, sn_V set st g → ∀ a, a < 10 → (g a < 0 ↔ bt set a = false) := fun g hg a ha => by
    cases w : bt set a with
    | true =>
      obtain ⟨d, hd, e⟩ := (hg a ha).1 w
      rw [e]; exact ⟨fun z => absurd z (nI_pos (by omega)), fun z => by cases z⟩
    | false => rw [(hg a ha).2 w]; exact ⟨fun _ => rfl, fun _ => by decide +kernel⟩
  have hka : ∀ g, sn_V set st g → (¬ rc_ka g bh n n = 0 ↔ sn_F set ne n g) := by
    intro g hg
    rw [ka_ok]
    constructor
    · intro h a b ha hb s1 s2 s3
      rcases h a b ha hb with w | w | w | w
      · rw [hneg g hg a (by omega), s1] at w; cases w
      · rw [hneg g hg b (by omega), s2] at w; cases w
      · rw [hbh a b ha hb] at w
        have hl := leads_ok (nds := nds) hn ha hb
        rw [nd_E_n hn hD] at hl
        exact absurd w (hl.mpr (Or.inr ((hD.1 a b (by omega) (by omega)).mp s3)))
      · exact Int.not_lt.mp (fun z => w (Int32.lt_iff_toInt_lt.mpr z))
    · intro h a b ha hb
      cases s1 : bt set a with
      | false => exact Or.inl ((hneg g hg a (by omega)).mpr s1)
      | true => cases s2 : bt set b with
        | false => exact Or.inr (Or.inl ((hneg g hg b (by omega)).mpr s2))
        | true =>
          right; right
          by_cases c : bh (10 * a + b) = 0
          · exact Or.inl c
          · right
            rw [hbh a b ha hb] at c
            have hl := leads_ok (nds := nds) hn ha hb
            rw [nd_E_n hn hD] at hl
            intro z
            have zi := Int32.lt_iff_toInt_lt.mp z
            rcases hl.mp c with w | w
            · rw [w] at zi; omega
            · have := h a b ha hb s1 s2 ((hD.1 a b (by omega) (by omega)).mpr w); omega
  have hp : 4 ^ n ≤ 1048576 := Nat.le_trans (Nat.pow_le_pow_right (by decide) hn) (by decide)
  refine rtry_ok hco h1 h4 hn hset hka ⟨_, sn_zero h1⟩ F (-1) tr0 pl hV (by omega) (Or.inl ⟨rfl, fun h _ _ => ?_⟩)
  rw [rk_0 n hk]; exact Nat.zero_le _
/-- both find the same -/
theorem stn_ok {co : Nat → Int64} (hco : ∀ a, rc_cents (co a)) {set : Int32} {ne nds : Nat → Int32} {st n F : Nat} (h1 : 1 ≤ st) (h4 : st ≤ 4) (hn : n ≤ 10) (hset : ∀ a, a < 32 → bt set a = true → a < n) (hD : nd_Rel ne nds n) {tr0 bh : Nat → Int32} (pl told trial : Nat → Int32) (loads : Nat → Int64)
    (htr : ∀ a, a < 10 → tr0 a = if bt set a = true then 0 else -1) (hbh : ∀ a b, a < n → b < n → bh (10 * a + b) = rc_leads nds n a (nI b)) (hF : 1048576 ≤ F) (htold : ∀ a, a < 10 → n ≤ a → told a = -1) :
    (ac_try co ne set (nI st) (ac_least co set (nI st) n) n n 0 0 (told, trial, ac_fillL 0 loads 4, ac_tot co set n + 1)).2.2.2 = (rc_try bh co n (nI st) F (-1) tr0 pl).1 ∧
    (∀ a, a < 10 → (ac_try co ne set (nI st) (ac_least co set (nI st) n) n n 0 0 (told, trial, ac_fillL 0 loads 4, ac_tot co set n + 1)).1 a = (rc_try bh co n (nI st) F (-1) tr0 pl).2.2 a) ∧
    (∀ a, a < 10 → n ≤ a → (ac_try co ne set (nI st) (ac_least co set (nI st) n) n n 0 0 (told, trial, ac_fillL 0 loads 4, ac_tot co set n + 1)).1 a = -1) := by
  obtain ⟨g, g1, g2, g3⟩ := cst_ok (ne := ne) hco h1 h4 hn hset told trial loads
  obtain ⟨P, p1, p2, p3⟩ := rst_ok hco h1 h4 hn hset hD pl htr hbh hF
  obtain ⟨u1, u2⟩ := sn_best_uniq h4 hn hset g1 p1
  refine ⟨Int64.toInt_inj.mp (by rw [g2, p3, u1]), fun a ha => ?_, fun a ha hna => ?_⟩
  · rw [g3 a, p2 a ha]
    by_cases c : a < n
    · rw [if_pos c]; exact u2 a ha
    · rw [if_neg c, htold a ha (by omega)]
      have w : bt set a = false := nd_nt (fun w => by have := hset a (by omega) w; omega)
      exact ((p1.1 a ha).2 w).symm
  · rw [g3 a, if_neg (by omega)]; exact htold a ha hna
def lw_RP (fi : Nat → Int32) (fl : Nat → Int64) (ai : Nat → Nat → Int32) (al : Nat → Nat → Int64) (gi : Nat → Int32) (gl : Nat → Int64) (bi : Nat → Nat → Int32) (bl : Nat → Nat → Int64) : Prop := (∀ a, a < 10 → ai 21 a = if gi 6 = 0 then -1 else bi 16 a) ∧ ∀ a, a < 10 → (fi 0).toNatClampNeg ≤ a → ai 21 a = -1
theorem lw_RP0 : lw_RP (fun _ => 0) (fun _ => 0) ac_ai0 ac_al0 rc_fi0 (fun _ => 0) (rc_ai0 12) (fun _ _ => 0) := by
  have h : ∀ a, a < 10 → ac_ai0 21 a = -1 := by decide +kernel
  exact ⟨fun a ha => (h a ha).trans (if_pos rfl).symm, fun a ha _ => h a ha⟩
theorem lw_stOk {any len x : Int32} (h : any = 0 ∧ len = -1 ∨ ¬ any = 0 ∧ ¬ len < 0) : ac_stOk any x ↔ rc_stOk len x := by
  unfold ac_stOk rc_stOk
  rcases h with ⟨h1, h2⟩ | ⟨h1, h2⟩
  · exact ⟨fun z => absurd h1 z.1, fun z => absurd (by rw [h2]; decide +kernel) z.1⟩
  · exact ⟨fun z => ⟨h2, z.2⟩, fun z => ⟨h1, z.2⟩⟩
set_option maxRecDepth 100000 in
theorem stn_all {na nr F9 : Nat} {fi : Nat → Int32} {fl : Nat → Int64} {ai : Nat → Nat → Int32} {al : Nat → Nat → Int64} {gi : Nat → Int32} {gl : Nat → Int64} {bi : Nat → Nat → Int32} {bl : Nat → Nat → Int64} (hk : ac_K na nr fi ai) (hk2 : rc_K na nr gi bi bl) (hA : lw_RA fi fl ai al gi gl bi bl) (hD : nd_Rel (ai 9) (bi 6) na) (hH : lw_RH fi fl ai al gi gl bi bl) (hP : lw_RP fi fl ai al gi gl bi bl) (hF9 : 1048576 ≤ F9) {x : Int32} (hok : ac_stOk (fi 3) x) :
    (ac_try (al 8) (ai 9) (fi 6) (nI x.toNatClampNeg) (ac_least (al 8) (fi 6) (nI x.toNatClampNeg) na) na na 0 0 ((ai 21), (ai 22), (ac_fillL 0 (al 23) 4), (ac_tot (al 8) (fi 6) na + 1))).2.2.2 = (rc_sR bi (bl 4) (gi 2) na (x.toNatClampNeg) F9).1 ∧ (∀ a, a < 10 → (ac_try (al 8) (ai 9) (fi 6) (nI x.toNatClampNeg) (ac_least (al 8) (fi 6) (nI x.toNatClampNeg) na) na na 0 0 ((ai 21), (ai 22), (ac_fillL 0 (al 23) 4), (ac_tot (al 8) (fi 6) na + 1))).1 a = (rc_sR bi (bl 4) (gi 2) na (x.toNatClampNeg) F9).2.2 a) ∧ ∀ a, a < 10 → na ≤ a → (ac_try (al 8) (ai 9) (fi 6) (nI x.toNatClampNeg) (ac_least (al 8) (fi 6) (nI x.toNatClampNeg) na) na na 0 0 ((ai 21), (ai 22), (ac_fillL 0 (al 23) 4), (ac_tot (al 8) (fi 6) na + 1))).1 a = -1 := by
  have ecl : (fi 0).toNatClampNeg = na := by rw [hk.1]; exact nI_clamp (by have := hk.2.1; omega)
  obtain ⟨s1, s2⟩ := hH hok.1
  rw [ecl] at s2
  obtain ⟨q1, q2⟩ := am_st4 hok.2.1 hok.2.2
  have q3 := am_st1 hok.2.1 q1 q2
  have hp2 := hP.2
  rw [ecl] at hp2
  unfold rc_sR
  rw [hA.2.1.1]
  refine stn_ok (ne := ai 9) (nds := bi 6) (by rw [← hA.2.1.1]; exact hk2.2.2.1) q3 q2 hk.2.1 s2 hD (bi 16) (ai 21) (ai 22) (al 23) (fun a ha => ?_) (fun a b ha hb => bo_at (bi 6) hk.2.1 (bi 21) na (Nat.le_refl na) a b ha hb) hF9 hp2
  unfold rc_sT
  rw [ti_at _ _ 10 a ha]
  have h := s1 a ha
  by_cases c : bt (fi 6) a = true
  · rw [if_pos c, if_neg (h.mp c)]
  · rw [if_neg c, if_pos (Classical.byContradiction (fun z => c (h.mpr z)))]
set_option maxRecDepth 100000 in
theorem lrP_act {na nr na2 nr2 ln ln2 nt F9 : Nat} {fi : Nat → Int32} {fl : Nat → Int64} {ai : Nat → Nat → Int32} {al : Nat → Nat → Int64} {gi : Nat → Int32} {gl : Nat → Int64} {bi : Nat → Nat → Int32} {bl : Nat → Nat → Int64} (x : Int32) (t : Int32) (d : Int32) (z : Int64) (hk : ac_K na nr fi ai) (hk2 : rc_K na2 nr2 gi bi bl) (hA : lw_RA fi fl ai al gi gl bi bl) (hD : lw_RD fi fl ai al gi gl bi bl) (hF : lw_RF fi fl ai al gi gl bi bl) (hG : lw_RG fi fl ai al gi gl bi bl) (hN : lw_RN fi fl ai al gi gl bi bl) (hH : lw_RH fi fl ai al gi gl bi bl) (hR : lw_RP fi fl ai al gi gl bi bl) (hX : ln ≤ 10 ∧ fi 5 = nI ln ∧ ln2 ≤ 10 ∧ (gi 2 = nI ln2 ∨ gi 2 = -1) ∧ nt ≤ 10 ∧ gi 5 = nI nt ∧ 1048576 ≤ F9) : lw_RP (upd (upd fi 0 (if ac_actOk (fi 0) x t d z then (fi 0) + 1 else (fi 0))) 4 (if ac_actOk (fi 0) x t d z then 0 else (fi 4))) fl (va_up (va_up (va_up ai 5 (if ac_actOk (fi 0) x t d z then upd (ai 5) na x else (ai 5))) 6 (if ac_actOk (fi 0) x t d z then upd (ai 6) na t else (ai 6))) 7 (if ac_actOk (fi 0) x t d z then upd (ai 7) na d else (ai 7))) (va_up al 8 (if ac_actOk (fi 0) x t d z then vp_updL (al 8) na z else (al 8))) (upd (upd gi 0 (if rc_actOk (gi 0) x t d z then (gi 0) + 1 else (gi 0))) 3 (if rc_actOk (gi 0) x t d z then 0 else (gi 3))) gl (va_up (va_up (va_up bi 1 (if rc_actOk (gi 0) x t d z then upd (bi 1) na2 x else (bi 1))) 2 (if rc_actOk (gi 0) x t d z then upd (bi 2) na2 t else (bi 2))) 3 (if rc_actOk (gi 0) x t d z then upd (bi 3) na2 d else (bi 3))) (va_up bl 4 (if rc_actOk (gi 0) x t d z then vp_updL (bl 4) na2 z else (bl 4))) := by
  have ecl : (fi 0).toNatClampNeg = na := by rw [hk.1]; exact nI_clamp (by have := hk.2.1; omega)
  by_cases c : ac_actOk (fi 0) x t d z
  · simp only [if_pos c]
    have e1 : (fi 0 + 1).toNatClampNeg = na + 1 := by rw [hk.1, nI_1]; exact nI_clamp (by have := hk.2.1; omega)
    refine ⟨hR.1, fun a ha hna => ?_⟩
    have hna : (fi 0 + 1).toNatClampNeg ≤ a := hna
    rw [e1] at hna
    exact hR.2 a ha (by rw [ecl]; omega)
  · simp only [if_neg c]
    exact hR
set_option maxRecDepth 100000 in
theorem lrP_before {na nr na2 nr2 ln ln2 nt F9 : Nat} {fi : Nat → Int32} {fl : Nat → Int64} {ai : Nat → Nat → Int32} {al : Nat → Nat → Int64} {gi : Nat → Int32} {gl : Nat → Int64} {bi : Nat → Nat → Int32} {bl : Nat → Nat → Int64} (x : Int32) (y : Int32) (hk : ac_K na nr fi ai) (hk2 : rc_K na2 nr2 gi bi bl) (hA : lw_RA fi fl ai al gi gl bi bl) (hD : lw_RD fi fl ai al gi gl bi bl) (hF : lw_RF fi fl ai al gi gl bi bl) (hG : lw_RG fi fl ai al gi gl bi bl) (hN : lw_RN fi fl ai al gi gl bi bl) (hH : lw_RH fi fl ai al gi gl bi bl) (hR : lw_RP fi fl ai al gi gl bi bl) (hX : ln ≤ 10 ∧ fi 5 = nI ln ∧ ln2 ≤ 10 ∧ (gi 2 = nI ln2 ∨ gi 2 = -1) ∧ nt ≤ 10 ∧ gi 5 = nI nt ∧ 1048576 ≤ F9) : lw_RP (upd fi 4 (if ac_befOk (fi 0) (ai 9) x y then 0 else (fi 4))) fl (va_up ai 9 (if ac_befOk (fi 0) (ai 9) x y then ac_addNeed ((ai 9) x.toNatClampNeg ||| ((1 : Int32) <<< (x &&& 31))) y (ai 9) na else (ai 9))) al (upd gi 3 (if rc_befOk (gi 0) (bi 6) na2 x y then 0 else (gi 3))) gl (va_up bi 6 (if rc_befOk (gi 0) (bi 6) na2 x y then upd (bi 6) (10 * y.toNatClampNeg + x.toNatClampNeg) 1 else (bi 6))) bl := by
  exact hR
set_option maxRecDepth 100000 in
theorem lrP_change {na nr na2 nr2 ln ln2 nt F9 : Nat} {fi : Nat → Int32} {fl : Nat → Int64} {ai : Nat → Nat → Int32} {al : Nat → Nat → Int64} {gi : Nat → Int32} {gl : Nat → Int64} {bi : Nat → Nat → Int32} {bl : Nat → Nat → Int64} (x : Int32) (y : Int32) (z : Int64) (hk : ac_K na nr fi ai) (hk2 : rc_K na2 nr2 gi bi bl) (hA : lw_RA fi fl ai al gi gl bi bl) (hD : lw_RD fi fl ai al gi gl bi bl) (hF : lw_RF fi fl ai al gi gl bi bl) (hG : lw_RG fi fl ai al gi gl bi bl) (hN : lw_RN fi fl ai al gi gl bi bl) (hH : lw_RH fi fl ai al gi gl bi bl) (hR : lw_RP fi fl ai al gi gl bi bl) (hX : ln ≤ 10 ∧ fi 5 = nI ln ∧ ln2 ≤ 10 ∧ (gi 2 = nI ln2 ∨ gi 2 = -1) ∧ nt ≤ 10 ∧ gi 5 = nI nt ∧ 1048576 ≤ F9) : lw_RP (upd fi 4 (if ac_movOk x y z then 0 else (fi 4))) fl ai (va_up al 10 (if ac_movOk x y z then vp_updL (al 10) ((x * 6 + y).toNatClampNeg) z else (al 10))) (upd gi 3 (if rc_movOk x y z then 0 else (gi 3))) gl bi (va_up bl 7 (if rc_movOk x y z then vp_updL (bl 7) ((6 * x + y).toNatClampNeg) z else (bl 7))) := by
  exact hR
set_option maxRecDepth 100000 in
theorem lrP_turn {na nr na2 nr2 ln ln2 nt F9 : Nat} {fi : Nat → Int32} {fl : Nat → Int64} {ai : Nat → Nat → Int32} {al : Nat → Nat → Int64} {gi : Nat → Int32} {gl : Nat → Int64} {bi : Nat → Nat → Int32} {bl : Nat → Nat → Int64} (x : Int32) (y : Int32) (z : Int64) (hk : ac_K na nr fi ai) (hk2 : rc_K na2 nr2 gi bi bl) (hA : lw_RA fi fl ai al gi gl bi bl) (hD : lw_RD fi fl ai al gi gl bi bl) (hF : lw_RF fi fl ai al gi gl bi bl) (hG : lw_RG fi fl ai al gi gl bi bl) (hN : lw_RN fi fl ai al gi gl bi bl) (hH : lw_RH fi fl ai al gi gl bi bl) (hR : lw_RP fi fl ai al gi gl bi bl) (hX : ln ≤ 10 ∧ fi 5 = nI ln ∧ ln2 ≤ 10 ∧ (gi 2 = nI ln2 ∨ gi 2 = -1) ∧ nt ≤ 10 ∧ gi 5 = nI nt ∧ 1048576 ≤ F9) : lw_RP (upd fi 4 (if ac_movOk x y z then 0 else (fi 4))) fl ai (va_up al 11 (if ac_movOk x y z then vp_updL (al 11) ((x * 6 + y).toNatClampNeg) z else (al 11))) (upd gi 3 (if rc_movOk x y z then 0 else (gi 3))) gl bi (va_up bl 8 (if rc_movOk x y z then vp_updL (bl 8) ((6 * x + y).toNatClampNeg) z else (bl 8))) := by
  exact hR
set_option maxRecDepth 100000 in
theorem lrP_worth {na nr na2 nr2 ln ln2 nt F9 : Nat} {fi : Nat → Int32} {fl : Nat → Int64} {ai : Nat → Nat → Int32} {al : Nat → Nat → Int64} {gi : Nat → Int32} {gl : Nat → Int64} {bi : Nat → Nat → Int32} {bl : Nat → Nat → Int64} (x : Int32) (z : Int64) (hk : ac_K na nr fi ai) (hk2 : rc_K na2 nr2 gi bi bl) (hA : lw_RA fi fl ai al gi gl bi bl) (hD : lw_RD fi fl ai al gi gl bi bl) (hF : lw_RF fi fl ai al gi gl bi bl) (hG : lw_RG fi fl ai al gi gl bi bl) (hN : lw_RN fi fl ai al gi gl bi bl) (hH : lw_RH fi fl ai al gi gl bi bl) (hR : lw_RP fi fl ai al gi gl bi bl) (hX : ln ≤ 10 ∧ fi 5 = nI ln ∧ ln2 ≤ 10 ∧ (gi 2 = nI ln2 ∨ gi 2 = -1) ∧ nt ≤ 10 ∧ gi 5 = nI nt ∧ 1048576 ≤ F9) : lw_RP (upd fi 4 (if ac_worOk x z then 0 else (fi 4))) fl ai (va_up al 12 (if ac_worOk x z then vp_updL (al 12) x.toNatClampNeg z else (al 12))) (upd gi 3 (if ac_worOk x z then 0 else (gi 3))) gl bi (va_up bl 9 (if ac_worOk x z then vp_updL (bl 9) x.toNatClampNeg z else (bl 9))) := by
  exact hR
set_option maxRecDepth 100000 in
theorem lrP_rest {na nr na2 nr2 ln ln2 nt F9 : Nat} {fi : Nat → Int32} {fl : Nat → Int64} {ai : Nat → Nat → Int32} {al : Nat → Nat → Int64} {gi : Nat → Int32} {gl : Nat → Int64} {bi : Nat → Nat → Int32} {bl : Nat → Nat → Int64} (v : Int64) (z : Int64) (hk : ac_K na nr fi ai) (hk2 : rc_K na2 nr2 gi bi bl) (hA : lw_RA fi fl ai al gi gl bi bl) (hD : lw_RD fi fl ai al gi gl bi bl) (hF : lw_RF fi fl ai al gi gl bi bl) (hG : lw_RG fi fl ai al gi gl bi bl) (hN : lw_RN fi fl ai al gi gl bi bl) (hH : lw_RH fi fl ai al gi gl bi bl) (hR : lw_RP fi fl ai al gi gl bi bl) (hX : ln ≤ 10 ∧ fi 5 = nI ln ∧ ln2 ≤ 10 ∧ (gi 2 = nI ln2 ∨ gi 2 = -1) ∧ nt ≤ 10 ∧ gi 5 = nI nt ∧ 1048576 ≤ F9) : lw_RP (upd (upd fi 2 (if ac_rstOk v z (ac_place (ai 14) v.toInt32 nr 0) then if ac_place (ai 14) v.toInt32 nr 0 = nr then (fi 2) + 1 else (fi 2) else (fi 2))) 4 (if ac_rstOk v z (ac_place (ai 14) v.toInt32 nr 0) then 0 else (fi 4))) fl (va_up ai 14 (if ac_rstOk v z (ac_place (ai 14) v.toInt32 nr 0) then upd (ai 14) (ac_place (ai 14) v.toInt32 nr 0) v.toInt32 else (ai 14))) (va_up al 15 (if ac_rstOk v z (ac_place (ai 14) v.toInt32 nr 0) then vp_updL (al 15) (ac_place (ai 14) v.toInt32 nr 0) z else (al 15))) (upd (upd gi 1 (if rc_rstOk v z (rc_pl (bi 12) v nr2 0) then if rc_pl (bi 12) v nr2 0 = nr2 then (gi 1) + 1 else (gi 1) else (gi 1))) 3 (if rc_rstOk v z (rc_pl (bi 12) v nr2 0) then 0 else (gi 3))) gl (va_up bi 12 (if rc_rstOk v z (rc_pl (bi 12) v nr2 0) then upd (bi 12) (rc_pl (bi 12) v nr2 0) v.toInt32 else (bi 12))) (va_up bl 13 (if rc_rstOk v z (rc_pl (bi 12) v nr2 0) then vp_updL (bl 13) (rc_pl (bi 12) v nr2 0) z else (bl 13))) := by
  exact hR
set_option maxRecDepth 100000 in
theorem lrP_breaks {na nr na2 nr2 ln ln2 nt F9 : Nat} {fi : Nat → Int32} {fl : Nat → Int64} {ai : Nat → Nat → Int32} {al : Nat → Nat → Int64} {gi : Nat → Int32} {gl : Nat → Int64} {bi : Nat → Nat → Int32} {bl : Nat → Nat → Int64} (x : Int32) (hk : ac_K na nr fi ai) (hk2 : rc_K na2 nr2 gi bi bl) (hA : lw_RA fi fl ai al gi gl bi bl) (hD : lw_RD fi fl ai al gi gl bi bl) (hF : lw_RF fi fl ai al gi gl bi bl) (hG : lw_RG fi fl ai al gi gl bi bl) (hN : lw_RN fi fl ai al gi gl bi bl) (hH : lw_RH fi fl ai al gi gl bi bl) (hR : lw_RP fi fl ai al gi gl bi bl) (hX : ln ≤ 10 ∧ fi 5 = nI ln ∧ ln2 ≤ 10 ∧ (gi 2 = nI ln2 ∨ gi 2 = -1) ∧ nt ≤ 10 ∧ gi 5 = nI nt ∧ 1048576 ≤ F9) : lw_RP (upd (upd fi 1 (if ac_brkOk (fi 0) (fi 1) x then (fi 1) ||| ((1 : Int32) <<< (x &&& 31)) else (fi 1))) 4 (if ac_brkOk (fi 0) (fi 1) x then 0 else (fi 4))) fl ai al (upd gi 3 (if rc_brkOk (gi 0) (bi 5) x then 0 else (gi 3))) gl (va_up bi 5 (if rc_brkOk (gi 0) (bi 5) x then upd (bi 5) x.toNatClampNeg 1 else (bi 5))) bl := by
  exact hR
set_option maxRecDepth 100000 in
theorem lrP_sure {na nr na2 nr2 ln ln2 nt F9 : Nat} {fi : Nat → Int32} {fl : Nat → Int64} {ai : Nat → Nat → Int32} {al : Nat → Nat → Int64} {gi : Nat → Int32} {gl : Nat → Int64} {bi : Nat → Nat → Int32} {bl : Nat → Nat → Int64} (x : Int32) (u : Int64) (v : Int64) (hk : ac_K na nr fi ai) (hk2 : rc_K na2 nr2 gi bi bl) (hA : lw_RA fi fl ai al gi gl bi bl) (hD : lw_RD fi fl ai al gi gl bi bl) (hF : lw_RF fi fl ai al gi gl bi bl) (hG : lw_RG fi fl ai al gi gl bi bl) (hN : lw_RN fi fl ai al gi gl bi bl) (hH : lw_RH fi fl ai al gi gl bi bl) (hR : lw_RP fi fl ai al gi gl bi bl) (hX : ln ≤ 10 ∧ fi 5 = nI ln ∧ ln2 ≤ 10 ∧ (gi 2 = nI ln2 ∨ gi 2 = -1) ∧ nt ≤ 10 ∧ gi 5 = nI nt ∧ 1048576 ≤ F9) : lw_RP (upd fi 4 (if ac_surOk x u v then 0 else (fi 4))) fl ai (va_up al 13 (if ac_surOk x u v then vp_updL (al 13) x.toNatClampNeg (27720 / v * u) else (al 13))) (upd gi 3 (if ac_surOk x u v then 0 else (gi 3))) gl (va_up (va_up bi 10 (if ac_surOk x u v then upd (bi 10) x.toNatClampNeg u.toInt32 else (bi 10))) 11 (if ac_surOk x u v then upd (bi 11) x.toNatClampNeg v.toInt32 else (bi 11))) bl := by
  exact hR
set_option maxRecDepth 100000 in
theorem lrP_run {na nr na2 nr2 ln ln2 nt F9 : Nat} {fi : Nat → Int32} {fl : Nat → Int64} {ai : Nat → Nat → Int32} {al : Nat → Nat → Int64} {gi : Nat → Int32} {gl : Nat → Int64} {bi : Nat → Nat → Int32} {bl : Nat → Nat → Int64} (z : Int64) (hk : ac_K na nr fi ai) (hk2 : rc_K na2 nr2 gi bi bl) (hA : lw_RA fi fl ai al gi gl bi bl) (hD : lw_RD fi fl ai al gi gl bi bl) (hF : lw_RF fi fl ai al gi gl bi bl) (hG : lw_RG fi fl ai al gi gl bi bl) (hN : lw_RN fi fl ai al gi gl bi bl) (hH : lw_RH fi fl ai al gi gl bi bl) (hR : lw_RP fi fl ai al gi gl bi bl) (hX : ln ≤ 10 ∧ fi 5 = nI ln ∧ ln2 ≤ 10 ∧ (gi 2 = nI ln2 ∨ gi 2 = -1) ∧ nt ≤ 10 ∧ gi 5 = nI nt ∧ 1048576 ≤ F9) : lw_RP (upd (upd (upd (upd (upd fi 3 (if ac_count (ai 9) na (2 ^ na - 1) ≤ z then 1 else (fi 3))) 4 (if ac_count (ai 9) na (2 ^ na - 1) ≤ z then 1 else (fi 4))) 5 (if ac_count (ai 9) na (2 ^ na - 1) ≤ z then (nI (ac_rk fi ai (va_up (va_up (va_up al 16 (ac_vals (al 12) (al 13) (al 16) 12)) 17 (ac_rs ai (va_up al 16 (ac_vals (al 12) (al 13) (al 16) 12)) na)) 18 (ac_rd fi ai (va_up al 16 (ac_vals (al 12) (al 13) (al 16) 12)) na nr)) na nr).2.1) else (fi 5))) 6 (if ac_count (ai 9) na (2 ^ na - 1) ≤ z then (nI (ac_rk fi ai (va_up (va_up (va_up al 16 (ac_vals (al 12) (al 13) (al 16) 12)) 17 (ac_rs ai (va_up al 16 (ac_vals (al 12) (al 13) (al 16) 12)) na)) 18 (ac_rd fi ai (va_up al 16 (ac_vals (al 12) (al 13) (al 16) 12)) na nr)) na nr).2.2) else (fi 6))) 7 (if ac_count (ai 9) na (2 ^ na - 1) ≤ z then (ac_freed (ai 5) (nI (ac_rk fi ai (va_up (va_up (va_up al 16 (ac_vals (al 12) (al 13) (al 16) 12)) 17 (ac_rs ai (va_up al 16 (ac_vals (al 12) (al 13) (al 16) 12)) na)) 18 (ac_rd fi ai (va_up al 16 (ac_vals (al 12) (al 13) (al 16) 12)) na nr)) na nr).2.2) na) else (fi 7))) (vp_updL fl 0 (if ac_count (ai 9) na (2 ^ na - 1) ≤ z then (ac_rg fi ai (va_up al 16 (ac_vals (al 12) (al 13) (al 16) 12)) na nr) else (fl 0))) (va_up ai 19 (if ac_count (ai 9) na (2 ^ na - 1) ≤ z then ((ac_rk fi ai (va_up (va_up (va_up al 16 (ac_vals (al 12) (al 13) (al 16) 12)) 17 (ac_rs ai (va_up al 16 (ac_vals (al 12) (al 13) (al 16) 12)) na)) 18 (ac_rd fi ai (va_up al 16 (ac_vals (al 12) (al 13) (al 16) 12)) na nr)) na nr).1) else (ai 19))) (va_up (va_up (va_up (va_up al 16 (if ac_count (ai 9) na (2 ^ na - 1) ≤ z then (ac_vals (al 12) (al 13) (al 16) 12) else (al 16))) 17 (if ac_count (ai 9) na (2 ^ na - 1) ≤ z then (ac_rs ai (va_up al 16 (ac_vals (al 12) (al 13) (al 16) 12)) na) else (al 17))) 18 (if ac_count (ai 9) na (2 ^ na - 1) ≤ z then (ac_rd fi ai (va_up al 16 (ac_vals (al 12) (al 13) (al 16) 12)) na nr) else (al 18))) 20 (if ac_count (ai 9) na (2 ^ na - 1) ≤ z then (ac_rb fi ai (va_up (va_up (va_up al 16 (ac_vals (al 12) (al 13) (al 16) 12)) 17 (ac_rs ai (va_up al 16 (ac_vals (al 12) (al 13) (al 16) 12)) na)) 18 (ac_rd fi ai (va_up al 16 (ac_vals (al 12) (al 13) (al 16) 12)) na nr)) na (nI (ac_rk fi ai (va_up (va_up (va_up al 16 (ac_vals (al 12) (al 13) (al 16) 12)) 17 (ac_rs ai (va_up al 16 (ac_vals (al 12) (al 13) (al 16) 12)) na)) 18 (ac_rd fi ai (va_up al 16 (ac_vals (al 12) (al 13) (al 16) 12)) na nr)) na nr).2.2)) else (al 20))) (upd (upd (upd (upd gi 2 (if rc_runOk (rc_st (bi 6) na2 (2 ^ na2 - 1)) z then nI (rc_runQ bi bl (gi 7) (gi 8) na2 nr2 F9).2.1 else (gi 2))) 3 (if rc_runOk (rc_st (bi 6) na2 (2 ^ na2 - 1)) z then 1 else (gi 3))) 4 (if rc_runOk (rc_st (bi 6) na2 (2 ^ na2 - 1)) z then rc_rest (bi 1) (nI (rc_runQ bi bl (gi 7) (gi 8) na2 nr2 F9).1) na2 else (gi 4))) 5 (if rc_runOk (rc_st (bi 6) na2 (2 ^ na2 - 1)) z then (gi 0) else (gi 5))) (vp_updL gl 0 (if rc_runOk (rc_st (bi 6) na2 (2 ^ na2 - 1)) z then (rc_bwQ bi bl (gi 7) (gi 8) na2 nr2).1 else (gl 0))) (va_up (va_up bi 14 (if rc_runOk (rc_st (bi 6) na2 (2 ^ na2 - 1)) z then (rc_runQ bi bl (gi 7) (gi 8) na2 nr2 F9).2.2.1 else (bi 14))) 17 (if rc_runOk (rc_st (bi 6) na2 (2 ^ na2 - 1)) z then rc_bwN bi na2 else (bi 17))) (va_up (va_up (va_up bl 15 (if rc_runOk (rc_st (bi 6) na2 (2 ^ na2 - 1)) z then rc_bro (rc_brings (bi 1) (bi 5) (bi 10) (bi 11) (bl 9) (gi 7) (gi 8) na2 (nI (rc_runQ bi bl (gi 7) (gi 8) na2 nr2 F9).1)) (bl 15) 12 else (bl 15))) 18 (if rc_runOk (rc_st (bi 6) na2 (2 ^ na2 - 1)) z then (rc_runQ bi bl (gi 7) (gi 8) na2 nr2 F9).2.2.2 else (bl 18))) 19 (if rc_runOk (rc_st (bi 6) na2 (2 ^ na2 - 1)) z then rc_bwV bi bl (gi 7) (gi 8) na2 nr2 else (bl 19))) := by
  exact hR
set_option maxRecDepth 100000 in
theorem lrP_test {na nr na2 nr2 ln ln2 nt F9 : Nat} {fi : Nat → Int32} {fl : Nat → Int64} {ai : Nat → Nat → Int32} {al : Nat → Nat → Int64} {gi : Nat → Int32} {gl : Nat → Int64} {bi : Nat → Nat → Int32} {bl : Nat → Nat → Int64} (x : Int32) (z : Int64) (hk : ac_K na nr fi ai) (hk2 : rc_K na2 nr2 gi bi bl) (hA : lw_RA fi fl ai al gi gl bi bl) (hD : lw_RD fi fl ai al gi gl bi bl) (hF : lw_RF fi fl ai al gi gl bi bl) (hG : lw_RG fi fl ai al gi gl bi bl) (hN : lw_RN fi fl ai al gi gl bi bl) (hH : lw_RH fi fl ai al gi gl bi bl) (hR : lw_RP fi fl ai al gi gl bi bl) (hX : ln ≤ 10 ∧ fi 5 = nI ln ∧ ln2 ≤ 10 ∧ (gi 2 = nI ln2 ∨ gi 2 = -1) ∧ nt ≤ 10 ∧ gi 5 = nI nt ∧ 1048576 ≤ F9) : lw_RP fi fl ai (va_up (va_up (va_up al 16 (if ac_tstOk x z then (vp_updL (vp_updL (ac_vals (al 12) (al 13) (al 16) 12) x.toNatClampNeg ((al 12) x.toNatClampNeg * 27720)) x.toNatClampNeg ((al 12) x.toNatClampNeg * 0)) else (al 16))) 17 (if ac_tstOk x z then (ac_rs ai (va_up (va_up (va_up al 16 (vp_updL (vp_updL (ac_vals (al 12) (al 13) (al 16) 12) x.toNatClampNeg ((al 12) x.toNatClampNeg * 27720)) x.toNatClampNeg ((al 12) x.toNatClampNeg * 0))) 17 (ac_rs ai (va_up (va_up (va_up al 16 (vp_updL (ac_vals (al 12) (al 13) (al 16) 12) x.toNatClampNeg ((al 12) x.toNatClampNeg * 27720))) 17 (ac_rs ai (va_up al 16 (ac_vals (al 12) (al 13) (al 16) 12)) na)) 18 (ac_rd fi ai (va_up al 16 (ac_vals (al 12) (al 13) (al 16) 12)) na nr)) na)) 18 (ac_rd fi ai (va_up (va_up (va_up al 16 (vp_updL (ac_vals (al 12) (al 13) (al 16) 12) x.toNatClampNeg ((al 12) x.toNatClampNeg * 27720))) 17 (ac_rs ai (va_up al 16 (ac_vals (al 12) (al 13) (al 16) 12)) na)) 18 (ac_rd fi ai (va_up al 16 (ac_vals (al 12) (al 13) (al 16) 12)) na nr)) na nr)) na) else (al 17))) 18 (if ac_tstOk x z then (ac_rd fi ai (va_up (va_up (va_up al 16 (vp_updL (vp_updL (ac_vals (al 12) (al 13) (al 16) 12) x.toNatClampNeg ((al 12) x.toNatClampNeg * 27720)) x.toNatClampNeg ((al 12) x.toNatClampNeg * 0))) 17 (ac_rs ai (va_up (va_up (va_up al 16 (vp_updL (ac_vals (al 12) (al 13) (al 16) 12) x.toNatClampNeg ((al 12) x.toNatClampNeg * 27720))) 17 (ac_rs ai (va_up al 16 (ac_vals (al 12) (al 13) (al 16) 12)) na)) 18 (ac_rd fi ai (va_up al 16 (ac_vals (al 12) (al 13) (al 16) 12)) na nr)) na)) 18 (ac_rd fi ai (va_up (va_up (va_up al 16 (vp_updL (ac_vals (al 12) (al 13) (al 16) 12) x.toNatClampNeg ((al 12) x.toNatClampNeg * 27720))) 17 (ac_rs ai (va_up al 16 (ac_vals (al 12) (al 13) (al 16) 12)) na)) 18 (ac_rd fi ai (va_up al 16 (ac_vals (al 12) (al 13) (al 16) 12)) na nr)) na nr)) na nr) else (al 18))) (upd (upd gi 7 (if ac_tstOk x z then (-1) else (gi 7))) 8 (if ac_tstOk x z then 0 else (gi 8))) gl (va_up bi 17 (if ac_tstOk x z then (rc_bwA (rc_bwA (rc_bwA bi na2) na2) na2) 17 else (bi 17))) (va_up (va_up bl 18 (if ac_tstOk x z then (rc_bwL (rc_bwA (rc_bwA bi na2) na2) (rc_bwL (rc_bwA bi na2) (rc_bwL bi bl (-1) 0 na2 nr2) x 1 na2 nr2) x 0 na2 nr2) 18 else (bl 18))) 19 (if ac_tstOk x z then (rc_bwL (rc_bwA (rc_bwA bi na2) na2) (rc_bwL (rc_bwA bi na2) (rc_bwL bi bl (-1) 0 na2 nr2) x 1 na2 nr2) x 0 na2 nr2) 19 else (bl 19))) := by
  exact hR
set_option maxRecDepth 100000 in
theorem lrP_stations {na nr na2 nr2 ln ln2 nt F9 : Nat} {fi : Nat → Int32} {fl : Nat → Int64} {ai : Nat → Nat → Int32} {al : Nat → Nat → Int64} {gi : Nat → Int32} {gl : Nat → Int64} {bi : Nat → Nat → Int32} {bl : Nat → Nat → Int64} (x : Int32) (hk : ac_K na nr fi ai) (hk2 : rc_K na2 nr2 gi bi bl) (hA : lw_RA fi fl ai al gi gl bi bl) (hD : lw_RD fi fl ai al gi gl bi bl) (hF : lw_RF fi fl ai al gi gl bi bl) (hG : lw_RG fi fl ai al gi gl bi bl) (hN : lw_RN fi fl ai al gi gl bi bl) (hH : lw_RH fi fl ai al gi gl bi bl) (hR : lw_RP fi fl ai al gi gl bi bl) (hX : ln ≤ 10 ∧ fi 5 = nI ln ∧ ln2 ≤ 10 ∧ (gi 2 = nI ln2 ∨ gi 2 = -1) ∧ nt ≤ 10 ∧ gi 5 = nI nt ∧ 1048576 ≤ F9) : lw_RP (upd (upd fi 8 (if ac_stOk (fi 3) x then (fi 6) else (fi 8))) 9 (if ac_stOk (fi 3) x then (nI x.toNatClampNeg) else (fi 9))) (vp_updL (vp_updL fl 1 (if ac_stOk (fi 3) x then ((ac_try (al 8) (ai 9) (fi 6) (nI x.toNatClampNeg) (ac_least (al 8) (fi 6) (nI x.toNatClampNeg) na) na na 0 0 ((ai 21), (ai 22), (ac_fillL 0 (al 23) 4), (ac_tot (al 8) (fi 6) na + 1))).2.2.2) else (fl 1))) 2 (if ac_stOk (fi 3) x then (ac_least (al 8) (fi 6) (nI x.toNatClampNeg) na) else (fl 2))) (va_up (va_up ai 21 (if ac_stOk (fi 3) x then ((ac_try (al 8) (ai 9) (fi 6) (nI x.toNatClampNeg) (ac_least (al 8) (fi 6) (nI x.toNatClampNeg) na) na na 0 0 ((ai 21), (ai 22), (ac_fillL 0 (al 23) 4), (ac_tot (al 8) (fi 6) na + 1))).1) else (ai 21))) 22 (if ac_stOk (fi 3) x then ((ac_try (al 8) (ai 9) (fi 6) (nI x.toNatClampNeg) (ac_least (al 8) (fi 6) (nI x.toNatClampNeg) na) na na 0 0 ((ai 21), (ai 22), (ac_fillL 0 (al 23) 4), (ac_tot (al 8) (fi 6) na + 1))).2.1) else (ai 22))) (va_up al 23 (if ac_stOk (fi 3) x then ((ac_try (al 8) (ai 9) (fi 6) (nI x.toNatClampNeg) (ac_least (al 8) (fi 6) (nI x.toNatClampNeg) na) na na 0 0 ((ai 21), (ai 22), (ac_fillL 0 (al 23) 4), (ac_tot (al 8) (fi 6) na + 1))).2.2.1) else (al 23))) (upd gi 6 (if rc_stOk (gi 2) x then 1 else (gi 6))) gl (va_up (va_up (va_up bi 16 (if rc_stOk (gi 2) x then (rc_sR bi (bl 4) (gi 2) na2 (x.toNatClampNeg) F9).2.2 else (bi 16))) 20 (if rc_stOk (gi 2) x then (rc_sR bi (bl 4) (gi 2) na2 (x.toNatClampNeg) F9).2.1 else (bi 20))) 21 (if rc_stOk (gi 2) x then rc_sB bi na2 else (bi 21))) bl := by
  obtain rfl : na = na2 := (lw_na hk2.1.1 (by have := hk2.1.2.1; omega) hk.1 (by have := hk.2.1; omega) hA.1.1).symm
  obtain rfl : nr = nr2 := (lw_na hk2.1.2.2.1 (by have := hk2.1.2.2.2.1; omega) hk.2.2.1 (by have := hk.2.2.2.1; omega) hA.1.2.1).symm
  have ecl : (fi 0).toNatClampNeg = na := by rw [hk.1]; exact nI_clamp (by have := hk.2.1; omega)
  have hDn : nd_Rel (ai 9) (bi 6) na := by rw [← ecl]; exact hD
  have hany : fi 3 = 0 ∧ gi 2 = -1 ∨ ¬ fi 3 = 0 ∧ ¬ gi 2 < 0 := hN.2.imp (fun h => ⟨h.1, h.2.1⟩) (fun h => ⟨h.1, h.2.1⟩)
  have e : ac_stOk (fi 3) x ↔ (rc_stOk (gi 2) x) := lw_stOk hany
  by_cases c : ac_stOk (fi 3) x
  · have c2 := e.mp c
    simp only [if_pos c, if_pos c2]
    obtain ⟨-, t2, t3⟩ := stn_all (F9 := F9) hk hk2 hA hDn hH hR hX.2.2.2.2.2.2 c
    refine ⟨fun a ha => ?_, fun a ha hna => ?_⟩
    · exact (t2 a ha).trans (if_neg (by decide : ¬ (1 : Int32) = 0)).symm
    · have hna : (fi 0).toNatClampNeg ≤ a := hna
      rw [ecl] at hna
      exact t3 a ha hna
  · have c2 : ¬ (rc_stOk (gi 2) x) := fun h => c (e.mpr h)
    simp only [if_neg c, if_neg c2]
    exact hR
def lw_R (fi : Nat → Int32) (fl : Nat → Int64) (ai : Nat → Nat → Int32) (al : Nat → Nat → Int64) (gi : Nat → Int32) (gl : Nat → Int64) (bi : Nat → Nat → Int32) (bl : Nat → Nat → Int64) : Prop := lw_RA fi fl ai al gi gl bi bl ∧ lw_RD fi fl ai al gi gl bi bl ∧ lw_RF fi fl ai al gi gl bi bl ∧ lw_RG fi fl ai al gi gl bi bl ∧ lw_RN fi fl ai al gi gl bi bl ∧ lw_RH fi fl ai al gi gl bi bl ∧ lw_RP fi fl ai al gi gl bi bl
theorem lw_R0 : lw_R (fun _ => 0) (fun _ => 0) ac_ai0 ac_al0 rc_fi0 (fun _ => 0) (rc_ai0 12) (fun _ _ => 0) := ⟨lw_RA0, lw_RD0, lw_RF0, lw_RG0, lw_RN0, lw_RH0, lw_RP0⟩
set_option maxRecDepth 100000 in
theorem lr_act {na nr na2 nr2 ln ln2 nt F9 : Nat} {fi : Nat → Int32} {fl : Nat → Int64} {ai : Nat → Nat → Int32} {al : Nat → Nat → Int64} {gi : Nat → Int32} {gl : Nat → Int64} {bi : Nat → Nat → Int32} {bl : Nat → Nat → Int64} (x : Int32) (t : Int32) (d : Int32) (z : Int64) (hk : ac_K na nr fi ai) (hk2 : rc_K na2 nr2 gi bi bl) (hR : lw_R fi fl ai al gi gl bi bl) (hX : ln ≤ 10 ∧ fi 5 = nI ln ∧ ln2 ≤ 10 ∧ (gi 2 = nI ln2 ∨ gi 2 = -1) ∧ nt ≤ 10 ∧ gi 5 = nI nt ∧ 1048576 ≤ F9) : lw_R (upd (upd fi 0 (if ac_actOk (fi 0) x t d z then (fi 0) + 1 else (fi 0))) 4 (if ac_actOk (fi 0) x t d z then 0 else (fi 4))) fl (va_up (va_up (va_up ai 5 (if ac_actOk (fi 0) x t d z then upd (ai 5) na x else (ai 5))) 6 (if ac_actOk (fi 0) x t d z then upd (ai 6) na t else (ai 6))) 7 (if ac_actOk (fi 0) x t d z then upd (ai 7) na d else (ai 7))) (va_up al 8 (if ac_actOk (fi 0) x t d z then vp_updL (al 8) na z else (al 8))) (upd (upd gi 0 (if rc_actOk (gi 0) x t d z then (gi 0) + 1 else (gi 0))) 3 (if rc_actOk (gi 0) x t d z then 0 else (gi 3))) gl (va_up (va_up (va_up bi 1 (if rc_actOk (gi 0) x t d z then upd (bi 1) na2 x else (bi 1))) 2 (if rc_actOk (gi 0) x t d z then upd (bi 2) na2 t else (bi 2))) 3 (if rc_actOk (gi 0) x t d z then upd (bi 3) na2 d else (bi 3))) (va_up bl 4 (if rc_actOk (gi 0) x t d z then vp_updL (bl 4) na2 z else (bl 4))) := ⟨(lrA_act x t d z hk hk2  hR.1 hX), (lrD_act x t d z hk hk2 hR.1 hR.2.1 hX), (lrF_act x t d z hk hk2 hR.1 hR.2.1 hR.2.2.1 hX), (lrG_act x t d z hk hk2 hR.1 hR.2.1 hR.2.2.1 hR.2.2.2.1 hX), (lrN_act x t d z hk hk2 hR.1 hR.2.1 hR.2.2.1 hR.2.2.2.1 hR.2.2.2.2.1 hX), (lrH_act x t d z hk hk2 hR.1 hR.2.1 hR.2.2.1 hR.2.2.2.1 hR.2.2.2.2.1 hR.2.2.2.2.2.1 hX), (lrP_act x t d z hk hk2 hR.1 hR.2.1 hR.2.2.1 hR.2.2.2.1 hR.2.2.2.2.1 hR.2.2.2.2.2.1 hR.2.2.2.2.2.2 hX)⟩
set_option maxRecDepth 100000 in
theorem lr_before {na nr na2 nr2 ln ln2 nt F9 : Nat} {fi : Nat → Int32} {fl : Nat → Int64} {ai : Nat → Nat → Int32} {al : Nat → Nat → Int64} {gi : Nat → Int32} {gl : Nat → Int64} {bi : Nat → Nat → Int32} {bl : Nat → Nat → Int64} (x : Int32) (y : Int32) (hk : ac_K na nr fi ai) (hk2 : rc_K na2 nr2 gi bi bl) (hR : lw_R fi fl ai al gi gl bi bl) (hX : ln ≤ 10 ∧ fi 5 = nI ln ∧ ln2 ≤ 10 ∧ (gi 2 = nI ln2 ∨ gi 2 = -1) ∧ nt ≤ 10 ∧ gi 5 = nI nt ∧ 1048576 ≤ F9) : lw_R (upd fi 4 (if ac_befOk (fi 0) (ai 9) x y then 0 else (fi 4))) fl (va_up ai 9 (if ac_befOk (fi 0) (ai 9) x y then ac_addNeed ((ai 9) x.toNatClampNeg ||| ((1 : Int32) <<< (x &&& 31))) y (ai 9) na else (ai 9))) al (upd gi 3 (if rc_befOk (gi 0) (bi 6) na2 x y then 0 else (gi 3))) gl (va_up bi 6 (if rc_befOk (gi 0) (bi 6) na2 x y then upd (bi 6) (10 * y.toNatClampNeg + x.toNatClampNeg) 1 else (bi 6))) bl := ⟨(lrA_before x y hk hk2  hR.1 hX), (lrD_before x y hk hk2 hR.1 hR.2.1 hX), (lrF_before x y hk hk2 hR.1 hR.2.1 hR.2.2.1 hX), (lrG_before x y hk hk2 hR.1 hR.2.1 hR.2.2.1 hR.2.2.2.1 hX), (lrN_before x y hk hk2 hR.1 hR.2.1 hR.2.2.1 hR.2.2.2.1 hR.2.2.2.2.1 hX), (lrH_before x y hk hk2 hR.1 hR.2.1 hR.2.2.1 hR.2.2.2.1 hR.2.2.2.2.1 hR.2.2.2.2.2.1 hX), (lrP_before x y hk hk2 hR.1 hR.2.1 hR.2.2.1 hR.2.2.2.1 hR.2.2.2.2.1 hR.2.2.2.2.2.1 hR.2.2.2.2.2.2 hX)⟩
set_option maxRecDepth 100000 in
theorem lr_change {na nr na2 nr2 ln ln2 nt F9 : Nat} {fi : Nat → Int32} {fl : Nat → Int64} {ai : Nat → Nat → Int32} {al : Nat → Nat → Int64} {gi : Nat → Int32} {gl : Nat → Int64} {bi : Nat → Nat → Int32} {bl : Nat → Nat → Int64} (x : Int32) (y : Int32) (z : Int64) (hk : ac_K na nr fi ai) (hk2 : rc_K na2 nr2 gi bi bl) (hR : lw_R fi fl ai al gi gl bi bl) (hX : ln ≤ 10 ∧ fi 5 = nI ln ∧ ln2 ≤ 10 ∧ (gi 2 = nI ln2 ∨ gi 2 = -1) ∧ nt ≤ 10 ∧ gi 5 = nI nt ∧ 1048576 ≤ F9) : lw_R (upd fi 4 (if ac_movOk x y z then 0 else (fi 4))) fl ai (va_up al 10 (if ac_movOk x y z then vp_updL (al 10) ((x * 6 + y).toNatClampNeg) z else (al 10))) (upd gi 3 (if rc_movOk x y z then 0 else (gi 3))) gl bi (va_up bl 7 (if rc_movOk x y z then vp_updL (bl 7) ((6 * x + y).toNatClampNeg) z else (bl 7))) := ⟨(lrA_change x y z hk hk2  hR.1 hX), (lrD_change x y z hk hk2 hR.1 hR.2.1 hX), (lrF_change x y z hk hk2 hR.1 hR.2.1 hR.2.2.1 hX), (lrG_change x y z hk hk2 hR.1 hR.2.1 hR.2.2.1 hR.2.2.2.1 hX), (lrN_change x y z hk hk2 hR.1 hR.2.1 hR.2.2.1 hR.2.2.2.1 hR.2.2.2.2.1 hX), (lrH_change x y z hk hk2 hR.1 hR.2.1 hR.2.2.1 hR.2.2.2.1 hR.2.2.2.2.1 hR.2.2.2.2.2.1 hX), (lrP_change x y z hk hk2 hR.1 hR.2.1 hR.2.2.1 hR.2.2.2.1 hR.2.2.2.2.1 hR.2.2.2.2.2.1 hR.2.2.2.2.2.2 hX)⟩
set_option maxRecDepth 100000 in
theorem lr_turn {na nr na2 nr2 ln ln2 nt F9 : Nat} {fi : Nat → Int32} {fl : Nat → Int64} {ai : Nat → Nat → Int32} {al : Nat → Nat → Int64} {gi : Nat → Int32} {gl : Nat → Int64} {bi : Nat → Nat → Int32} {bl : Nat → Nat → Int64} (x : Int32) (y : Int32) (z : Int64) (hk : ac_K na nr fi ai) (hk2 : rc_K na2 nr2 gi bi bl) (hR : lw_R fi fl ai al gi gl bi bl) (hX : ln ≤ 10 ∧ fi 5 = nI ln ∧ ln2 ≤ 10 ∧ (gi 2 = nI ln2 ∨ gi 2 = -1) ∧ nt ≤ 10 ∧ gi 5 = nI nt ∧ 1048576 ≤ F9) : lw_R (upd fi 4 (if ac_movOk x y z then 0 else (fi 4))) fl ai (va_up al 11 (if ac_movOk x y z then vp_updL (al 11) ((x * 6 + y).toNatClampNeg) z else (al 11))) (upd gi 3 (if rc_movOk x y z then 0 else (gi 3))) gl bi (va_up bl 8 (if rc_movOk x y z then vp_updL (bl 8) ((6 * x + y).toNatClampNeg) z else (bl 8))) := ⟨(lrA_turn x y z hk hk2  hR.1 hX), (lrD_turn x y z hk hk2 hR.1 hR.2.1 hX), (lrF_turn x y z hk hk2 hR.1 hR.2.1 hR.2.2.1 hX), (lrG_turn x y z hk hk2 hR.1 hR.2.1 hR.2.2.1 hR.2.2.2.1 hX), (lrN_turn x y z hk hk2 hR.1 hR.2.1 hR.2.2.1 hR.2.2.2.1 hR.2.2.2.2.1 hX), (lrH_turn x y z hk hk2 hR.1 hR.2.1 hR.2.2.1 hR.2.2.2.1 hR.2.2.2.2.1 hR.2.2.2.2.2.1 hX), (lrP_turn x y z hk hk2 hR.1 hR.2.1 hR.2.2.1 hR.2.2.2.1 hR.2.2.2.2.1 hR.2.2.2.2.2.1 hR.2.2.2.2.2.2 hX)⟩
set_option maxRecDepth 100000 in
theorem lr_worth {na nr na2 nr2 ln ln2 nt F9 : Nat} {fi : Nat → Int32} {fl : Nat → Int64} {ai : Nat → Nat → Int32} {al : Nat → Nat → Int64} {gi : Nat → Int32} {gl : Nat → Int64} {bi : Nat → Nat → Int32} {bl : Nat → Nat → Int64} (x : Int32) (z : Int64) (hk : ac_K na nr fi ai) (hk2 : rc_K na2 nr2 gi bi bl) (hR : lw_R fi fl ai al gi gl bi bl) (hX : ln ≤ 10 ∧ fi 5 = nI ln ∧ ln2 ≤ 10 ∧ (gi 2 = nI ln2 ∨ gi 2 = -1) ∧ nt ≤ 10 ∧ gi 5 = nI nt ∧ 1048576 ≤ F9) : lw_R (upd fi 4 (if ac_worOk x z then 0 else (fi 4))) fl ai (va_up al 12 (if ac_worOk x z then vp_updL (al 12) x.toNatClampNeg z else (al 12))) (upd gi 3 (if ac_worOk x z then 0 else (gi 3))) gl bi (va_up bl 9 (if ac_worOk x z then vp_updL (bl 9) x.toNatClampNeg z else (bl 9))) := ⟨(lrA_worth x z hk hk2  hR.1 hX), (lrD_worth x z hk hk2 hR.1 hR.2.1 hX), (lrF_worth x z hk hk2 hR.1 hR.2.1 hR.2.2.1 hX), (lrG_worth x z hk hk2 hR.1 hR.2.1 hR.2.2.1 hR.2.2.2.1 hX), (lrN_worth x z hk hk2 hR.1 hR.2.1 hR.2.2.1 hR.2.2.2.1 hR.2.2.2.2.1 hX), (lrH_worth x z hk hk2 hR.1 hR.2.1 hR.2.2.1 hR.2.2.2.1 hR.2.2.2.2.1 hR.2.2.2.2.2.1 hX), (lrP_worth x z hk hk2 hR.1 hR.2.1 hR.2.2.1 hR.2.2.2.1 hR.2.2.2.2.1 hR.2.2.2.2.2.1 hR.2.2.2.2.2.2 hX)⟩
set_option maxRecDepth 100000 in
theorem lr_rest {na nr na2 nr2 ln ln2 nt F9 : Nat} {fi : Nat → Int32} {fl : Nat → Int64} {ai : Nat → Nat → Int32} {al : Nat → Nat → Int64} {gi : Nat → Int32} {gl : Nat → Int64} {bi : Nat → Nat → Int32} {bl : Nat → Nat → Int64} (v : Int64) (z : Int64) (hk : ac_K na nr fi ai) (hk2 : rc_K na2 nr2 gi bi bl) (hR : lw_R fi fl ai al gi gl bi bl) (hX : ln ≤ 10 ∧ fi 5 = nI ln ∧ ln2 ≤ 10 ∧ (gi 2 = nI ln2 ∨ gi 2 = -1) ∧ nt ≤ 10 ∧ gi 5 = nI nt ∧ 1048576 ≤ F9) : lw_R (upd (upd fi 2 (if ac_rstOk v z (ac_place (ai 14) v.toInt32 nr 0) then if ac_place (ai 14) v.toInt32 nr 0 = nr then (fi 2) + 1 else (fi 2) else (fi 2))) 4 (if ac_rstOk v z (ac_place (ai 14) v.toInt32 nr 0) then 0 else (fi 4))) fl (va_up ai 14 (if ac_rstOk v z (ac_place (ai 14) v.toInt32 nr 0) then upd (ai 14) (ac_place (ai 14) v.toInt32 nr 0) v.toInt32 else (ai 14))) (va_up al 15 (if ac_rstOk v z (ac_place (ai 14) v.toInt32 nr 0) then vp_updL (al 15) (ac_place (ai 14) v.toInt32 nr 0) z else (al 15))) (upd (upd gi 1 (if rc_rstOk v z (rc_pl (bi 12) v nr2 0) then if rc_pl (bi 12) v nr2 0 = nr2 then (gi 1) + 1 else (gi 1) else (gi 1))) 3 (if rc_rstOk v z (rc_pl (bi 12) v nr2 0) then 0 else (gi 3))) gl (va_up bi 12 (if rc_rstOk v z (rc_pl (bi 12) v nr2 0) then upd (bi 12) (rc_pl (bi 12) v nr2 0) v.toInt32 else (bi 12))) (va_up bl 13 (if rc_rstOk v z (rc_pl (bi 12) v nr2 0) then vp_updL (bl 13) (rc_pl (bi 12) v nr2 0) z else (bl 13))) := ⟨(lrA_rest v z hk hk2  hR.1 hX), (lrD_rest v z hk hk2 hR.1 hR.2.1 hX), (lrF_rest v z hk hk2 hR.1 hR.2.1 hR.2.2.1 hX), (lrG_rest v z hk hk2 hR.1 hR.2.1 hR.2.2.1 hR.2.2.2.1 hX), (lrN_rest v z hk hk2 hR.1 hR.2.1 hR.2.2.1 hR.2.2.2.1 hR.2.2.2.2.1 hX), (lrH_rest v z hk hk2 hR.1 hR.2.1 hR.2.2.1 hR.2.2.2.1 hR.2.2.2.2.1 hR.2.2.2.2.2.1 hX), (lrP_rest v z hk hk2 hR.1 hR.2.1 hR.2.2.1 hR.2.2.2.1 hR.2.2.2.2.1 hR.2.2.2.2.2.1 hR.2.2.2.2.2.2 hX)⟩
set_option maxRecDepth 100000 in
theorem lr_breaks {na nr na2 nr2 ln ln2 nt F9 : Nat} {fi : Nat → Int32} {fl : Nat → Int64} {ai : Nat → Nat → Int32} {al : Nat → Nat → Int64} {gi : Nat → Int32} {gl : Nat → Int64} {bi : Nat → Nat → Int32} {bl : Nat → Nat → Int64} (x : Int32) (hk : ac_K na nr fi ai) (hk2 : rc_K na2 nr2 gi bi bl) (hR : lw_R fi fl ai al gi gl bi bl) (hX : ln ≤ 10 ∧ fi 5 = nI ln ∧ ln2 ≤ 10 ∧ (gi 2 = nI ln2 ∨ gi 2 = -1) ∧ nt ≤ 10 ∧ gi 5 = nI nt ∧ 1048576 ≤ F9) : lw_R (upd (upd fi 1 (if ac_brkOk (fi 0) (fi 1) x then (fi 1) ||| ((1 : Int32) <<< (x &&& 31)) else (fi 1))) 4 (if ac_brkOk (fi 0) (fi 1) x then 0 else (fi 4))) fl ai al (upd gi 3 (if rc_brkOk (gi 0) (bi 5) x then 0 else (gi 3))) gl (va_up bi 5 (if rc_brkOk (gi 0) (bi 5) x then upd (bi 5) x.toNatClampNeg 1 else (bi 5))) bl := ⟨(lrA_breaks x hk hk2  hR.1 hX), (lrD_breaks x hk hk2 hR.1 hR.2.1 hX), (lrF_breaks x hk hk2 hR.1 hR.2.1 hR.2.2.1 hX), (lrG_breaks x hk hk2 hR.1 hR.2.1 hR.2.2.1 hR.2.2.2.1 hX), (lrN_breaks x hk hk2 hR.1 hR.2.1 hR.2.2.1 hR.2.2.2.1 hR.2.2.2.2.1 hX), (lrH_breaks x hk hk2 hR.1 hR.2.1 hR.2.2.1 hR.2.2.2.1 hR.2.2.2.2.1 hR.2.2.2.2.2.1 hX), (lrP_breaks x hk hk2 hR.1 hR.2.1 hR.2.2.1 hR.2.2.2.1 hR.2.2.2.2.1 hR.2.2.2.2.2.1 hR.2.2.2.2.2.2 hX)⟩
set_option maxRecDepth 100000 in
theorem lr_sure {na nr na2 nr2 ln ln2 nt F9 : Nat} {fi : Nat → Int32} {fl : Nat → Int64} {ai : Nat → Nat → Int32} {al : Nat → Nat → Int64} {gi : Nat → Int32} {gl : Nat → Int64} {bi : Nat → Nat → Int32} {bl : Nat → Nat → Int64} (x : Int32) (u : Int64) (v : Int64) (hk : ac_K na nr fi ai) (hk2 : rc_K na2 nr2 gi bi bl) (hR : lw_R fi fl ai al gi gl bi bl) (hX : ln ≤ 10 ∧ fi 5 = nI ln ∧ ln2 ≤ 10 ∧ (gi 2 = nI ln2 ∨ gi 2 = -1) ∧ nt ≤ 10 ∧ gi 5 = nI nt ∧ 1048576 ≤ F9) : lw_R (upd fi 4 (if ac_surOk x u v then 0 else (fi 4))) fl ai (va_up al 13 (if ac_surOk x u v then vp_updL (al 13) x.toNatClampNeg (27720 / v * u) else (al 13))) (upd gi 3 (if ac_surOk x u v then 0 else (gi 3))) gl (va_up (va_up bi 10 (if ac_surOk x u v then upd (bi 10) x.toNatClampNeg u.toInt32 else (bi 10))) 11 (if ac_surOk x u v then upd (bi 11) x.toNatClampNeg v.toInt32 else (bi 11))) bl := ⟨(lrA_sure x u v hk hk2  hR.1 hX), (lrD_sure x u v hk hk2 hR.1 hR.2.1 hX), (lrF_sure x u v hk hk2 hR.1 hR.2.1 hR.2.2.1 hX), (lrG_sure x u v hk hk2 hR.1 hR.2.1 hR.2.2.1 hR.2.2.2.1 hX), (lrN_sure x u v hk hk2 hR.1 hR.2.1 hR.2.2.1 hR.2.2.2.1 hR.2.2.2.2.1 hX), (lrH_sure x u v hk hk2 hR.1 hR.2.1 hR.2.2.1 hR.2.2.2.1 hR.2.2.2.2.1 hR.2.2.2.2.2.1 hX), (lrP_sure x u v hk hk2 hR.1 hR.2.1 hR.2.2.1 hR.2.2.2.1 hR.2.2.2.2.1 hR.2.2.2.2.2.1 hR.2.2.2.2.2.2 hX)⟩
set_option maxRecDepth 100000 in
theorem lr_run {na nr na2 nr2 ln ln2 nt F9 : Nat} {fi : Nat → Int32} {fl : Nat → Int64} {ai : Nat → Nat → Int32} {al : Nat → Nat → Int64} {gi : Nat → Int32} {gl : Nat → Int64} {bi : Nat → Nat → Int32} {bl : Nat → Nat → Int64} (z : Int64) (hk : ac_K na nr fi ai) (hk2 : rc_K na2 nr2 gi bi bl) (hR : lw_R fi fl ai al gi gl bi bl) (hX : ln ≤ 10 ∧ fi 5 = nI ln ∧ ln2 ≤ 10 ∧ (gi 2 = nI ln2 ∨ gi 2 = -1) ∧ nt ≤ 10 ∧ gi 5 = nI nt ∧ 1048576 ≤ F9) : lw_R (upd (upd (upd (upd (upd fi 3 (if ac_count (ai 9) na (2 ^ na - 1) ≤ z then 1 else (fi 3))) 4 (if ac_count (ai 9) na (2 ^ na - 1) ≤ z then 1 else (fi 4))) 5 (if ac_count (ai 9) na (2 ^ na - 1) ≤ z then (nI (ac_rk fi ai (va_up (va_up (va_up al 16 (ac_vals (al 12) (al 13) (al 16) 12)) 17 (ac_rs ai (va_up al 16 (ac_vals (al 12) (al 13) (al 16) 12)) na)) 18 (ac_rd fi ai (va_up al 16 (ac_vals (al 12) (al 13) (al 16) 12)) na nr)) na nr).2.1) else (fi 5))) 6 (if ac_count (ai 9) na (2 ^ na - 1) ≤ z then (nI (ac_rk fi ai (va_up (va_up (va_up al 16 (ac_vals (al 12) (al 13) (al 16) 12)) 17 (ac_rs ai (va_up al 16 (ac_vals (al 12) (al 13) (al 16) 12)) na)) 18 (ac_rd fi ai (va_up al 16 (ac_vals (al 12) (al 13) (al 16) 12)) na nr)) na nr).2.2) else (fi 6))) 7 (if ac_count (ai 9) na (2 ^ na - 1) ≤ z then (ac_freed (ai 5) (nI (ac_rk fi ai (va_up (va_up (va_up al 16 (ac_vals (al 12) (al 13) (al 16) 12)) 17 (ac_rs ai (va_up al 16 (ac_vals (al 12) (al 13) (al 16) 12)) na)) 18 (ac_rd fi ai (va_up al 16 (ac_vals (al 12) (al 13) (al 16) 12)) na nr)) na nr).2.2) na) else (fi 7))) (vp_updL fl 0 (if ac_count (ai 9) na (2 ^ na - 1) ≤ z then (ac_rg fi ai (va_up al 16 (ac_vals (al 12) (al 13) (al 16) 12)) na nr) else (fl 0))) (va_up ai 19 (if ac_count (ai 9) na (2 ^ na - 1) ≤ z then ((ac_rk fi ai (va_up (va_up (va_up al 16 (ac_vals (al 12) (al 13) (al 16) 12)) 17 (ac_rs ai (va_up al 16 (ac_vals (al 12) (al 13) (al 16) 12)) na)) 18 (ac_rd fi ai (va_up al 16 (ac_vals (al 12) (al 13) (al 16) 12)) na nr)) na nr).1) else (ai 19))) (va_up (va_up (va_up (va_up al 16 (if ac_count (ai 9) na (2 ^ na - 1) ≤ z then (ac_vals (al 12) (al 13) (al 16) 12) else (al 16))) 17 (if ac_count (ai 9) na (2 ^ na - 1) ≤ z then (ac_rs ai (va_up al 16 (ac_vals (al 12) (al 13) (al 16) 12)) na) else (al 17))) 18 (if ac_count (ai 9) na (2 ^ na - 1) ≤ z then (ac_rd fi ai (va_up al 16 (ac_vals (al 12) (al 13) (al 16) 12)) na nr) else (al 18))) 20 (if ac_count (ai 9) na (2 ^ na - 1) ≤ z then (ac_rb fi ai (va_up (va_up (va_up al 16 (ac_vals (al 12) (al 13) (al 16) 12)) 17 (ac_rs ai (va_up al 16 (ac_vals (al 12) (al 13) (al 16) 12)) na)) 18 (ac_rd fi ai (va_up al 16 (ac_vals (al 12) (al 13) (al 16) 12)) na nr)) na (nI (ac_rk fi ai (va_up (va_up (va_up al 16 (ac_vals (al 12) (al 13) (al 16) 12)) 17 (ac_rs ai (va_up al 16 (ac_vals (al 12) (al 13) (al 16) 12)) na)) 18 (ac_rd fi ai (va_up al 16 (ac_vals (al 12) (al 13) (al 16) 12)) na nr)) na nr).2.2)) else (al 20))) (upd (upd (upd (upd gi 2 (if rc_runOk (rc_st (bi 6) na2 (2 ^ na2 - 1)) z then nI (rc_runQ bi bl (gi 7) (gi 8) na2 nr2 F9).2.1 else (gi 2))) 3 (if rc_runOk (rc_st (bi 6) na2 (2 ^ na2 - 1)) z then 1 else (gi 3))) 4 (if rc_runOk (rc_st (bi 6) na2 (2 ^ na2 - 1)) z then rc_rest (bi 1) (nI (rc_runQ bi bl (gi 7) (gi 8) na2 nr2 F9).1) na2 else (gi 4))) 5 (if rc_runOk (rc_st (bi 6) na2 (2 ^ na2 - 1)) z then (gi 0) else (gi 5))) (vp_updL gl 0 (if rc_runOk (rc_st (bi 6) na2 (2 ^ na2 - 1)) z then (rc_bwQ bi bl (gi 7) (gi 8) na2 nr2).1 else (gl 0))) (va_up (va_up bi 14 (if rc_runOk (rc_st (bi 6) na2 (2 ^ na2 - 1)) z then (rc_runQ bi bl (gi 7) (gi 8) na2 nr2 F9).2.2.1 else (bi 14))) 17 (if rc_runOk (rc_st (bi 6) na2 (2 ^ na2 - 1)) z then rc_bwN bi na2 else (bi 17))) (va_up (va_up (va_up bl 15 (if rc_runOk (rc_st (bi 6) na2 (2 ^ na2 - 1)) z then rc_bro (rc_brings (bi 1) (bi 5) (bi 10) (bi 11) (bl 9) (gi 7) (gi 8) na2 (nI (rc_runQ bi bl (gi 7) (gi 8) na2 nr2 F9).1)) (bl 15) 12 else (bl 15))) 18 (if rc_runOk (rc_st (bi 6) na2 (2 ^ na2 - 1)) z then (rc_runQ bi bl (gi 7) (gi 8) na2 nr2 F9).2.2.2 else (bl 18))) 19 (if rc_runOk (rc_st (bi 6) na2 (2 ^ na2 - 1)) z then rc_bwV bi bl (gi 7) (gi 8) na2 nr2 else (bl 19))) := ⟨(lrA_run z hk hk2  hR.1 hX), (lrD_run z hk hk2 hR.1 hR.2.1 hX), (lrF_run z hk hk2 hR.1 hR.2.1 hR.2.2.1 hX), (lrG_run z hk hk2 hR.1 hR.2.1 hR.2.2.1 hR.2.2.2.1 hX), (lrN_run z hk hk2 hR.1 hR.2.1 hR.2.2.1 hR.2.2.2.1 hR.2.2.2.2.1 hX), (lrH_run z hk hk2 hR.1 hR.2.1 hR.2.2.1 hR.2.2.2.1 hR.2.2.2.2.1 hR.2.2.2.2.2.1 hX), (lrP_run z hk hk2 hR.1 hR.2.1 hR.2.2.1 hR.2.2.2.1 hR.2.2.2.2.1 hR.2.2.2.2.2.1 hR.2.2.2.2.2.2 hX)⟩
set_option maxRecDepth 100000 in
theorem lr_test {na nr na2 nr2 ln ln2 nt F9 : Nat} {fi : Nat → Int32} {fl : Nat → Int64} {ai : Nat → Nat → Int32} {al : Nat → Nat → Int64} {gi : Nat → Int32} {gl : Nat → Int64} {bi : Nat → Nat → Int32} {bl : Nat → Nat → Int64} (x : Int32) (z : Int64) (hk : ac_K na nr fi ai) (hk2 : rc_K na2 nr2 gi bi bl) (hR : lw_R fi fl ai al gi gl bi bl) (hX : ln ≤ 10 ∧ fi 5 = nI ln ∧ ln2 ≤ 10 ∧ (gi 2 = nI ln2 ∨ gi 2 = -1) ∧ nt ≤ 10 ∧ gi 5 = nI nt ∧ 1048576 ≤ F9) : lw_R fi fl ai (va_up (va_up (va_up al 16 (if ac_tstOk x z then (vp_updL (vp_updL (ac_vals (al 12) (al 13) (al 16) 12) x.toNatClampNeg ((al 12) x.toNatClampNeg * 27720)) x.toNatClampNeg ((al 12) x.toNatClampNeg * 0)) else (al 16))) 17 (if ac_tstOk x z then (ac_rs ai (va_up (va_up (va_up al 16 (vp_updL (vp_updL (ac_vals (al 12) (al 13) (al 16) 12) x.toNatClampNeg ((al 12) x.toNatClampNeg * 27720)) x.toNatClampNeg ((al 12) x.toNatClampNeg * 0))) 17 (ac_rs ai (va_up (va_up (va_up al 16 (vp_updL (ac_vals (al 12) (al 13) (al 16) 12) x.toNatClampNeg ((al 12) x.toNatClampNeg * 27720))) 17 (ac_rs ai (va_up al 16 (ac_vals (al 12) (al 13) (al 16) 12)) na)) 18 (ac_rd fi ai (va_up al 16 (ac_vals (al 12) (al 13) (al 16) 12)) na nr)) na)) 18 (ac_rd fi ai (va_up (va_up (va_up al 16 (vp_updL (ac_vals (al 12) (al 13) (al 16) 12) x.toNatClampNeg ((al 12) x.toNatClampNeg * 27720))) 17 (ac_rs ai (va_up al 16 (ac_vals (al 12) (al 13) (al 16) 12)) na)) 18 (ac_rd fi ai (va_up al 16 (ac_vals (al 12) (al 13) (al 16) 12)) na nr)) na nr)) na) else (al 17))) 18 (if ac_tstOk x z then (ac_rd fi ai (va_up (va_up (va_up al 16 (vp_updL (vp_updL (ac_vals (al 12) (al 13) (al 16) 12) x.toNatClampNeg ((al 12) x.toNatClampNeg * 27720)) x.toNatClampNeg ((al 12) x.toNatClampNeg * 0))) 17 (ac_rs ai (va_up (va_up (va_up al 16 (vp_updL (ac_vals (al 12) (al 13) (al 16) 12) x.toNatClampNeg ((al 12) x.toNatClampNeg * 27720))) 17 (ac_rs ai (va_up al 16 (ac_vals (al 12) (al 13) (al 16) 12)) na)) 18 (ac_rd fi ai (va_up al 16 (ac_vals (al 12) (al 13) (al 16) 12)) na nr)) na)) 18 (ac_rd fi ai (va_up (va_up (va_up al 16 (vp_updL (ac_vals (al 12) (al 13) (al 16) 12) x.toNatClampNeg ((al 12) x.toNatClampNeg * 27720))) 17 (ac_rs ai (va_up al 16 (ac_vals (al 12) (al 13) (al 16) 12)) na)) 18 (ac_rd fi ai (va_up al 16 (ac_vals (al 12) (al 13) (al 16) 12)) na nr)) na nr)) na nr) else (al 18))) (upd (upd gi 7 (if ac_tstOk x z then (-1) else (gi 7))) 8 (if ac_tstOk x z then 0 else (gi 8))) gl (va_up bi 17 (if ac_tstOk x z then (rc_bwA (rc_bwA (rc_bwA bi na2) na2) na2) 17 else (bi 17))) (va_up (va_up bl 18 (if ac_tstOk x z then (rc_bwL (rc_bwA (rc_bwA bi na2) na2) (rc_bwL (rc_bwA bi na2) (rc_bwL bi bl (-1) 0 na2 nr2) x 1 na2 nr2) x 0 na2 nr2) 18 else (bl 18))) 19 (if ac_tstOk x z then (rc_bwL (rc_bwA (rc_bwA bi na2) na2) (rc_bwL (rc_bwA bi na2) (rc_bwL bi bl (-1) 0 na2 nr2) x 1 na2 nr2) x 0 na2 nr2) 19 else (bl 19))) := ⟨(lrA_test x z hk hk2  hR.1 hX), (lrD_test x z hk hk2 hR.1 hR.2.1 hX), (lrF_test x z hk hk2 hR.1 hR.2.1 hR.2.2.1 hX), (lrG_test x z hk hk2 hR.1 hR.2.1 hR.2.2.1 hR.2.2.2.1 hX), (lrN_test x z hk hk2 hR.1 hR.2.1 hR.2.2.1 hR.2.2.2.1 hR.2.2.2.2.1 hX), (lrH_test x z hk hk2 hR.1 hR.2.1 hR.2.2.1 hR.2.2.2.1 hR.2.2.2.2.1 hR.2.2.2.2.2.1 hX), (lrP_test x z hk hk2 hR.1 hR.2.1 hR.2.2.1 hR.2.2.2.1 hR.2.2.2.2.1 hR.2.2.2.2.2.1 hR.2.2.2.2.2.2 hX)⟩
set_option maxRecDepth 100000 in
theorem lr_stations {na nr na2 nr2 ln ln2 nt F9 : Nat} {fi : Nat → Int32} {fl : Nat → Int64} {ai : Nat → Nat → Int32} {al : Nat → Nat → Int64} {gi : Nat → Int32} {gl : Nat → Int64} {bi : Nat → Nat → Int32} {bl : Nat → Nat → Int64} (x : Int32) (hk : ac_K na nr fi ai) (hk2 : rc_K na2 nr2 gi bi bl) (hR : lw_R fi fl ai al gi gl bi bl) (hX : ln ≤ 10 ∧ fi 5 = nI ln ∧ ln2 ≤ 10 ∧ (gi 2 = nI ln2 ∨ gi 2 = -1) ∧ nt ≤ 10 ∧ gi 5 = nI nt ∧ 1048576 ≤ F9) : lw_R (upd (upd fi 8 (if ac_stOk (fi 3) x then (fi 6) else (fi 8))) 9 (if ac_stOk (fi 3) x then (nI x.toNatClampNeg) else (fi 9))) (vp_updL (vp_updL fl 1 (if ac_stOk (fi 3) x then ((ac_try (al 8) (ai 9) (fi 6) (nI x.toNatClampNeg) (ac_least (al 8) (fi 6) (nI x.toNatClampNeg) na) na na 0 0 ((ai 21), (ai 22), (ac_fillL 0 (al 23) 4), (ac_tot (al 8) (fi 6) na + 1))).2.2.2) else (fl 1))) 2 (if ac_stOk (fi 3) x then (ac_least (al 8) (fi 6) (nI x.toNatClampNeg) na) else (fl 2))) (va_up (va_up ai 21 (if ac_stOk (fi 3) x then ((ac_try (al 8) (ai 9) (fi 6) (nI x.toNatClampNeg) (ac_least (al 8) (fi 6) (nI x.toNatClampNeg) na) na na 0 0 ((ai 21), (ai 22), (ac_fillL 0 (al 23) 4), (ac_tot (al 8) (fi 6) na + 1))).1) else (ai 21))) 22 (if ac_stOk (fi 3) x then ((ac_try (al 8) (ai 9) (fi 6) (nI x.toNatClampNeg) (ac_least (al 8) (fi 6) (nI x.toNatClampNeg) na) na na 0 0 ((ai 21), (ai 22), (ac_fillL 0 (al 23) 4), (ac_tot (al 8) (fi 6) na + 1))).2.1) else (ai 22))) (va_up al 23 (if ac_stOk (fi 3) x then ((ac_try (al 8) (ai 9) (fi 6) (nI x.toNatClampNeg) (ac_least (al 8) (fi 6) (nI x.toNatClampNeg) na) na na 0 0 ((ai 21), (ai 22), (ac_fillL 0 (al 23) 4), (ac_tot (al 8) (fi 6) na + 1))).2.2.1) else (al 23))) (upd gi 6 (if rc_stOk (gi 2) x then 1 else (gi 6))) gl (va_up (va_up (va_up bi 16 (if rc_stOk (gi 2) x then (rc_sR bi (bl 4) (gi 2) na2 (x.toNatClampNeg) F9).2.2 else (bi 16))) 20 (if rc_stOk (gi 2) x then (rc_sR bi (bl 4) (gi 2) na2 (x.toNatClampNeg) F9).2.1 else (bi 20))) 21 (if rc_stOk (gi 2) x then rc_sB bi na2 else (bi 21))) bl := ⟨(lrA_stations x hk hk2  hR.1 hX), (lrD_stations x hk hk2 hR.1 hR.2.1 hX), (lrF_stations x hk hk2 hR.1 hR.2.1 hR.2.2.1 hX), (lrG_stations x hk hk2 hR.1 hR.2.1 hR.2.2.1 hR.2.2.2.1 hX), (lrN_stations x hk hk2 hR.1 hR.2.1 hR.2.2.1 hR.2.2.2.1 hR.2.2.2.2.1 hX), (lrH_stations x hk hk2 hR.1 hR.2.1 hR.2.2.1 hR.2.2.2.1 hR.2.2.2.2.1 hR.2.2.2.2.2.1 hX), (lrP_stations x hk hk2 hR.1 hR.2.1 hR.2.2.1 hR.2.2.2.1 hR.2.2.2.2.1 hR.2.2.2.2.2.1 hR.2.2.2.2.2.2 hX)⟩
set_option maxRecDepth 100000 in
theorem le_station {na nr na2 nr2 ln ln2 nt F9 : Nat} {fi : Nat → Int32} {fl : Nat → Int64} {ai : Nat → Nat → Int32} {al : Nat → Nat → Int64} {gi : Nat → Int32} {gl : Nat → Int64} {bi : Nat → Nat → Int32} {bl : Nat → Nat → Int64} (x : Int32) (hk : ac_K na nr fi ai) (hk2 : rc_K na2 nr2 gi bi bl) (hR : lw_R fi fl ai al gi gl bi bl) (hX : ln ≤ 10 ∧ fi 5 = nI ln ∧ ln2 ≤ 10 ∧ (gi 2 = nI ln2 ∨ gi 2 = -1) ∧ nt ≤ 10 ∧ gi 5 = nI nt ∧ 1048576 ≤ F9) : (ac_stn (ai 21) x : Int32) = (if (gi 6) = 0 then -1 else ac_stn (bi 16) x : Int32) := by
  have hA : lw_RA fi fl ai al gi gl bi bl := hR.1
  have hD : lw_RD fi fl ai al gi gl bi bl := hR.2.1
  have hF : lw_RF fi fl ai al gi gl bi bl := hR.2.2.1
  have hG : lw_RG fi fl ai al gi gl bi bl := hR.2.2.2.1
  have hN : lw_RN fi fl ai al gi gl bi bl := hR.2.2.2.2.1
  have hH : lw_RH fi fl ai al gi gl bi bl := hR.2.2.2.2.2.1
  have hP : lw_RP fi fl ai al gi gl bi bl := hR.2.2.2.2.2.2
  unfold ac_stn
  by_cases c : x < 0
  · rw [if_pos c, if_pos c]
    split <;> rfl
  · rw [if_neg c, if_neg c]
    by_cases d : 10 ≤ x
    · rw [if_pos d, if_pos d]
      split <;> rfl
    · rw [if_neg d, if_neg d]
      obtain ⟨j, hj, rfl⟩ := am_rng (rfl : (10 : Int32) = nI 10) (by decide) c d
      have hj : j < 10 := hj
      rw [nI_clamp (by omega)]
      exact hP.1 j hj
