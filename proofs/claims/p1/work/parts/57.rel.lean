-- ===== class against reference: conditions that are the same =====
theorem lw_actOk {n : Int32} {k : Nat} (hn : n = nI k) (hk : k ≤ 10) (x t d : Int32) (z : Int64) : ac_actOk n x t d z ↔ rc_actOk n x t d z := by
  have h1 : (10 : Int32) ≤ n ↔ n = 10 := by
    subst hn
    rw [show (10 : Int32) = nI 10 from rfl, nI_leI (by omega) (by omega), nI_eq (by omega) (by omega)]
    omega
  have h2 : (x = -1 ∨ ¬ ac_isPart x = 0) ↔ (¬ x < -1 ∧ ¬ 12 ≤ x) := by
    have e1 : (-1 : Int32).toInt = -1 := by decide +kernel
    have e0 : (0 : Int32).toInt = 0 := by decide +kernel
    have e2 : (12 : Int32).toInt = 12 := by decide +kernel
    unfold ac_isPart
    rw [← Int32.toInt_inj]
    simp only [Int32.lt_iff_toInt_lt, Int32.le_iff_toInt_le, e1, e0, e2]
    by_cases c1 : x.toInt < 0
    · simp only [if_pos c1]
      simp
      omega
    · simp only [if_neg c1]
      by_cases c2 : 12 ≤ x.toInt
      · simp only [if_pos c2]
        simp
        omega
      · simp only [if_neg c2]
        simp
        omega
  unfold ac_actOk rc_actOk
  rw [h1, h2]
  constructor
  · rintro ⟨a, ⟨b, c⟩, d⟩
    exact ⟨a, b, c, d⟩
  · rintro ⟨a, b, c, d⟩
    exact ⟨a, ⟨b, c⟩, d⟩
theorem lw_if {α : Type} {p q : Prop} [Decidable p] [Decidable q] {a b : α} (h : p ↔ q) : (if p then a else b) = if q then a else b := by
  by_cases c : p
  · rw [if_pos c, if_pos (h.mp c)]
  · rw [if_neg c, if_neg (fun w => c (h.mpr w))]
theorem lw_movOk (x y : Int32) (z : Int64) : ac_movOk x y z ↔ rc_movOk x y z := by
  unfold ac_movOk rc_movOk ac_isMove
  by_cases h1 : ac_isKind x = 0 <;> by_cases h2 : ac_isKind y = 0 <;> by_cases h3 : x = y <;> simp [h1, h2, h3]
theorem lw_na0 {x : Int32} {n : Nat} (h : x = nI n) (hn : n ≤ 16) (h0 : x = 0) : n = 0 := by
  rw [h0, show (0 : Int32) = nI 0 from rfl, nI_eq (by omega) (by omega)] at h
  exact h.symm
theorem lw_na {x y : Int32} {n m : Nat} (hx : x = nI n) (hn : n ≤ 16) (hy : y = nI m) (hm : m ≤ 16) (e : x = y) : n = m := by
  rw [hx, hy, nI_eq (by omega) (by omega)] at e
  exact e
theorem lw_noAct (x : Int32) : ac_hasAct 0 x = 0 := by
  unfold ac_hasAct
  by_cases c : x < 0
  · rw [if_pos c]
  · rw [if_neg c, if_pos (Int32.le_iff_toInt_le.mpr (by
      have := fun h => c (Int32.lt_iff_toInt_lt.mpr h)
      exact Int.not_lt.mp this))]
-- ===== p1: one call on a fresh object =====
def lw_R (fi : Nat → Int32) (fl : Nat → Int64) (ai : Nat → Nat → Int32) (al : Nat → Nat → Int64) (gi : Nat → Int32) (gl : Nat → Int64) (bi : Nat → Nat → Int32) (bl : Nat → Nat → Int64) : Prop := fi = (fun _ => 0) ∧ fl = (fun _ => 0) ∧ ai = ac_ai0 ∧ al = ac_al0 ∧ gi = rc_fi0 ∧ gl = (fun _ => 0) ∧ bi = rc_ai0 12 ∧ bl = fun _ _ => 0
theorem lw_R0 : lw_R (fun _ => 0) (fun _ => 0) ac_ai0 ac_al0 rc_fi0 (fun _ => 0) (rc_ai0 12) (fun _ _ => 0) := ⟨rfl, rfl, rfl, rfl, rfl, rfl, rfl, rfl⟩
theorem p1_endl (va : Nat → Int64) (e0 : Int64) : ∀ k, ac_endl va 0 e0 k = e0
  | 0 => rfl
  | k + 1 => by rw [ac_endl, if_pos (by unfold ac_has; simp), p1_endl va e0 k]
theorem p1_end (fr rp : Nat → Int32) (rc va : Nat → Int64) (brk set : Int32) : ac_end fr rp rc va brk 0 0 set = 0 := by
  have h1 : ac_whole fr brk 0 set = 0 := by
    unfold ac_whole
    rw [show ac_freed fr set 0 = 0 from rfl]
    exact Int32.zero_and
  have h2 : ∀ x, ac_restW rp rc 0 x = 0 := fun x => if_neg (Nat.lt_irrefl 0)
  unfold ac_end
  rw [h1, p1_endl, h2]
  decide +kernel
theorem p1_rg (fi : Nat → Int32) (ai : Nat → Nat → Int32) (al : Nat → Nat → Int64) : ac_rg fi ai al 0 0 = 0 := p1_end _ _ _ _ _ _
theorem p1_vs (brg : Nat → Int64) (h : ∀ p, brg p = 0) : ∀ k, rc_vs brg k = 0
  | 0 => rfl
  | k + 1 => by rw [rc_vs, p1_vs brg h k, h]; rfl
theorem p1_bw (bi : Nat → Nat → Int32) (bl : Nat → Nat → Int64) (x y : Int32) : (rc_bwQ bi bl x y 0 0).1 = 0 := by
  show rc_bwV bi bl x y 0 0 0 - 0 = 0
  have h : rc_bwV bi bl x y 0 0 0 = rc_val (bi 1) (bi 5) (bi 10) (bi 11) (bi 12) (bl 9) (bl 13) x y 0 0 (nI 0) := by
    unfold rc_bwV
    rw [show 2 ^ 0 = 0 + 1 from rfl, rc_vals]
    exact am_updL_s
  rw [h]
  show rc_vs (rc_brings (bi 1) (bi 5) (bi 10) (bi 11) (bl 9) x y 0 (nI 0)) 12 - 0 = 0
  have h9 : ∀ p, rc_brings (bi 1) (bi 5) (bi 10) (bi 11) (bl 9) x y 0 (nI 0) p = 0 := fun p => if_pos rfl
  rw [p1_vs _ h9]
  rfl
set_option maxRecDepth 100000 in
theorem le_act {na nr na2 nr2 ln ln2 nt F9 : Nat} {fi : Nat → Int32} {fl : Nat → Int64} {ai : Nat → Nat → Int32} {al : Nat → Nat → Int64} {gi : Nat → Int32} {gl : Nat → Int64} {bi : Nat → Nat → Int32} {bl : Nat → Nat → Int64} (x : Int32) (t : Int32) (d : Int32) (z : Int64) (hk : ac_K na nr fi ai) (hk2 : rc_K na2 nr2 gi bi bl) (hR : lw_R fi fl ai al gi gl bi bl) (hX : ln ≤ 10 ∧ fi 5 = nI ln ∧ ln2 ≤ 10 ∧ (gi 2 = nI ln2 ∨ gi 2 = -1) ∧ nt ≤ 10 ∧ gi 5 = nI nt ∧ 1048576 ≤ F9) : (if ac_actOk (fi 0) x t d z then (fi 0) else (-1) : Int32) = (if rc_actOk (gi 0) x t d z then (gi 0) + 1 - 1 else (-1) : Int32) := by
  obtain ⟨rfl, rfl, rfl, rfl, rfl, rfl, rfl, rfl⟩ := hR
  obtain rfl : na = 0 := lw_na0 hk.1 (by have := hk.2.1; omega) rfl
  obtain rfl : nr = 0 := lw_na0 hk.2.2.1 (by have := hk.2.2.2.1; omega) rfl
  obtain rfl : na2 = 0 := lw_na0 hk2.1.1 (by have := hk2.1.2.1; omega) rfl
  obtain rfl : nr2 = 0 := lw_na0 hk2.1.2.2.1 (by have := hk2.1.2.2.2.1; omega) rfl
  have e := lw_actOk (n := 0) (k := 0) rfl (by omega) x t d z
  by_cases c : ac_actOk 0 x t d z
  · have c2 : rc_actOk (rc_fi0 0) x t d z := e.mp c
    rw [if_pos c, if_pos c2]
    decide +kernel
  · have c2 : ¬ rc_actOk (rc_fi0 0) x t d z := fun h => c (e.mpr h)
    rw [if_neg c, if_neg c2]
set_option maxRecDepth 100000 in
theorem le_before {na nr na2 nr2 ln ln2 nt F9 : Nat} {fi : Nat → Int32} {fl : Nat → Int64} {ai : Nat → Nat → Int32} {al : Nat → Nat → Int64} {gi : Nat → Int32} {gl : Nat → Int64} {bi : Nat → Nat → Int32} {bl : Nat → Nat → Int64} (x : Int32) (y : Int32) (hk : ac_K na nr fi ai) (hk2 : rc_K na2 nr2 gi bi bl) (hR : lw_R fi fl ai al gi gl bi bl) (hX : ln ≤ 10 ∧ fi 5 = nI ln ∧ ln2 ≤ 10 ∧ (gi 2 = nI ln2 ∨ gi 2 = -1) ∧ nt ≤ 10 ∧ gi 5 = nI nt ∧ 1048576 ≤ F9) : (if ac_befOk (fi 0) (ai 9) x y then 1 else 0 : Int32) = (if rc_befOk (gi 0) (bi 6) na2 x y then 1 else 0 : Int32) := by
  obtain ⟨rfl, rfl, rfl, rfl, rfl, rfl, rfl, rfl⟩ := hR
  obtain rfl : na = 0 := lw_na0 hk.1 (by have := hk.2.1; omega) rfl
  obtain rfl : nr = 0 := lw_na0 hk.2.2.1 (by have := hk.2.2.2.1; omega) rfl
  obtain rfl : na2 = 0 := lw_na0 hk2.1.1 (by have := hk2.1.2.1; omega) rfl
  obtain rfl : nr2 = 0 := lw_na0 hk2.1.2.2.1 (by have := hk2.1.2.2.2.1; omega) rfl
  rw [if_neg (fun h => h.1 (lw_noAct x)), if_neg (fun h => h.1 (lw_noAct x))]
set_option maxRecDepth 100000 in
theorem le_change {na nr na2 nr2 ln ln2 nt F9 : Nat} {fi : Nat → Int32} {fl : Nat → Int64} {ai : Nat → Nat → Int32} {al : Nat → Nat → Int64} {gi : Nat → Int32} {gl : Nat → Int64} {bi : Nat → Nat → Int32} {bl : Nat → Nat → Int64} (x : Int32) (y : Int32) (z : Int64) (hk : ac_K na nr fi ai) (hk2 : rc_K na2 nr2 gi bi bl) (hR : lw_R fi fl ai al gi gl bi bl) (hX : ln ≤ 10 ∧ fi 5 = nI ln ∧ ln2 ≤ 10 ∧ (gi 2 = nI ln2 ∨ gi 2 = -1) ∧ nt ≤ 10 ∧ gi 5 = nI nt ∧ 1048576 ≤ F9) : (if ac_movOk x y z then 1 else 0 : Int32) = (if rc_movOk x y z then 1 else 0 : Int32) := by
  obtain ⟨rfl, rfl, rfl, rfl, rfl, rfl, rfl, rfl⟩ := hR
  obtain rfl : na = 0 := lw_na0 hk.1 (by have := hk.2.1; omega) rfl
  obtain rfl : nr = 0 := lw_na0 hk.2.2.1 (by have := hk.2.2.2.1; omega) rfl
  obtain rfl : na2 = 0 := lw_na0 hk2.1.1 (by have := hk2.1.2.1; omega) rfl
  obtain rfl : nr2 = 0 := lw_na0 hk2.1.2.2.1 (by have := hk2.1.2.2.2.1; omega) rfl
  exact lw_if (lw_movOk x y z)
set_option maxRecDepth 100000 in
theorem le_turn {na nr na2 nr2 ln ln2 nt F9 : Nat} {fi : Nat → Int32} {fl : Nat → Int64} {ai : Nat → Nat → Int32} {al : Nat → Nat → Int64} {gi : Nat → Int32} {gl : Nat → Int64} {bi : Nat → Nat → Int32} {bl : Nat → Nat → Int64} (x : Int32) (y : Int32) (z : Int64) (hk : ac_K na nr fi ai) (hk2 : rc_K na2 nr2 gi bi bl) (hR : lw_R fi fl ai al gi gl bi bl) (hX : ln ≤ 10 ∧ fi 5 = nI ln ∧ ln2 ≤ 10 ∧ (gi 2 = nI ln2 ∨ gi 2 = -1) ∧ nt ≤ 10 ∧ gi 5 = nI nt ∧ 1048576 ≤ F9) : (if ac_movOk x y z then 1 else 0 : Int32) = (if rc_movOk x y z then 1 else 0 : Int32) := by
  obtain ⟨rfl, rfl, rfl, rfl, rfl, rfl, rfl, rfl⟩ := hR
  obtain rfl : na = 0 := lw_na0 hk.1 (by have := hk.2.1; omega) rfl
  obtain rfl : nr = 0 := lw_na0 hk.2.2.1 (by have := hk.2.2.2.1; omega) rfl
  obtain rfl : na2 = 0 := lw_na0 hk2.1.1 (by have := hk2.1.2.1; omega) rfl
  obtain rfl : nr2 = 0 := lw_na0 hk2.1.2.2.1 (by have := hk2.1.2.2.2.1; omega) rfl
  exact lw_if (lw_movOk x y z)
set_option maxRecDepth 100000 in
theorem le_worth {na nr na2 nr2 ln ln2 nt F9 : Nat} {fi : Nat → Int32} {fl : Nat → Int64} {ai : Nat → Nat → Int32} {al : Nat → Nat → Int64} {gi : Nat → Int32} {gl : Nat → Int64} {bi : Nat → Nat → Int32} {bl : Nat → Nat → Int64} (x : Int32) (z : Int64) (hk : ac_K na nr fi ai) (hk2 : rc_K na2 nr2 gi bi bl) (hR : lw_R fi fl ai al gi gl bi bl) (hX : ln ≤ 10 ∧ fi 5 = nI ln ∧ ln2 ≤ 10 ∧ (gi 2 = nI ln2 ∨ gi 2 = -1) ∧ nt ≤ 10 ∧ gi 5 = nI nt ∧ 1048576 ≤ F9) : (if ac_worOk x z then 1 else 0 : Int32) = (if ac_worOk x z then 1 else 0 : Int32) := by
  obtain ⟨rfl, rfl, rfl, rfl, rfl, rfl, rfl, rfl⟩ := hR
  obtain rfl : na = 0 := lw_na0 hk.1 (by have := hk.2.1; omega) rfl
  obtain rfl : nr = 0 := lw_na0 hk.2.2.1 (by have := hk.2.2.2.1; omega) rfl
  obtain rfl : na2 = 0 := lw_na0 hk2.1.1 (by have := hk2.1.2.1; omega) rfl
  obtain rfl : nr2 = 0 := lw_na0 hk2.1.2.2.1 (by have := hk2.1.2.2.2.1; omega) rfl
  rfl
set_option maxRecDepth 100000 in
theorem le_rest {na nr na2 nr2 ln ln2 nt F9 : Nat} {fi : Nat → Int32} {fl : Nat → Int64} {ai : Nat → Nat → Int32} {al : Nat → Nat → Int64} {gi : Nat → Int32} {gl : Nat → Int64} {bi : Nat → Nat → Int32} {bl : Nat → Nat → Int64} (v : Int64) (z : Int64) (hk : ac_K na nr fi ai) (hk2 : rc_K na2 nr2 gi bi bl) (hR : lw_R fi fl ai al gi gl bi bl) (hX : ln ≤ 10 ∧ fi 5 = nI ln ∧ ln2 ≤ 10 ∧ (gi 2 = nI ln2 ∨ gi 2 = -1) ∧ nt ≤ 10 ∧ gi 5 = nI nt ∧ 1048576 ≤ F9) : (if ac_rstOk v z (ac_place (ai 14) v.toInt32 nr 0) then 1 else 0 : Int32) = (if rc_rstOk v z (rc_pl (bi 12) v nr2 0) then 1 else 0 : Int32) := by
  obtain ⟨rfl, rfl, rfl, rfl, rfl, rfl, rfl, rfl⟩ := hR
  obtain rfl : na = 0 := lw_na0 hk.1 (by have := hk.2.1; omega) rfl
  obtain rfl : nr = 0 := lw_na0 hk.2.2.1 (by have := hk.2.2.2.1; omega) rfl
  obtain rfl : na2 = 0 := lw_na0 hk2.1.1 (by have := hk2.1.2.1; omega) rfl
  obtain rfl : nr2 = 0 := lw_na0 hk2.1.2.2.1 (by have := hk2.1.2.2.2.1; omega) rfl
  refine lw_if ?_
  show (¬ v < 0 ∧ ¬ 4095 < v ∧ ¬ ac_isWorth z = 0 ∧ 0 < 16) ↔ (¬ v < 0 ∧ ¬ 4095 < v ∧ ¬ ac_isWorth z = 0 ∧ ¬ 0 = 16)
  simp
set_option maxRecDepth 100000 in
theorem le_breaks {na nr na2 nr2 ln ln2 nt F9 : Nat} {fi : Nat → Int32} {fl : Nat → Int64} {ai : Nat → Nat → Int32} {al : Nat → Nat → Int64} {gi : Nat → Int32} {gl : Nat → Int64} {bi : Nat → Nat → Int32} {bl : Nat → Nat → Int64} (x : Int32) (hk : ac_K na nr fi ai) (hk2 : rc_K na2 nr2 gi bi bl) (hR : lw_R fi fl ai al gi gl bi bl) (hX : ln ≤ 10 ∧ fi 5 = nI ln ∧ ln2 ≤ 10 ∧ (gi 2 = nI ln2 ∨ gi 2 = -1) ∧ nt ≤ 10 ∧ gi 5 = nI nt ∧ 1048576 ≤ F9) : (if ac_brkOk (fi 0) (fi 1) x then 1 else 0 : Int32) = (if rc_brkOk (gi 0) (bi 5) x then 1 else 0 : Int32) := by
  obtain ⟨rfl, rfl, rfl, rfl, rfl, rfl, rfl, rfl⟩ := hR
  obtain rfl : na = 0 := lw_na0 hk.1 (by have := hk.2.1; omega) rfl
  obtain rfl : nr = 0 := lw_na0 hk.2.2.1 (by have := hk.2.2.2.1; omega) rfl
  obtain rfl : na2 = 0 := lw_na0 hk2.1.1 (by have := hk2.1.2.1; omega) rfl
  obtain rfl : nr2 = 0 := lw_na0 hk2.1.2.2.1 (by have := hk2.1.2.2.2.1; omega) rfl
  rw [if_neg (fun h => h.1 (lw_noAct x)), if_neg (fun h => h.1 (lw_noAct x))]
set_option maxRecDepth 100000 in
theorem le_sure {na nr na2 nr2 ln ln2 nt F9 : Nat} {fi : Nat → Int32} {fl : Nat → Int64} {ai : Nat → Nat → Int32} {al : Nat → Nat → Int64} {gi : Nat → Int32} {gl : Nat → Int64} {bi : Nat → Nat → Int32} {bl : Nat → Nat → Int64} (x : Int32) (u : Int64) (v : Int64) (hk : ac_K na nr fi ai) (hk2 : rc_K na2 nr2 gi bi bl) (hR : lw_R fi fl ai al gi gl bi bl) (hX : ln ≤ 10 ∧ fi 5 = nI ln ∧ ln2 ≤ 10 ∧ (gi 2 = nI ln2 ∨ gi 2 = -1) ∧ nt ≤ 10 ∧ gi 5 = nI nt ∧ 1048576 ≤ F9) : (if ac_surOk x u v then 1 else 0 : Int32) = (if ac_surOk x u v then 1 else 0 : Int32) := by
  obtain ⟨rfl, rfl, rfl, rfl, rfl, rfl, rfl, rfl⟩ := hR
  obtain rfl : na = 0 := lw_na0 hk.1 (by have := hk.2.1; omega) rfl
  obtain rfl : nr = 0 := lw_na0 hk.2.2.1 (by have := hk.2.2.2.1; omega) rfl
  obtain rfl : na2 = 0 := lw_na0 hk2.1.1 (by have := hk2.1.2.1; omega) rfl
  obtain rfl : nr2 = 0 := lw_na0 hk2.1.2.2.1 (by have := hk2.1.2.2.2.1; omega) rfl
  rfl
set_option maxRecDepth 100000 in
theorem le_states {na nr na2 nr2 ln ln2 nt F9 : Nat} {fi : Nat → Int32} {fl : Nat → Int64} {ai : Nat → Nat → Int32} {al : Nat → Nat → Int64} {gi : Nat → Int32} {gl : Nat → Int64} {bi : Nat → Nat → Int32} {bl : Nat → Nat → Int64}  (hk : ac_K na nr fi ai) (hk2 : rc_K na2 nr2 gi bi bl) (hR : lw_R fi fl ai al gi gl bi bl) (hX : ln ≤ 10 ∧ fi 5 = nI ln ∧ ln2 ≤ 10 ∧ (gi 2 = nI ln2 ∨ gi 2 = -1) ∧ nt ≤ 10 ∧ gi 5 = nI nt ∧ 1048576 ≤ F9) : (ac_count (ai 9) na (2 ^ na - 1) : Int64) = (rc_st (bi 6) na2 (2 ^ na2 - 1) : Int64) := by
  obtain ⟨rfl, rfl, rfl, rfl, rfl, rfl, rfl, rfl⟩ := hR
  obtain rfl : na = 0 := lw_na0 hk.1 (by have := hk.2.1; omega) rfl
  obtain rfl : nr = 0 := lw_na0 hk.2.2.1 (by have := hk.2.2.2.1; omega) rfl
  obtain rfl : na2 = 0 := lw_na0 hk2.1.1 (by have := hk2.1.2.1; omega) rfl
  obtain rfl : nr2 = 0 := lw_na0 hk2.1.2.2.1 (by have := hk2.1.2.2.2.1; omega) rfl
  rfl
set_option maxRecDepth 100000 in
theorem le_run {na nr na2 nr2 ln ln2 nt F9 : Nat} {fi : Nat → Int32} {fl : Nat → Int64} {ai : Nat → Nat → Int32} {al : Nat → Nat → Int64} {gi : Nat → Int32} {gl : Nat → Int64} {bi : Nat → Nat → Int32} {bl : Nat → Nat → Int64} (z : Int64) (hk : ac_K na nr fi ai) (hk2 : rc_K na2 nr2 gi bi bl) (hR : lw_R fi fl ai al gi gl bi bl) (hX : ln ≤ 10 ∧ fi 5 = nI ln ∧ ln2 ≤ 10 ∧ (gi 2 = nI ln2 ∨ gi 2 = -1) ∧ nt ≤ 10 ∧ gi 5 = nI nt ∧ 1048576 ≤ F9) : (if ac_count (ai 9) na (2 ^ na - 1) ≤ z then (nI (ac_rk fi ai (va_up (va_up (va_up al 16 (ac_vals (al 12) (al 13) (al 16) 12)) 17 (ac_rs ai (va_up al 16 (ac_vals (al 12) (al 13) (al 16) 12)) na)) 18 (ac_rd fi ai (va_up al 16 (ac_vals (al 12) (al 13) (al 16) 12)) na nr)) na nr).2.1) else (-1) : Int32) = (if rc_runOk (rc_st (bi 6) na2 (2 ^ na2 - 1)) z then nI (rc_runQ bi bl (gi 7) (gi 8) na2 nr2 F9).2.1 else (-1) : Int32) := by
  obtain ⟨rfl, rfl, rfl, rfl, rfl, rfl, rfl, rfl⟩ := hR
  obtain rfl : na = 0 := lw_na0 hk.1 (by have := hk.2.1; omega) rfl
  obtain rfl : nr = 0 := lw_na0 hk.2.2.1 (by have := hk.2.2.2.1; omega) rfl
  obtain rfl : na2 = 0 := lw_na0 hk2.1.1 (by have := hk2.1.2.1; omega) rfl
  obtain rfl : nr2 = 0 := lw_na0 hk2.1.2.2.1 (by have := hk2.1.2.2.2.1; omega) rfl
  refine Eq.trans (b := if (1 : Int64) ≤ z then (0 : Int32) else -1) ?_ ?_
  · refine congrArg (fun q => if (1 : Int64) ≤ z then q else (-1 : Int32)) ?_
    refine congrArg nI ?_
    rw [ac_rk]
    have h : ∀ (fr rp ne : Nat → Int32) (rc va stp mo : Nat → Int64) (brk : Int32), ac_bn fr rp ne rc va stp mo brk 0 0 0 0 = 0 := fun _ _ _ _ _ _ _ _ => if_pos rfl
    rw [h, ac_kr_0]
  · refine congrArg (fun q => if (1 : Int64) ≤ z then q else (-1 : Int32)) ?_
    symm
    refine congrArg nI ?_
    rw [rc_runQ]
    have hv : rc_bwV (rc_ai0 12) (fun _ _ => 0) (rc_fi0 7) (rc_fi0 8) 0 0 0 - 0 = (rc_bwQ (rc_ai0 12) (fun _ _ => 0) (rc_fi0 7) (rc_fi0 8) 0 0).1 := rfl
    rw [rc_rn_0 hv]
set_option maxRecDepth 100000 in
theorem le_step {na nr na2 nr2 ln ln2 nt F9 : Nat} {fi : Nat → Int32} {fl : Nat → Int64} {ai : Nat → Nat → Int32} {al : Nat → Nat → Int64} {gi : Nat → Int32} {gl : Nat → Int64} {bi : Nat → Nat → Int32} {bl : Nat → Nat → Int64} (x : Int32) (hk : ac_K na nr fi ai) (hk2 : rc_K na2 nr2 gi bi bl) (hR : lw_R fi fl ai al gi gl bi bl) (hX : ln ≤ 10 ∧ fi 5 = nI ln ∧ ln2 ≤ 10 ∧ (gi 2 = nI ln2 ∨ gi 2 = -1) ∧ nt ≤ 10 ∧ gi 5 = nI nt ∧ 1048576 ≤ F9) : (ac_step (fi 5) (ai 19) x : Int32) = (ac_step (gi 2) (bi 14) x : Int32) := by
  obtain ⟨rfl, rfl, rfl, rfl, rfl, rfl, rfl, rfl⟩ := hR
  obtain rfl : na = 0 := lw_na0 hk.1 (by have := hk.2.1; omega) rfl
  obtain rfl : nr = 0 := lw_na0 hk.2.2.1 (by have := hk.2.2.2.1; omega) rfl
  obtain rfl : na2 = 0 := lw_na0 hk2.1.1 (by have := hk2.1.2.1; omega) rfl
  obtain rfl : nr2 = 0 := lw_na0 hk2.1.2.2.1 (by have := hk2.1.2.2.2.1; omega) rfl
  have h : ∀ r : Nat → Int32, ac_step 0 r x = -1 := by
    intro r
    unfold ac_step
    by_cases c : x < 0
    · rw [if_pos c]
    · rw [if_neg c, if_pos (Int32.le_iff_toInt_le.mpr (Int.not_lt.mp (fun h => c (Int32.lt_iff_toInt_lt.mpr h))))]
  have h2 : ∀ r : Nat → Int32, ac_step (-1) r x = -1 := by
    intro r
    unfold ac_step
    by_cases c : x < 0
    · rw [if_pos c]
    · rw [if_neg c, if_pos (am_m1le c)]
  exact (h _).trans (h2 _).symm
set_option maxRecDepth 100000 in
theorem le_stops {na nr na2 nr2 ln ln2 nt F9 : Nat} {fi : Nat → Int32} {fl : Nat → Int64} {ai : Nat → Nat → Int32} {al : Nat → Nat → Int64} {gi : Nat → Int32} {gl : Nat → Int64} {bi : Nat → Nat → Int32} {bl : Nat → Nat → Int64} (x : Int32) (hk : ac_K na nr fi ai) (hk2 : rc_K na2 nr2 gi bi bl) (hR : lw_R fi fl ai al gi gl bi bl) (hX : ln ≤ 10 ∧ fi 5 = nI ln ∧ ln2 ≤ 10 ∧ (gi 2 = nI ln2 ∨ gi 2 = -1) ∧ nt ≤ 10 ∧ gi 5 = nI nt ∧ 1048576 ≤ F9) : (if (fi 3) = 0 then -1 else ac_mem (4095 &&& ((fi 7) ^^^ (-1))) x 12 0 0 : Int32) = (rc_stops (gi 4) (gi 2) x 12 0 0 : Int32) := by
  obtain ⟨rfl, rfl, rfl, rfl, rfl, rfl, rfl, rfl⟩ := hR
  obtain rfl : na = 0 := lw_na0 hk.1 (by have := hk.2.1; omega) rfl
  obtain rfl : nr = 0 := lw_na0 hk.2.2.1 (by have := hk.2.2.2.1; omega) rfl
  obtain rfl : na2 = 0 := lw_na0 hk2.1.1 (by have := hk2.1.2.1; omega) rfl
  obtain rfl : nr2 = 0 := lw_na0 hk2.1.2.2.1 (by have := hk2.1.2.2.2.1; omega) rfl
  rw [if_pos rfl]
  symm
  exact if_pos (by decide +kernel)
set_option maxRecDepth 100000 in
theorem le_other {na nr na2 nr2 ln ln2 nt F9 : Nat} {fi : Nat → Int32} {fl : Nat → Int64} {ai : Nat → Nat → Int32} {al : Nat → Nat → Int64} {gi : Nat → Int32} {gl : Nat → Int64} {bi : Nat → Nat → Int32} {bl : Nat → Nat → Int64} (x : Int32) (hk : ac_K na nr fi ai) (hk2 : rc_K na2 nr2 gi bi bl) (hR : lw_R fi fl ai al gi gl bi bl) (hX : ln ≤ 10 ∧ fi 5 = nI ln ∧ ln2 ≤ 10 ∧ (gi 2 = nI ln2 ∨ gi 2 = -1) ∧ nt ≤ 10 ∧ gi 5 = nI nt ∧ 1048576 ≤ F9) : (if (fi 3) = 0 then -1 else ac_mem (ac_all (fi 0) &&& ((fi 6) ^^^ (-1))) x 12 0 0 : Int32) = (rc_other (fun q => rc_inrow (bi 14) q (rc_len (gi 2))) (gi 2) x nt 0 0 : Int32) := by
  obtain ⟨rfl, rfl, rfl, rfl, rfl, rfl, rfl, rfl⟩ := hR
  obtain rfl : na = 0 := lw_na0 hk.1 (by have := hk.2.1; omega) rfl
  obtain rfl : nr = 0 := lw_na0 hk.2.2.1 (by have := hk.2.2.2.1; omega) rfl
  obtain rfl : na2 = 0 := lw_na0 hk2.1.1 (by have := hk2.1.2.1; omega) rfl
  obtain rfl : nr2 = 0 := lw_na0 hk2.1.2.2.1 (by have := hk2.1.2.2.2.1; omega) rfl
  rw [if_pos rfl]
  symm
  cases nt with
  | zero => rfl
  | succ n => exact if_pos (by decide +kernel)
set_option maxRecDepth 100000 in
theorem le_gain {na nr na2 nr2 ln ln2 nt F9 : Nat} {fi : Nat → Int32} {fl : Nat → Int64} {ai : Nat → Nat → Int32} {al : Nat → Nat → Int64} {gi : Nat → Int32} {gl : Nat → Int64} {bi : Nat → Nat → Int32} {bl : Nat → Nat → Int64} (x : Int32) (hk : ac_K na nr fi ai) (hk2 : rc_K na2 nr2 gi bi bl) (hR : lw_R fi fl ai al gi gl bi bl) (hX : ln ≤ 10 ∧ fi 5 = nI ln ∧ ln2 ≤ 10 ∧ (gi 2 = nI ln2 ∨ gi 2 = -1) ∧ nt ≤ 10 ∧ gi 5 = nI nt ∧ 1048576 ≤ F9) : (ac_gain (fl 0) (al 20) x : Int64) = (rc_gain (gi 2) (gl 0) (bl 15) x : Int64) := by
  obtain ⟨rfl, rfl, rfl, rfl, rfl, rfl, rfl, rfl⟩ := hR
  obtain rfl : na = 0 := lw_na0 hk.1 (by have := hk.2.1; omega) rfl
  obtain rfl : nr = 0 := lw_na0 hk.2.2.1 (by have := hk.2.2.2.1; omega) rfl
  obtain rfl : na2 = 0 := lw_na0 hk2.1.1 (by have := hk2.1.2.1; omega) rfl
  obtain rfl : nr2 = 0 := lw_na0 hk2.1.2.2.1 (by have := hk2.1.2.2.2.1; omega) rfl
  have h : ac_gain 0 (fun _ => 0) x = 0 := by
    unfold ac_gain
    split
    · rfl
    · split <;> rfl
  refine Eq.trans h ?_
  symm
  exact if_neg (by decide +kernel)
set_option maxRecDepth 100000 in
theorem le_proved {na nr na2 nr2 ln ln2 nt F9 : Nat} {fi : Nat → Int32} {fl : Nat → Int64} {ai : Nat → Nat → Int32} {al : Nat → Nat → Int64} {gi : Nat → Int32} {gl : Nat → Int64} {bi : Nat → Nat → Int32} {bl : Nat → Nat → Int64}  (hk : ac_K na nr fi ai) (hk2 : rc_K na2 nr2 gi bi bl) (hR : lw_R fi fl ai al gi gl bi bl) (hX : ln ≤ 10 ∧ fi 5 = nI ln ∧ ln2 ≤ 10 ∧ (gi 2 = nI ln2 ∨ gi 2 = -1) ∧ nt ≤ 10 ∧ gi 5 = nI nt ∧ 1048576 ≤ F9) : (if (fi 3) = 0 then 0 else if (fi 4) = 0 then 0 else 1 : Int32) = ((gi 3) : Int32) := by
  obtain ⟨rfl, rfl, rfl, rfl, rfl, rfl, rfl, rfl⟩ := hR
  obtain rfl : na = 0 := lw_na0 hk.1 (by have := hk.2.1; omega) rfl
  obtain rfl : nr = 0 := lw_na0 hk.2.2.1 (by have := hk.2.2.2.1; omega) rfl
  obtain rfl : na2 = 0 := lw_na0 hk2.1.1 (by have := hk2.1.2.1; omega) rfl
  obtain rfl : nr2 = 0 := lw_na0 hk2.1.2.2.1 (by have := hk2.1.2.2.2.1; omega) rfl
  decide +kernel
set_option maxRecDepth 100000 in
theorem le_bound {na nr na2 nr2 ln ln2 nt F9 : Nat} {fi : Nat → Int32} {fl : Nat → Int64} {ai : Nat → Nat → Int32} {al : Nat → Nat → Int64} {gi : Nat → Int32} {gl : Nat → Int64} {bi : Nat → Nat → Int32} {bl : Nat → Nat → Int64}  (hk : ac_K na nr fi ai) (hk2 : rc_K na2 nr2 gi bi bl) (hR : lw_R fi fl ai al gi gl bi bl) (hX : ln ≤ 10 ∧ fi 5 = nI ln ∧ ln2 ≤ 10 ∧ (gi 2 = nI ln2 ∨ gi 2 = -1) ∧ nt ≤ 10 ∧ gi 5 = nI nt ∧ 1048576 ≤ F9) : (ac_bnd2 (al 12) (al 13) (ac_bnd1 (al 15) nr) 12 : Int64) = (rc_bd1 (bl 9) (bi 10) (bi 11) 12 + 27720 * rc_bd2 (bl 13) nr2 : Int64) := by
  obtain ⟨rfl, rfl, rfl, rfl, rfl, rfl, rfl, rfl⟩ := hR
  obtain rfl : na = 0 := lw_na0 hk.1 (by have := hk.2.1; omega) rfl
  obtain rfl : nr = 0 := lw_na0 hk.2.2.1 (by have := hk.2.2.2.1; omega) rfl
  obtain rfl : na2 = 0 := lw_na0 hk2.1.1 (by have := hk2.1.2.1; omega) rfl
  obtain rfl : nr2 = 0 := lw_na0 hk2.1.2.2.1 (by have := hk2.1.2.2.2.1; omega) rfl
  decide +kernel
set_option maxRecDepth 100000 in
theorem le_test {na nr na2 nr2 ln ln2 nt F9 : Nat} {fi : Nat → Int32} {fl : Nat → Int64} {ai : Nat → Nat → Int32} {al : Nat → Nat → Int64} {gi : Nat → Int32} {gl : Nat → Int64} {bi : Nat → Nat → Int32} {bl : Nat → Nat → Int64} (x : Int32) (z : Int64) (hk : ac_K na nr fi ai) (hk2 : rc_K na2 nr2 gi bi bl) (hR : lw_R fi fl ai al gi gl bi bl) (hX : ln ≤ 10 ∧ fi 5 = nI ln ∧ ln2 ≤ 10 ∧ (gi 2 = nI ln2 ∨ gi 2 = -1) ∧ nt ≤ 10 ∧ gi 5 = nI nt ∧ 1048576 ≤ F9) : (if ac_tstOk x z then ac_tst ((al 13) x.toNatClampNeg) (ac_rg fi ai (va_up al 16 (ac_vals (al 12) (al 13) (al 16) 12)) na nr) (ac_rg fi ai (va_up (va_up (va_up al 16 (vp_updL (ac_vals (al 12) (al 13) (al 16) 12) x.toNatClampNeg ((al 12) x.toNatClampNeg * 27720))) 17 (ac_rs ai (va_up al 16 (ac_vals (al 12) (al 13) (al 16) 12)) na)) 18 (ac_rd fi ai (va_up al 16 (ac_vals (al 12) (al 13) (al 16) 12)) na nr)) na nr) (ac_rg fi ai (va_up (va_up (va_up al 16 (vp_updL (vp_updL (ac_vals (al 12) (al 13) (al 16) 12) x.toNatClampNeg ((al 12) x.toNatClampNeg * 27720)) x.toNatClampNeg ((al 12) x.toNatClampNeg * 0))) 17 (ac_rs ai (va_up (va_up (va_up al 16 (vp_updL (ac_vals (al 12) (al 13) (al 16) 12) x.toNatClampNeg ((al 12) x.toNatClampNeg * 27720))) 17 (ac_rs ai (va_up al 16 (ac_vals (al 12) (al 13) (al 16) 12)) na)) 18 (ac_rd fi ai (va_up al 16 (ac_vals (al 12) (al 13) (al 16) 12)) na nr)) na)) 18 (ac_rd fi ai (va_up (va_up (va_up al 16 (vp_updL (ac_vals (al 12) (al 13) (al 16) 12) x.toNatClampNeg ((al 12) x.toNatClampNeg * 27720))) 17 (ac_rs ai (va_up al 16 (ac_vals (al 12) (al 13) (al 16) 12)) na)) 18 (ac_rd fi ai (va_up al 16 (ac_vals (al 12) (al 13) (al 16) 12)) na nr)) na nr)) na nr) z else (-1) : Int32) = (if ac_tstOk x z then rc_tv ((rc_bwQ bi bl (-1) 0 na2 nr2).1) ((rc_bwQ (rc_bwA bi na2) (rc_bwL bi bl (-1) 0 na2 nr2) x 1 na2 nr2).1) ((rc_bwQ (rc_bwA (rc_bwA bi na2) na2) (rc_bwL (rc_bwA bi na2) (rc_bwL bi bl (-1) 0 na2 nr2) x 1 na2 nr2) x 0 na2 nr2).1) (bi 10) (bi 11) x.toNatClampNeg z else (-1) : Int32) := by
  obtain ⟨rfl, rfl, rfl, rfl, rfl, rfl, rfl, rfl⟩ := hR
  obtain rfl : na = 0 := lw_na0 hk.1 (by have := hk.2.1; omega) rfl
  obtain rfl : nr = 0 := lw_na0 hk.2.2.1 (by have := hk.2.2.2.1; omega) rfl
  obtain rfl : na2 = 0 := lw_na0 hk2.1.1 (by have := hk2.1.2.1; omega) rfl
  obtain rfl : nr2 = 0 := lw_na0 hk2.1.2.2.1 (by have := hk2.1.2.2.2.1; omega) rfl
  by_cases c : ac_tstOk x z
  · rw [if_pos c, if_pos c]
    rw [p1_rg, p1_rg, p1_rg, p1_bw, p1_bw, p1_bw]
    obtain ⟨hz1, hz2⟩ := rc_cents_of c.2
    obtain ⟨p, hp, rfl⟩ := am_isPart c.1
    rw [nI_clamp (by omega)]
    have e0 : (0 : Int64).toInt = 0 := by decide +kernel
    have ew : (27720 : Int64).toInt = 27720 := by decide +kernel
    have hA : ac_tst (ac_al0 13 p) 0 0 0 z = 0 := by
      unfold ac_tst
      have k1 : (z * 27720).toInt = z.toInt * 27720 := by rw [i64_mul (by rw [ew]; omega) (by rw [ew]; omega), ew]
      have k2 : (z * 27720 * 27720).toInt = z.toInt * 27720 * 27720 := by rw [i64_mul (by rw [ew, k1]; omega) (by rw [ew, k1]; omega), ew, k1]
      refine if_pos ?_
      rw [Int64.mul_zero, Int64.mul_zero, Int64.zero_mul, Int64.add_zero, Int64.le_iff_toInt_le, i64_sub (by rw [k2, e0]; omega) (by rw [k2, e0]; omega), k2, e0]
      omega
    have hB : rc_tv 0 0 0 (rc_ai0 12 10) (rc_ai0 12 11) p z = 0 := by
      have hb : rc_ai0 12 11 p = 1 := (by decide +kernel : ∀ p, p < 12 → rc_ai0 12 11 p = 1) p hp
      have ha : rc_ai0 12 10 p = 1 := (by decide +kernel : ∀ p, p < 12 → rc_ai0 12 10 p = 1) p hp
      unfold rc_tv
      rw [ha, hb]
      have k1 : ((1 : Int32).toInt64 * 27720 * z).toInt = 27720 * z.toInt := by
        rw [show (1 : Int32).toInt64 * 27720 = 27720 by decide +kernel, i64_mul (by rw [ew]; omega) (by rw [ew]; omega), ew]
      refine if_pos ?_
      rw [Int64.mul_zero, Int64.mul_zero, Int64.add_zero, Int64.le_iff_toInt_le, i64_sub (by rw [k1, e0]; omega) (by rw [k1, e0]; omega), k1, e0]
      omega
    exact hA.trans hB.symm
  · rw [if_neg c, if_neg c]
set_option maxRecDepth 100000 in
theorem le_stations {na nr na2 nr2 ln ln2 nt F9 : Nat} {fi : Nat → Int32} {fl : Nat → Int64} {ai : Nat → Nat → Int32} {al : Nat → Nat → Int64} {gi : Nat → Int32} {gl : Nat → Int64} {bi : Nat → Nat → Int32} {bl : Nat → Nat → Int64} (x : Int32) (hk : ac_K na nr fi ai) (hk2 : rc_K na2 nr2 gi bi bl) (hR : lw_R fi fl ai al gi gl bi bl) (hX : ln ≤ 10 ∧ fi 5 = nI ln ∧ ln2 ≤ 10 ∧ (gi 2 = nI ln2 ∨ gi 2 = -1) ∧ nt ≤ 10 ∧ gi 5 = nI nt ∧ 1048576 ≤ F9) : (if ac_stOk (fi 3) x then (((ac_try (al 8) (ai 9) (fi 6) (nI x.toNatClampNeg) (ac_least (al 8) (fi 6) (nI x.toNatClampNeg) na) na na 0 0 ((ai 21), (ai 22), (ac_fillL 0 (al 23) 4), (ac_tot (al 8) (fi 6) na + 1))).2.2.2)).toInt32 else (-1) : Int32) = (if rc_stOk (gi 2) x then (rc_sR bi (bl 4) (gi 2) na2 (x.toNatClampNeg) F9).1.toInt32 else (-1) : Int32) := by
  obtain ⟨rfl, rfl, rfl, rfl, rfl, rfl, rfl, rfl⟩ := hR
  obtain rfl : na = 0 := lw_na0 hk.1 (by have := hk.2.1; omega) rfl
  obtain rfl : nr = 0 := lw_na0 hk.2.2.1 (by have := hk.2.2.2.1; omega) rfl
  obtain rfl : na2 = 0 := lw_na0 hk2.1.1 (by have := hk2.1.2.1; omega) rfl
  obtain rfl : nr2 = 0 := lw_na0 hk2.1.2.2.1 (by have := hk2.1.2.2.2.1; omega) rfl
  rw [if_neg (fun h => h.1 rfl), if_neg (fun h => h.1 (by decide +kernel))]
set_option maxRecDepth 100000 in
theorem le_station {na nr na2 nr2 ln ln2 nt F9 : Nat} {fi : Nat → Int32} {fl : Nat → Int64} {ai : Nat → Nat → Int32} {al : Nat → Nat → Int64} {gi : Nat → Int32} {gl : Nat → Int64} {bi : Nat → Nat → Int32} {bl : Nat → Nat → Int64} (x : Int32) (hk : ac_K na nr fi ai) (hk2 : rc_K na2 nr2 gi bi bl) (hR : lw_R fi fl ai al gi gl bi bl) (hX : ln ≤ 10 ∧ fi 5 = nI ln ∧ ln2 ≤ 10 ∧ (gi 2 = nI ln2 ∨ gi 2 = -1) ∧ nt ≤ 10 ∧ gi 5 = nI nt ∧ 1048576 ≤ F9) : (ac_stn (ai 21) x : Int32) = (if (gi 6) = 0 then -1 else ac_stn (bi 16) x : Int32) := by
  obtain ⟨rfl, rfl, rfl, rfl, rfl, rfl, rfl, rfl⟩ := hR
  obtain rfl : na = 0 := lw_na0 hk.1 (by have := hk.2.1; omega) rfl
  obtain rfl : nr = 0 := lw_na0 hk.2.2.1 (by have := hk.2.2.2.1; omega) rfl
  obtain rfl : na2 = 0 := lw_na0 hk2.1.1 (by have := hk2.1.2.1; omega) rfl
  obtain rfl : nr2 = 0 := lw_na0 hk2.1.2.2.1 (by have := hk2.1.2.2.2.1; omega) rfl
  refine Eq.trans (b := (-1 : Int32)) ?_ (if_pos (by decide +kernel)).symm
  unfold ac_stn
  by_cases c : x < 0
  · rw [if_pos c]
  · rw [if_neg c]
    by_cases c2 : 10 ≤ x
    · rw [if_pos c2]
    · rw [if_neg c2]
      obtain ⟨j, hj, rfl⟩ := am_rng (rfl : (10 : Int32) = nI 10) (by decide) c c2
      have hj : j < 10 := hj
      rw [nI_clamp (by omega)]
      exact (by decide +kernel : ∀ p, p < 10 → ac_ai0 21 p = -1) j hj
