theorem rc_updK {f : Nat → Int32} {n : Nat} {v : Int32} (h : ∀ a, a < n → rc_kind (f a)) (hv : rc_kind v) : ∀ a, a < n + 1 → rc_kind (upd f n v a) := by
  intro a ha
  by_cases e : a = n
  · rw [show upd f n v a = v from if_pos e]; exact hv
  · rw [show upd f n v a = f a from if_neg e]; exact h a (by omega)
theorem rc_updI {P : Int32 → Prop} {f : Nat → Int32} {k : Nat} {v : Int32} (h : ∀ a, P (f a)) (hv : P v) : ∀ a, P (upd f k v a) := by
  intro a
  by_cases e : a = k
  · rw [show upd f k v a = v from if_pos e]; exact hv
  · rw [show upd f k v a = f a from if_neg e]; exact h a
theorem rc_updI2 {P : Int32 → Prop} {f : Nat → Int32} {n k : Nat} {v : Int32} (h : ∀ a, a < n → P (f a)) (hv : P v) : ∀ a, a < n → P (upd f k v a) := by
  intro a ha
  by_cases e : a = k
  · rw [show upd f k v a = v from if_pos e]; exact hv
  · rw [show upd f k v a = f a from if_neg e]; exact h a ha
theorem rc_sur {x : Int32} {u v : Int64} (hok : ac_surOk x u v) : (0 ≤ u.toInt32.toInt ∧ u.toInt32.toInt ≤ 12) ∧ (1 ≤ v.toInt32.toInt ∧ v.toInt32.toInt ≤ 12) := by
  obtain ⟨-, h1, h2, h3, h4⟩ := hok
  have e0 : (0 : Int64).toInt = 0 := by decide +kernel
  have e1 : (1 : Int64).toInt = 1 := by decide +kernel
  have e2 : (12 : Int64).toInt = 12 := by decide +kernel
  simp only [Int64.lt_iff_toInt_lt, Int64.le_iff_toInt_le, e0, e1, e2] at h1 h2 h3 h4
  have k1 : u.toInt32.toInt = u.toInt := by rw [Int64.toInt_toInt32]; exact Int.bmod_eq_of_le (by omega) (by omega)
  have k2 : v.toInt32.toInt = v.toInt := by rw [Int64.toInt_toInt32]; exact Int.bmod_eq_of_le (by omega) (by omega)
  rw [k1, k2]
  omega
set_option maxRecDepth 100000 in
theorem rk_change {na nr : Nat} {fi : Nat → Int32} {ai : Nat → Nat → Int32} {al : Nat → Nat → Int64} (x : Int32) (y : Int32) (z : Int64) (h : rc_K na nr fi ai al) : ∃ na2 nr2, rc_K na2 nr2 (upd fi 3 (if rc_movOk x y z then 0 else (fi 3))) ai (va_up al 7 (if rc_movOk x y z then vp_updL (al 7) ((6 * x + y).toNatClampNeg) z else (al 7))) := by
  by_cases hok : rc_movOk x y z
  · simp only [if_pos hok]
    exact ⟨na, nr, ⟨h.1.1, h.1.2.1, h.1.2.2.1, h.1.2.2.2.1, h.1.2.2.2.2.1, Or.inl rfl, h.1.2.2.2.2.2.2⟩, h.2.1, h.2.2.1, rc_updL h.2.2.2.1 (rc_cents_of hok.2.2.2), h.2.2.2.2⟩
  · simp only [if_neg hok]
    exact ⟨na, nr, h.1, h.2.1, h.2.2⟩
set_option maxRecDepth 100000 in
theorem rk_turn {na nr : Nat} {fi : Nat → Int32} {ai : Nat → Nat → Int32} {al : Nat → Nat → Int64} (x : Int32) (y : Int32) (z : Int64) (h : rc_K na nr fi ai al) : ∃ na2 nr2, rc_K na2 nr2 (upd fi 3 (if rc_movOk x y z then 0 else (fi 3))) ai (va_up al 8 (if rc_movOk x y z then vp_updL (al 8) ((6 * x + y).toNatClampNeg) z else (al 8))) := by
  by_cases hok : rc_movOk x y z
  · simp only [if_pos hok]
    exact ⟨na, nr, ⟨h.1.1, h.1.2.1, h.1.2.2.1, h.1.2.2.2.1, h.1.2.2.2.2.1, Or.inl rfl, h.1.2.2.2.2.2.2⟩, h.2.1, h.2.2.1, h.2.2.2.1, rc_updL h.2.2.2.2.1 (rc_cents_of hok.2.2.2), h.2.2.2.2.2⟩
  · simp only [if_neg hok]
    exact ⟨na, nr, h.1, h.2.1, h.2.2⟩
set_option maxRecDepth 100000 in
theorem rk_worth {na nr : Nat} {fi : Nat → Int32} {ai : Nat → Nat → Int32} {al : Nat → Nat → Int64} (x : Int32) (z : Int64) (h : rc_K na nr fi ai al) : ∃ na2 nr2, rc_K na2 nr2 (upd fi 3 (if ac_worOk x z then 0 else (fi 3))) ai (va_up al 9 (if ac_worOk x z then vp_updL (al 9) x.toNatClampNeg z else (al 9))) := by
  by_cases hok : ac_worOk x z
  · simp only [if_pos hok]
    exact ⟨na, nr, ⟨h.1.1, h.1.2.1, h.1.2.2.1, h.1.2.2.2.1, h.1.2.2.2.2.1, Or.inl rfl, h.1.2.2.2.2.2.2⟩, h.2.1, h.2.2.1, h.2.2.2.1, h.2.2.2.2.1, rc_updL h.2.2.2.2.2.1 (rc_wor_of hok.2), h.2.2.2.2.2.2⟩
  · simp only [if_neg hok]
    exact ⟨na, nr, h.1, h.2.1, h.2.2⟩
set_option maxRecDepth 100000 in
theorem rk_breaks {na nr : Nat} {fi : Nat → Int32} {ai : Nat → Nat → Int32} {al : Nat → Nat → Int64} (x : Int32) (h : rc_K na nr fi ai al) : ∃ na2 nr2, rc_K na2 nr2 (upd fi 3 (if rc_brkOk (fi 0) (ai 5) x then 0 else (fi 3))) (va_up ai 5 (if rc_brkOk (fi 0) (ai 5) x then upd (ai 5) x.toNatClampNeg 1 else (ai 5))) al := by
  by_cases hok : rc_brkOk (fi 0) (ai 5) x
  · simp only [if_pos hok]
    exact ⟨na, nr, ⟨h.1.1, h.1.2.1, h.1.2.2.1, h.1.2.2.2.1, h.1.2.2.2.2.1, Or.inl rfl, h.1.2.2.2.2.2.2⟩, h.2.1, h.2.2⟩
  · simp only [if_neg hok]
    exact ⟨na, nr, h.1, h.2.1, h.2.2⟩
set_option maxRecDepth 100000 in
theorem rk_before {na nr : Nat} {fi : Nat → Int32} {ai : Nat → Nat → Int32} {al : Nat → Nat → Int64} (x : Int32) (y : Int32) (h : rc_K na nr fi ai al) : ∃ na2 nr2, rc_K na2 nr2 (upd fi 3 (if rc_befOk (fi 0) (ai 6) na x y then 0 else (fi 3))) (va_up ai 6 (if rc_befOk (fi 0) (ai 6) na x y then upd (ai 6) (10 * y.toNatClampNeg + x.toNatClampNeg) 1 else (ai 6))) al := by
  by_cases hok : rc_befOk (fi 0) (ai 6) na x y
  · simp only [if_pos hok]
    exact ⟨na, nr, ⟨h.1.1, h.1.2.1, h.1.2.2.1, h.1.2.2.2.1, h.1.2.2.2.2.1, Or.inl rfl, h.1.2.2.2.2.2.2⟩, h.2.1, h.2.2⟩
  · simp only [if_neg hok]
    exact ⟨na, nr, h.1, h.2.1, h.2.2⟩
set_option maxRecDepth 100000 in
theorem rk_rest {na nr : Nat} {fi : Nat → Int32} {ai : Nat → Nat → Int32} {al : Nat → Nat → Int64} (v : Int64) (z : Int64) (h : rc_K na nr fi ai al) : ∃ na2 nr2, rc_K na2 nr2 (upd (upd fi 1 (if rc_rstOk v z (rc_pl (ai 12) v nr 0) then if rc_pl (ai 12) v nr 0 = nr then (fi 1) + 1 else (fi 1) else (fi 1))) 3 (if rc_rstOk v z (rc_pl (ai 12) v nr 0) then 0 else (fi 3))) (va_up ai 12 (if rc_rstOk v z (rc_pl (ai 12) v nr 0) then upd (ai 12) (rc_pl (ai 12) v nr 0) v.toInt32 else (ai 12))) (va_up al 13 (if rc_rstOk v z (rc_pl (ai 12) v nr 0) then vp_updL (al 13) (rc_pl (ai 12) v nr 0) z else (al 13))) := by
  by_cases hok : rc_rstOk v z (rc_pl (ai 12) v nr 0)
  · simp only [if_pos hok]
    have hp := (rc_pl_le (ai 12) v nr 0).2
    have hp16 := hok.2.2.2
    by_cases hq : rc_pl (ai 12) v nr 0 = nr
    · simp only [if_pos hq]; exact ⟨na, nr + 1, ⟨h.1.1, h.1.2.1, (by show fi 1 + 1 = nI (nr + 1); rw [h.1.2.2.1]; exact nI_1 nr), (by have := h.1.2.2.2.1; omega), h.1.2.2.2.2.1, Or.inl rfl, h.1.2.2.2.2.2.2⟩, h.2.1, h.2.2.1, h.2.2.2.1, h.2.2.2.2.1, h.2.2.2.2.2.1, rc_updL h.2.2.2.2.2.2 (rc_wor_of hok.2.2.1)⟩
    · simp only [if_neg hq]; exact ⟨na, nr, ⟨h.1.1, h.1.2.1, h.1.2.2.1, h.1.2.2.2.1, h.1.2.2.2.2.1, Or.inl rfl, h.1.2.2.2.2.2.2⟩, h.2.1, h.2.2.1, h.2.2.2.1, h.2.2.2.2.1, h.2.2.2.2.2.1, rc_updL h.2.2.2.2.2.2 (rc_wor_of hok.2.2.1)⟩
  · simp only [if_neg hok]
    exact ⟨na, nr, h.1, h.2.1, h.2.2⟩
set_option maxRecDepth 100000 in
theorem rk_act {na nr : Nat} {fi : Nat → Int32} {ai : Nat → Nat → Int32} {al : Nat → Nat → Int64} (x : Int32) (t : Int32) (d : Int32) (z : Int64) (h : rc_K na nr fi ai al) : ∃ na2 nr2, rc_K na2 nr2 (upd (upd fi 0 (if rc_actOk (fi 0) x t d z then (fi 0) + 1 else (fi 0))) 3 (if rc_actOk (fi 0) x t d z then 0 else (fi 3))) (va_up (va_up (va_up ai 1 (if rc_actOk (fi 0) x t d z then upd (ai 1) na x else (ai 1))) 2 (if rc_actOk (fi 0) x t d z then upd (ai 2) na t else (ai 2))) 3 (if rc_actOk (fi 0) x t d z then upd (ai 3) na d else (ai 3))) (va_up al 4 (if rc_actOk (fi 0) x t d z then vp_updL (al 4) na z else (al 4))) := by
  by_cases hok : rc_actOk (fi 0) x t d z
  · simp only [if_pos hok]
    have hlt : na < 10 := by rcases Nat.lt_or_ge na 10 with y | y; exact y; exact absurd (by rw [h.1.1, show na = 10 by have := h.1.2.1; omega]; rfl) hok.1
    exact ⟨na + 1, nr, ⟨(by show fi 0 + 1 = nI (na + 1); rw [h.1.1]; exact nI_1 na), hlt, h.1.2.2.1, h.1.2.2.2.1, h.1.2.2.2.2.1, Or.inl rfl, h.1.2.2.2.2.2.2⟩, ⟨rc_updK h.2.1.1 (am_isKind hok.2.2.2.1), rc_updK h.2.1.2.1 (am_isKind hok.2.2.2.2.1), h.2.1.2.2⟩, rc_updL h.2.2.1 (rc_cents_of hok.2.2.2.2.2), h.2.2.2⟩
  · simp only [if_neg hok]
    exact ⟨na, nr, h.1, h.2.1, h.2.2⟩
set_option maxRecDepth 100000 in
theorem rk_sure {na nr : Nat} {fi : Nat → Int32} {ai : Nat → Nat → Int32} {al : Nat → Nat → Int64} (x : Int32) (u : Int64) (v : Int64) (h : rc_K na nr fi ai al) : ∃ na2 nr2, rc_K na2 nr2 (upd fi 3 (if ac_surOk x u v then 0 else (fi 3))) (va_up (va_up ai 10 (if ac_surOk x u v then upd (ai 10) x.toNatClampNeg u.toInt32 else (ai 10))) 11 (if ac_surOk x u v then upd (ai 11) x.toNatClampNeg v.toInt32 else (ai 11))) al := by
  by_cases hok : ac_surOk x u v
  · simp only [if_pos hok]
    obtain ⟨g1, g2⟩ := rc_sur hok
    exact ⟨na, nr, ⟨h.1.1, h.1.2.1, h.1.2.2.1, h.1.2.2.2.1, h.1.2.2.2.2.1, Or.inl rfl, h.1.2.2.2.2.2.2⟩, ⟨h.2.1.1, h.2.1.2.1, rc_updI (P := fun y => 0 ≤ y.toInt ∧ y.toInt ≤ 12) h.2.1.2.2.1 g1, rc_updI2 (P := fun y => 1 ≤ y.toInt ∧ y.toInt ≤ 12) h.2.1.2.2.2 g2⟩, h.2.2⟩
  · simp only [if_neg hok]
    exact ⟨na, nr, h.1, h.2.1, h.2.2⟩
set_option maxRecDepth 100000 in
theorem rk_test {na nr : Nat} {fi : Nat → Int32} {ai : Nat → Nat → Int32} {al : Nat → Nat → Int64} (x : Int32) (z : Int64) (h : rc_K na nr fi ai al) : ∃ na2 nr2, rc_K na2 nr2 (upd (upd fi 7 (if ac_tstOk x z then (-1) else (fi 7))) 8 (if ac_tstOk x z then 0 else (fi 8))) (va_up ai 17 (if ac_tstOk x z then (rc_bwA (rc_bwA (rc_bwA ai na) na) na) 17 else (ai 17))) (va_up (va_up al 18 (if ac_tstOk x z then (rc_bwL (rc_bwA (rc_bwA ai na) na) (rc_bwL (rc_bwA ai na) (rc_bwL ai al (-1) 0 na nr) x 1 na nr) x 0 na nr) 18 else (al 18))) 19 (if ac_tstOk x z then (rc_bwL (rc_bwA (rc_bwA ai na) na) (rc_bwL (rc_bwA ai na) (rc_bwL ai al (-1) 0 na nr) x 1 na nr) x 0 na nr) 19 else (al 19))) := by
  by_cases hok : ac_tstOk x z
  · simp only [if_pos hok]
    exact ⟨na, nr, h.1, h.2.1, h.2.2⟩
  · simp only [if_neg hok]
    exact ⟨na, nr, h.1, h.2.1, h.2.2⟩
set_option maxRecDepth 100000 in
theorem rk_stations {na nr : Nat} {fi : Nat → Int32} {ai : Nat → Nat → Int32} {al : Nat → Nat → Int64} (x : Int32) (ln : Nat) (F9 : Nat) (h : rc_K na nr fi ai al) : ∃ na2 nr2, rc_K na2 nr2 (upd fi 6 (if rc_stOk (fi 2) x then 1 else (fi 6))) (va_up (va_up (va_up ai 16 (if rc_stOk (fi 2) x then (rc_sR ai (al 4) (fi 2) na (x.toNatClampNeg) F9).2.2 else (ai 16))) 20 (if rc_stOk (fi 2) x then (rc_sR ai (al 4) (fi 2) na (x.toNatClampNeg) F9).2.1 else (ai 20))) 21 (if rc_stOk (fi 2) x then rc_sB ai na else (ai 21))) al := by
  by_cases hok : rc_stOk (fi 2) x
  · simp only [if_pos hok]
    exact ⟨na, nr, h.1, h.2.1, h.2.2⟩
  · simp only [if_neg hok]
    exact ⟨na, nr, h.1, h.2.1, h.2.2⟩
