-- ===== what holds of the class between two calls =====
def ac_K (na nr : Nat) (fi : Nat → Int32) (ai : Nat → Nat → Int32) : Prop :=
  fi 0 = nI na ∧ na ≤ 10 ∧ fi 2 = nI nr ∧ nr ≤ 16 ∧ (∃ ln, ln ≤ 10 ∧ fi 5 = nI ln) ∧ (∀ a, a < na → rc_kind (ai 6 a)) ∧ ∀ a, a < na → rc_kind (ai 7 a)
set_option maxRecDepth 100000 in
theorem ck_before {na nr : Nat} {fi : Nat → Int32} {fl : Nat → Int64} {ai : Nat → Nat → Int32} {al : Nat → Nat → Int64} (x : Int32) (y : Int32) (h : ac_K na nr fi ai) : ∃ na2 nr2, ac_K na2 nr2 (upd fi 4 (if ac_befOk (fi 0) (ai 9) x y then 0 else (fi 4))) (va_up ai 9 (if ac_befOk (fi 0) (ai 9) x y then ac_addNeed ((ai 9) x.toNatClampNeg ||| ((1 : Int32) <<< (x &&& 31))) y (ai 9) na else (ai 9))) := by
  exact ⟨na, nr, h⟩
set_option maxRecDepth 100000 in
theorem ck_change {na nr : Nat} {fi : Nat → Int32} {fl : Nat → Int64} {ai : Nat → Nat → Int32} {al : Nat → Nat → Int64} (x : Int32) (y : Int32) (z : Int64) (h : ac_K na nr fi ai) : ∃ na2 nr2, ac_K na2 nr2 (upd fi 4 (if ac_movOk x y z then 0 else (fi 4))) ai := by
  exact ⟨na, nr, h⟩
set_option maxRecDepth 100000 in
theorem ck_turn {na nr : Nat} {fi : Nat → Int32} {fl : Nat → Int64} {ai : Nat → Nat → Int32} {al : Nat → Nat → Int64} (x : Int32) (y : Int32) (z : Int64) (h : ac_K na nr fi ai) : ∃ na2 nr2, ac_K na2 nr2 (upd fi 4 (if ac_movOk x y z then 0 else (fi 4))) ai := by
  exact ⟨na, nr, h⟩
set_option maxRecDepth 100000 in
theorem ck_worth {na nr : Nat} {fi : Nat → Int32} {fl : Nat → Int64} {ai : Nat → Nat → Int32} {al : Nat → Nat → Int64} (x : Int32) (z : Int64) (h : ac_K na nr fi ai) : ∃ na2 nr2, ac_K na2 nr2 (upd fi 4 (if ac_worOk x z then 0 else (fi 4))) ai := by
  exact ⟨na, nr, h⟩
set_option maxRecDepth 100000 in
theorem ck_breaks {na nr : Nat} {fi : Nat → Int32} {fl : Nat → Int64} {ai : Nat → Nat → Int32} {al : Nat → Nat → Int64} (x : Int32) (h : ac_K na nr fi ai) : ∃ na2 nr2, ac_K na2 nr2 (upd (upd fi 1 (if ac_brkOk (fi 0) (fi 1) x then (fi 1) ||| ((1 : Int32) <<< (x &&& 31)) else (fi 1))) 4 (if ac_brkOk (fi 0) (fi 1) x then 0 else (fi 4))) ai := by
  exact ⟨na, nr, h⟩
set_option maxRecDepth 100000 in
theorem ck_sure {na nr : Nat} {fi : Nat → Int32} {fl : Nat → Int64} {ai : Nat → Nat → Int32} {al : Nat → Nat → Int64} (x : Int32) (u : Int64) (v : Int64) (h : ac_K na nr fi ai) : ∃ na2 nr2, ac_K na2 nr2 (upd fi 4 (if ac_surOk x u v then 0 else (fi 4))) ai := by
  exact ⟨na, nr, h⟩
set_option maxRecDepth 100000 in
theorem ck_stations {na nr : Nat} {fi : Nat → Int32} {fl : Nat → Int64} {ai : Nat → Nat → Int32} {al : Nat → Nat → Int64} (x : Int32) (h : ac_K na nr fi ai) : ∃ na2 nr2, ac_K na2 nr2 (upd (upd fi 8 (if ac_stOk (fi 3) x then (fi 6) else (fi 8))) 9 (if ac_stOk (fi 3) x then (nI x.toNatClampNeg) else (fi 9))) (va_up (va_up ai 21 (if ac_stOk (fi 3) x then ((ac_try (al 8) (ai 9) (fi 6) (nI x.toNatClampNeg) (ac_least (al 8) (fi 6) (nI x.toNatClampNeg) na) na na 0 0 ((ai 21), (ai 22), (ac_fillL 0 (al 23) 4), (ac_tot (al 8) (fi 6) na + 1))).1) else (ai 21))) 22 (if ac_stOk (fi 3) x then ((ac_try (al 8) (ai 9) (fi 6) (nI x.toNatClampNeg) (ac_least (al 8) (fi 6) (nI x.toNatClampNeg) na) na na 0 0 ((ai 21), (ai 22), (ac_fillL 0 (al 23) 4), (ac_tot (al 8) (fi 6) na + 1))).2.1) else (ai 22))) := by
  exact ⟨na, nr, h⟩
set_option maxRecDepth 100000 in
theorem ck_test {na nr : Nat} {fi : Nat → Int32} {fl : Nat → Int64} {ai : Nat → Nat → Int32} {al : Nat → Nat → Int64} (x : Int32) (z : Int64) (h : ac_K na nr fi ai) : ∃ na2 nr2, ac_K na2 nr2 fi ai := by
  exact ⟨na, nr, h⟩
set_option maxRecDepth 100000 in
theorem ck_act {na nr : Nat} {fi : Nat → Int32} {fl : Nat → Int64} {ai : Nat → Nat → Int32} {al : Nat → Nat → Int64} (x : Int32) (t : Int32) (d : Int32) (z : Int64) (h : ac_K na nr fi ai) : ∃ na2 nr2, ac_K na2 nr2 (upd (upd fi 0 (if ac_actOk (fi 0) x t d z then (fi 0) + 1 else (fi 0))) 4 (if ac_actOk (fi 0) x t d z then 0 else (fi 4))) (va_up (va_up (va_up ai 5 (if ac_actOk (fi 0) x t d z then upd (ai 5) na x else (ai 5))) 6 (if ac_actOk (fi 0) x t d z then upd (ai 6) na t else (ai 6))) 7 (if ac_actOk (fi 0) x t d z then upd (ai 7) na d else (ai 7))) := by
  by_cases hok : ac_actOk (fi 0) x t d z
  · simp only [if_pos hok]
    have hlt : na < 10 := by rcases Nat.lt_or_ge na 10 with y | y; exact y; exact absurd (by rw [h.1, show na = 10 by have := h.2.1; omega]; decide +kernel) hok.1
    exact ⟨na + 1, nr, (by show fi 0 + 1 = nI (na + 1); rw [h.1]; exact nI_1 na), hlt, h.2.2.1, h.2.2.2.1, h.2.2.2.2.1, rc_updK h.2.2.2.2.2.1 (am_isKind hok.2.2.1), rc_updK h.2.2.2.2.2.2 (am_isKind hok.2.2.2.1)⟩
  · simp only [if_neg hok]
    exact ⟨na, nr, h⟩
set_option maxRecDepth 100000 in
theorem ck_rest {na nr : Nat} {fi : Nat → Int32} {fl : Nat → Int64} {ai : Nat → Nat → Int32} {al : Nat → Nat → Int64} (v : Int64) (z : Int64) (h : ac_K na nr fi ai) : ∃ na2 nr2, ac_K na2 nr2 (upd (upd fi 2 (if ac_rstOk v z (ac_place (ai 14) v.toInt32 nr 0) then if ac_place (ai 14) v.toInt32 nr 0 = nr then (fi 2) + 1 else (fi 2) else (fi 2))) 4 (if ac_rstOk v z (ac_place (ai 14) v.toInt32 nr 0) then 0 else (fi 4))) (va_up ai 14 (if ac_rstOk v z (ac_place (ai 14) v.toInt32 nr 0) then upd (ai 14) (ac_place (ai 14) v.toInt32 nr 0) v.toInt32 else (ai 14))) := by
  by_cases hok : ac_rstOk v z (ac_place (ai 14) v.toInt32 nr 0)
  · simp only [if_pos hok]
    by_cases hq : ac_place (ai 14) v.toInt32 nr 0 = nr
    · simp only [if_pos hq]; exact ⟨na, nr + 1, h.1, h.2.1, (by show fi 2 + 1 = nI (nr + 1); rw [h.2.2.1]; exact nI_1 nr), (by have := hok.2.2.2; omega), h.2.2.2.2⟩
    · simp only [if_neg hq]; exact ⟨na, nr, h⟩
  · simp only [if_neg hok]
    exact ⟨na, nr, h⟩
