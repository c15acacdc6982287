theorem ac_kr_len (bn : Nat → Nat → Nat) : ∀ n row len s x, (ac_kr bn n row len s x).2.1 ≤ len + n
  | 0, _, len, _, _ => Nat.le_refl len
  | n + 1, _, len, _, 0 => Nat.le_add_right len (n + 1)
  | n + 1, row, len, s, a + 1 => by
    have := ac_kr_len bn n (upd row len (nI a)) (len + 1) (s ||| 2 ^ a) (bn (s ||| 2 ^ a) (a + 1))
    rw [ac_kr]
    omega
theorem ac_rk_len (fi : Nat → Int32) (ai : Nat → Nat → Int32) (al : Nat → Nat → Int64) (na nr : Nat) : (ac_rk fi ai al na nr).2.1 ≤ 10 := by
  have := ac_kr_len (ac_bn (ai 5) (ai 14) (ai 9) (al 15) (al 16) (al 17) (al 18) (fi 1) na nr) 10 (ai 19) 0 0 (ac_bn (ai 5) (ai 14) (ai 9) (al 15) (al 16) (al 17) (al 18) (fi 1) na nr 0 0)
  rw [ac_rk]
  omega
set_option maxRecDepth 100000 in
theorem ck_run {na nr : Nat} {fi : Nat → Int32} {fl : Nat → Int64} {ai : Nat → Nat → Int32} {al : Nat → Nat → Int64} (z : Int64) (h : ac_K na nr fi ai) : ∃ na2 nr2, ac_K na2 nr2 (upd (upd (upd (upd (upd fi 3 (if ac_count (ai 9) na (2 ^ na - 1) ≤ z then 1 else (fi 3))) 4 (if ac_count (ai 9) na (2 ^ na - 1) ≤ z then 1 else (fi 4))) 5 (if ac_count (ai 9) na (2 ^ na - 1) ≤ z then (nI (ac_rk fi ai (va_up (va_up (va_up al 16 (ac_vals (al 12) (al 13) (al 16) 12)) 17 (ac_rs ai (va_up al 16 (ac_vals (al 12) (al 13) (al 16) 12)) na)) 18 (ac_rd fi ai (va_up al 16 (ac_vals (al 12) (al 13) (al 16) 12)) na nr)) na nr).2.1) else (fi 5))) 6 (if ac_count (ai 9) na (2 ^ na - 1) ≤ z then (nI (ac_rk fi ai (va_up (va_up (va_up al 16 (ac_vals (al 12) (al 13) (al 16) 12)) 17 (ac_rs ai (va_up al 16 (ac_vals (al 12) (al 13) (al 16) 12)) na)) 18 (ac_rd fi ai (va_up al 16 (ac_vals (al 12) (al 13) (al 16) 12)) na nr)) na nr).2.2) else (fi 6))) 7 (if ac_count (ai 9) na (2 ^ na - 1) ≤ z then (ac_freed (ai 5) (nI (ac_rk fi ai (va_up (va_up (va_up al 16 (ac_vals (al 12) (al 13) (al 16) 12)) 17 (ac_rs ai (va_up al 16 (ac_vals (al 12) (al 13) (al 16) 12)) na)) 18 (ac_rd fi ai (va_up al 16 (ac_vals (al 12) (al 13) (al 16) 12)) na nr)) na nr).2.2) na) else (fi 7))) (va_up ai 19 (if ac_count (ai 9) na (2 ^ na - 1) ≤ z then ((ac_rk fi ai (va_up (va_up (va_up al 16 (ac_vals (al 12) (al 13) (al 16) 12)) 17 (ac_rs ai (va_up al 16 (ac_vals (al 12) (al 13) (al 16) 12)) na)) 18 (ac_rd fi ai (va_up al 16 (ac_vals (al 12) (al 13) (al 16) 12)) na nr)) na nr).1) else (ai 19))) := by
  by_cases hok : ac_count (ai 9) na (2 ^ na - 1) ≤ z
  · simp only [if_pos hok]
    exact ⟨na, nr, h.1, h.2.1, h.2.2.1, h.2.2.2.1, ⟨_, ac_rk_len _ _ _ _ _, rfl⟩, h.2.2.2.2.2⟩
  · simp only [if_neg hok]
    exact ⟨na, nr, h⟩
