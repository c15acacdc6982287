-- ===== the row of run has at most ten acts =====
theorem rc_ra_ok {nd : Nat → Int32} {stp : Nat → Nat → Int64} {va : Nat → Int64} {n s j : Nat} {z v : Int64} : ∀ m a L, a + m = n → (∃ b, a ≤ b ∧ b < n ∧ ¬ rc_can nd (nI s) b = 0 ∧ ∀ f, (rc_best nd stp va n (s ||| 2 ^ b) (b + 1) (z + stp j b) f).1 = v) →
    (rc_ra nd stp va n s j z v m a L).1 < n ∧ rc_cd nd s (rc_ra nd stp va n s j z v m a L).1 ∧ ∃ f, (rc_best nd stp va n (s ||| 2 ^ (rc_ra nd stp va n s j z v m a L).1) ((rc_ra nd stp va n s j z v m a L).1 + 1) (z + stp j (rc_ra nd stp va n s j z v m a L).1) f).1 = v
  | 0, a, L, h, ⟨b, q1, q2, _⟩ => by omega
  | m + 1, a, L, h, ⟨b, q1, q2, q3, q4⟩ => by
    rw [rc_ra]
    by_cases c1 : rc_can nd (nI s) a = 0
    · rw [if_pos c1]
      exact rc_ra_ok m (a + 1) L (by omega) ⟨b, Nat.lt_of_le_of_ne q1 (fun y => by subst y; exact q3 c1), q2, q3, q4⟩
    · rw [if_neg c1]
      by_cases c2 : (rc_best nd stp va n (s ||| 2 ^ a) (a + 1) (z + stp j a) L).1 = v
      · rw [if_pos c2]
        exact ⟨by show a < n; omega, c1, L, c2⟩
      · rw [if_neg c2]
        exact rc_ra_ok m (a + 1) _ (by omega) ⟨b, Nat.lt_of_le_of_ne q1 (fun y => by subst y; exact c2 (q4 L)), q2, q3, q4⟩
theorem rc_rn_len {nd : Nat → Int32} {stp : Nat → Nat → Int64} {va : Nat → Int64} {n : Nat} {v : Int64} (hn : n ≤ 10) (hsp : rc_spOk stp n) (hva : rc_vaOk va n) :
    ∀ (fu s j : Nat) (z : Int64) (len : Nat) (row : Nat → Int32) (L : Nat → Int64), s < 2 ^ n → j ≤ n → 0 ≤ z.toInt → z.toInt ≤ 83160000000 * (s : Int) → len = rc_pc s → (∀ f, (rc_best nd stp va n s j z f).1 = v) → (rc_rn nd stp va n v fu s j z len row L).2.1 ≤ 10 ∧ (rc_rn nd stp va n v fu s j z len row L).1 < 2 ^ n
  | 0, s, j, z, len, row, L, hs, _, _, _, hl, _ => ⟨by show len ≤ 10; rw [hl]; exact rc_pc_le s, hs⟩
  | fu + 1, s, j, z, len, row, L, hs, hj, hz0, hz1, hl, hB => by
    have hp := am_p2 hn
    rw [rc_rn]
    by_cases c : va s - z = v
    · rw [if_pos c]
      exact ⟨by show len ≤ 10; rw [hl]; exact rc_pc_le s, hs⟩
    · rw [if_neg c]
      obtain ⟨b, q2, q3, q4⟩ := rc_run_step (nd := nd) hn hsp hva hs hj hz0 hz1 hB c
      obtain ⟨r1, r2, f0, r3⟩ := rc_ra_ok (nd := nd) (stp := stp) (va := va) (n := n) (s := s) (j := j) (z := z) (v := v) n 0 L (by omega) ⟨b, Nat.zero_le _, q2, q3, q4⟩
      generalize rc_ra nd stp va n s j z v n 0 L = q at r1 r2 r3 ⊢
      have hsj := hsp j q.1 hj r1
      have hgt := rc_cd_gt (show s < 1024 by omega) (show q.1 < 10 by omega) r2
      have hadd : (z + stp j q.1).toInt = z.toInt + (stp j q.1).toInt := i64_add (by omega) (by omega)
      have hs3 := rc_or_lt hs r1
      have hz2 : 0 ≤ (z + stp j q.1).toInt := by omega
      have hz3 : (z + stp j q.1).toInt ≤ 83160000000 * ((s ||| 2 ^ q.1 : Nat) : Int) := by omega
      have hpc := rc_pc_add (show s < 1024 by omega) (show q.1 < 10 by omega) r2
      exact rc_rn_len hn hsp hva fu _ _ _ _ _ _ hs3 (by omega) hz2 hz3 (by rw [hpc, hl]) (fun f => (rc_best_f hn hsp hva hs3 (by omega) hz2 hz3 f f0).trans r3)
theorem rc_runQ_ok {na nr : Nat} {fi : Nat → Int32} {ai : Nat → Nat → Int32} {al : Nat → Nat → Int64} (h : rc_K na nr fi ai al) (t7 t8 : Int32) (F : Nat) : (rc_runQ ai al t7 t8 na nr F).2.1 ≤ 10 ∧ (rc_runQ ai al t7 t8 na nr F).1 < 2 ^ na := by
  have hn := h.1.2.1
  have hp := am_p2 hn
  have hsp := rc_K_sp h
  have hva : rc_vaOk (rc_bwV ai al t7 t8 na nr) na := rc_K_va h t7 t8
  have d0 : 0 ≤ (0 : Int64).toInt := by decide +kernel
  have d1 : (0 : Int64).toInt ≤ 83160000000 * ((0 : Nat) : Int) := by decide +kernel
  rw [rc_runQ]
  exact rc_rn_len hn hsp hva F 0 0 0 0 _ _ (by omega) (by omega) d0 d1 (by decide +kernel) (fun f => by rw [rc_bwQ]; exact rc_best_f hn hsp hva (by omega) (by omega) d0 d1 f (al 18))
set_option maxRecDepth 100000 in
theorem rk_run {na nr : Nat} {fi : Nat → Int32} {ai : Nat → Nat → Int32} {al : Nat → Nat → Int64} (v : Int64) (F9 : Nat) (h : rc_K na nr fi ai al) : ∃ na2 nr2, rc_K na2 nr2 (upd (upd (upd (upd fi 2 (if rc_runOk (rc_st (ai 6) na (2 ^ na - 1)) v then nI (rc_runQ ai al (fi 7) (fi 8) na nr F9).2.1 else (fi 2))) 3 (if rc_runOk (rc_st (ai 6) na (2 ^ na - 1)) v then 1 else (fi 3))) 4 (if rc_runOk (rc_st (ai 6) na (2 ^ na - 1)) v then rc_rest (ai 1) (nI (rc_runQ ai al (fi 7) (fi 8) na nr F9).1) na else (fi 4))) 5 (if rc_runOk (rc_st (ai 6) na (2 ^ na - 1)) v then (fi 0) else (fi 5))) (va_up (va_up ai 14 (if rc_runOk (rc_st (ai 6) na (2 ^ na - 1)) v then (rc_runQ ai al (fi 7) (fi 8) na nr F9).2.2.1 else (ai 14))) 17 (if rc_runOk (rc_st (ai 6) na (2 ^ na - 1)) v then rc_bwN ai na else (ai 17))) (va_up (va_up (va_up al 15 (if rc_runOk (rc_st (ai 6) na (2 ^ na - 1)) v then rc_bro (rc_brings (ai 1) (ai 5) (ai 10) (ai 11) (al 9) (fi 7) (fi 8) na (nI (rc_runQ ai al (fi 7) (fi 8) na nr F9).1)) (al 15) 12 else (al 15))) 18 (if rc_runOk (rc_st (ai 6) na (2 ^ na - 1)) v then (rc_runQ ai al (fi 7) (fi 8) na nr F9).2.2.2 else (al 18))) 19 (if rc_runOk (rc_st (ai 6) na (2 ^ na - 1)) v then rc_bwV ai al (fi 7) (fi 8) na nr else (al 19))) := by
  by_cases hok : rc_runOk (rc_st (ai 6) na (2 ^ na - 1)) v
  · simp only [if_pos hok]
    have hq := rc_runQ_ok h (fi 7) (fi 8) F9
    exact ⟨na, nr, ⟨h.1.1, h.1.2.1, h.1.2.2.1, h.1.2.2.2.1, ⟨_, hq.1, Or.inl rfl⟩, Or.inr rfl, ⟨na, h.1.2.1, h.1.1⟩⟩, h.2.1, h.2.2⟩
  · simp only [if_neg hok]
    exact ⟨na, nr, h.1, h.2.1, h.2.2⟩
