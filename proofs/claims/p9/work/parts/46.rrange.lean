-- ===== the ranges that the reference's run needs =====
theorem i64_mul {a b : Int64} (h1 : -9000000000000000000 ≤ a.toInt * b.toInt) (h2 : a.toInt * b.toInt ≤ 9000000000000000000) : (a * b).toInt = a.toInt * b.toInt := by
  rw [Int64.toInt_mul]
  exact Int.bmod_eq_of_le (by omega) (by omega)
theorem i64_unit {b : Int64} (h : -4000000 ≤ b.toInt ∧ b.toInt ≤ 4000000) : (27720 * b).toInt = 27720 * b.toInt := by
  have e : (27720 : Int64).toInt = 27720 := by decide +kernel
  rw [i64_mul (by rw [e]; omega) (by rw [e]; omega), e]
theorem i64_div {a b : Int64} (h : -1000000000000 ≤ a.toInt ∧ a.toInt ≤ 1000000000000) : ∃ q : Int, (a / b).toInt = q ∧ q.natAbs ≤ a.toInt.natAbs := by
  refine ⟨a.toInt.tdiv b.toInt, ?_, ?_⟩
  · rw [Int64.toInt_div]
    have : (a.toInt.tdiv b.toInt).natAbs ≤ a.toInt.natAbs := by rw [Int.natAbs_tdiv]; exact Nat.div_le_self _ _
    exact Int.bmod_eq_of_le (by omega) (by omega)
  · rw [Int.natAbs_tdiv]; exact Nat.div_le_self _ _
abbrev rc_cents (z : Int64) : Prop := 0 ≤ z.toInt ∧ z.toInt ≤ 1000000
abbrev rc_wor (z : Int64) : Prop := -1000000 ≤ z.toInt ∧ z.toInt ≤ 1000000
theorem rc_sp_ok {to si : Nat → Int32} {co ch tu : Nat → Int64} {n : Nat} (h1 : ∀ a, rc_cents (co a)) (h2 : ∀ k, rc_cents (ch k)) (h3 : ∀ k, rc_cents (tu k)) : rc_spOk (rc_step to si co ch tu) n := by
  intro j a _ _
  have e0 : (0 : Int64).toInt = 0 := by decide +kernel
  have c0 : rc_cents 0 := by rw [rc_cents, e0]; omega
  cases j with
  | zero =>
    rw [rc_step]
    have := h1 a
    rw [i64_unit (by omega)]
    omega
  | succ j =>
    rw [rc_step]
    have g1 := h1 a
    have g2 : rc_cents (if to j = to a then 0 else ch (6 * to j + to a).toNatClampNeg) := by split; exact c0; exact h2 _
    have g3 : rc_cents (if si j = si a then 0 else tu (6 * si j + si a).toNatClampNeg) := by split; exact c0; exact h3 _
    generalize (if to j = to a then 0 else ch (6 * to j + to a).toNatClampNeg) = u at g2 ⊢
    generalize (if si j = si a then 0 else tu (6 * si j + si a).toNatClampNeg) = w at g3 ⊢
    have e1 : (co a + u).toInt = (co a).toInt + u.toInt := i64_add (by omega) (by omega)
    have e2 : (co a + u + w).toInt = (co a).toInt + u.toInt + w.toInt := by rw [i64_add (by omega) (by omega), e1]
    rw [i64_unit (by omega)]
    omega
theorem rc_brings_ok {fr br ab be : Nat → Int32} {wo : Nat → Int64} {tst tas : Int32} {n : Nat} {set : Int32} {p : Nat} (hw : rc_wor (wo p)) (ha : 0 ≤ (ab p).toInt ∧ (ab p).toInt ≤ 12) :
    -400000000000 ≤ (rc_brings fr br ab be wo tst tas n set p).toInt ∧ (rc_brings fr br ab be wo tst tas n set p).toInt ≤ 400000000000 := by
  have e0 : (0 : Int64).toInt = 0 := by decide +kernel
  have eu := i64_unit (b := wo p) (by omega)
  unfold rc_brings
  split
  · rw [e0]; omega
  · split
    · rw [e0]; omega
    · split
      · split
        · rw [eu]; omega
        · rw [e0]; omega
      · obtain ⟨q, hq, hl⟩ := i64_div (a := 27720 * wo p) (b := (be p).toInt64) (by omega)
        rw [eu] at hl
        have ea : (ab p).toInt64.toInt = (ab p).toInt := Int32.toInt_toInt64 _
        have hq1 : -27720000000 ≤ q ∧ q ≤ 27720000000 := by omega
        have hb : -400000000000 ≤ q * (ab p).toInt ∧ q * (ab p).toInt ≤ 400000000000 := by
          obtain ⟨a0, a1⟩ := ha
          generalize (ab p).toInt = y at a0 a1
          have : y = 0 ∨ y = 1 ∨ y = 2 ∨ y = 3 ∨ y = 4 ∨ y = 5 ∨ y = 6 ∨ y = 7 ∨ y = 8 ∨ y = 9 ∨ y = 10 ∨ y = 11 ∨ y = 12 := by omega
          rcases this with rfl | rfl | rfl | rfl | rfl | rfl | rfl | rfl | rfl | rfl | rfl | rfl | rfl <;> omega
        rw [i64_mul (by rw [hq, ea]; omega) (by rw [hq, ea]; omega), hq, ea]
        exact hb
theorem rc_vs_ok {brg : Nat → Int64} (h : ∀ p, p < 12 → -400000000000 ≤ (brg p).toInt ∧ (brg p).toInt ≤ 400000000000) : ∀ p : Nat, p ≤ 12 → -400000000000 * (p : Int) ≤ (rc_vs brg p).toInt ∧ (rc_vs brg p).toInt ≤ 400000000000 * (p : Int)
  | 0, _ => by
    have e0 : (0 : Int64).toInt = 0 := by decide +kernel
    rw [rc_vs, e0]; omega
  | p + 1, hp => by
    have i := rc_vs_ok h p (by omega)
    have g := h p (by omega)
    rw [rc_vs, i64_add (by omega) (by omega)]
    omega
theorem rc_vr_ok {rp : Nat → Int32} {rwo : Nat → Int64} {rest : Int32} {v0 : Int64} (h0 : -4800000000000 ≤ v0.toInt ∧ v0.toInt ≤ 4800000000000) {nr : Nat} (h : ∀ k, k < nr → rc_wor (rwo k)) (hn : nr ≤ 16) : ∀ k : Nat, k ≤ nr → -4800000000000 - 27720000000 * (k : Int) ≤ (rc_vr rp rwo rest v0 k).toInt ∧ (rc_vr rp rwo rest v0 k).toInt ≤ 4800000000000 + 27720000000 * (k : Int)
  | 0, _ => by rw [rc_vr]; omega
  | k + 1, hk => by
    have e0 : (0 : Int64).toInt = 0 := by decide +kernel
    have i := rc_vr_ok (rp := rp) (rest := rest) h0 h hn k (by omega)
    have g := h k (by omega)
    have eu := i64_unit (b := rwo k) (by omega)
    have gu : -27720000000 ≤ (if rp k = rest then 27720 * rwo k else 0).toInt ∧ (if rp k = rest then 27720 * rwo k else 0).toInt ≤ 27720000000 := by
      split
      · rw [eu]; omega
      · rw [e0]; omega
    rw [rc_vr, i64_add (by omega) (by omega)]
    omega
theorem rc_vals_at (val : Int32 → Int64) (f : Nat → Int64) : ∀ n s, s < n → rc_vals val f n s = val (nI s)
  | 0, s, h => by omega
  | n + 1, s, h => by
    rw [rc_vals]
    by_cases e : s = n
    · subst e; exact am_updL_s
    · rw [am_updL_n e]; exact rc_vals_at val f n s (by omega)
theorem rc_va_ok {fr br ab be rp : Nat → Int32} {wo rwo : Nat → Int64} {tst tas : Int32} {n nr : Nat} {f : Nat → Int64} (hw : ∀ p, p < 12 → rc_wor (wo p)) (ha : ∀ p, p < 12 → 0 ≤ (ab p).toInt ∧ (ab p).toInt ≤ 12) (hr : ∀ k, k < nr → rc_wor (rwo k)) (hn : nr ≤ 16) :
    rc_vaOk (rc_vals (rc_val fr br ab be rp wo rwo tst tas n nr) f (2 ^ n)) n := by
  intro s hs
  rw [rc_vals_at _ _ _ _ hs, rc_val]
  have h1 := rc_vs_ok (brg := rc_brings fr br ab be wo tst tas n (nI s)) (fun p hp => rc_brings_ok (hw p hp) (ha p hp)) 12 (Nat.le_refl _)
  have h2 := rc_vr_ok (rp := rp) (rest := rc_rest fr (nI s) n) (v0 := rc_vs (rc_brings fr br ab be wo tst tas n (nI s)) 12) (by omega) hr hn nr (Nat.le_refl _)
  omega
