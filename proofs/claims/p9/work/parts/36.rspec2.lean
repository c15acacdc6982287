abbrev rc_actOk (n x t d : Int32) (z : Int64) : Prop := ¬ n = 10 ∧ ¬ x < -1 ∧ ¬ 12 ≤ x ∧ ¬ ac_isKind t = 0 ∧ ¬ ac_isKind d = 0 ∧ ¬ ac_isPrice z = 0
abbrev rc_befOk (n : Int32) (nds : Nat → Int32) (na : Nat) (x y : Int32) : Prop := ¬ ac_hasAct n x = 0 ∧ ¬ ac_hasAct n y = 0 ∧ ¬ x = y ∧ rc_leads nds na x.toNatClampNeg y = 0
abbrev rc_movOk (x y : Int32) (z : Int64) : Prop := ¬ ac_isKind x = 0 ∧ ¬ ac_isKind y = 0 ∧ ¬ x = y ∧ ¬ ac_isPrice z = 0
abbrev rc_rstOk (v z : Int64) (p : Nat) : Prop := ¬ v < 0 ∧ ¬ 4095 < v ∧ ¬ ac_isWorth z = 0 ∧ ¬ p = 16
abbrev rc_brkOk (n : Int32) (br : Nat → Int32) (x : Int32) : Prop := ¬ ac_hasAct n x = 0 ∧ br x.toNatClampNeg = 0
def rc_pl (rp : Nat → Int32) (v : Int64) : Nat → Nat → Nat
  | 0, k => k
  | n + 1, k => if (rp k).toInt64 = v then k else rc_pl rp v n (k + 1)
theorem rc_pl_le (rp : Nat → Int32) (v : Int64) : ∀ n k, k ≤ rc_pl rp v n k ∧ rc_pl rp v n k ≤ k + n
  | 0, k => ⟨Nat.le_refl _, Nat.le_refl _⟩
  | n + 1, k => by
    rw [rc_pl]
    split
    · exact ⟨Nat.le_refl _, by omega⟩
    · obtain ⟨h1, h2⟩ := rc_pl_le rp v n (k + 1)
      exact ⟨by omega, by omega⟩
def rc_kb (tr bh : Nat → Int32) (a : Nat) (c0 : Int32) : Nat → Int32
  | 0 => c0
  | b + 1 => if rc_kb tr bh a c0 b = 0 then 0 else if tr a < 0 then 1 else if tr b < 0 then 1 else if bh (10 * a + b) = 0 then 1 else if tr a < tr b then 0 else 1
def rc_ka (tr bh : Nat → Int32) (n : Nat) : Nat → Int32
  | 0 => 1
  | a + 1 => rc_kb tr bh a (rc_ka tr bh n a) n
theorem rc_kb_z (tr bh : Nat → Int32) (a : Nat) (c0 : Int32) (h : c0 = 0 ∨ c0 = 1) : ∀ b, rc_kb tr bh a c0 b = 0 ∨ rc_kb tr bh a c0 b = 1
  | 0 => h
  | b + 1 => by
    rw [rc_kb]
    split
    · exact Or.inl rfl
    · split
      · exact Or.inr rfl
      · split
        · exact Or.inr rfl
        · split
          · exact Or.inr rfl
          · split
            · exact Or.inl rfl
            · exact Or.inr rfl
theorem rc_ka_z (tr bh : Nat → Int32) (n : Nat) : ∀ a, rc_ka tr bh n a = 0 ∨ rc_ka tr bh n a = 1
  | 0 => Or.inr rfl
  | a + 1 => rc_kb_z tr bh a _ (rc_ka_z tr bh n a) n
def rc_ls (tr : Nat → Int32) (co : Nat → Int64) (q : Nat) : Nat → Int64
  | 0 => 0
  | a + 1 => rc_ls tr co q a + (if tr a = nI q then co a else 0)
def rc_lo (tr : Nat → Int32) (co : Nat → Int64) (n : Nat) : Nat → Int64
  | 0 => 0
  | q + 1 => if rc_ls tr co q n ≤ rc_lo tr co n q then rc_lo tr co n q else rc_ls tr co q n
theorem ac_la_dec : ∀ a : Nat, nI a + (-1) = ac_la a
  | 0 => by decide +kernel
  | a + 1 => pk_m1 a
theorem ac_la_sub {x : Int32} {n : Nat} (h : x = nI n) : x - 1 = ac_la n := by
  subst h
  cases n with
  | zero => decide +kernel
  | succ n => exact nI_pred n
/-- next: the acts below j are left -/
def rc_next (st : Int32) : Nat → (Nat → Int32) → (Nat → Int32) × Int32
  | 0, f => (f, 0)
  | a + 1, f => if f a < 0 then rc_next st a (upd f a (-1)) else if st - 1 ≤ f a then rc_next st a (upd f a 0) else (upd f a (f a + 1), 1)
