-- ===== the law: calls beside a world that they do not touch =====
section LWK
variable {p : Program} {l : Launch} {e : Env} {R : Room} {s : State} {m : MethodId} {args : Array Value} {below : List Frame} {meth : Method} {c : Code} {H : Heap} {locs : List Loc} {cells slots : Nat} {Q : State → Prop}
variable {pc : Nat} {ls : Array Slot} {rest st0 : List Value} {D : va_G} {cl : List vw_C} {A0 A1 : Nat → Prop} {w' wo : va_W} {H0 : Heap} {a : Array Value}
theorem lw_kept {H1 : Heap} (hPo : va_P D cl wo H) (hdis : ∀ (k : Nat) (q : Nat × va_E), wo[k]? = some q → ¬ A1 q.1) (hk : ∀ q : Nat, q < H.size → ¬ A1 q → H1[q]? = H[q]?) : va_P D cl wo H1 :=
  fun k q hq => (hPo k q hq).kept (hk q.1 (hPo k q hq).lt (hdis k q hq))
theorem lw_callMi {v : Int32} (hr : va_Run p l e R s m args below meth c H locs cells slots 0 0 (F0 m pc ls st0) rest (am_Mi cl D v w' A1 a) A1) (hS : va_S A0 H0 H locs) (hA : ∀ q, A1 q → A0 q) (hPo : va_P D cl wo H) (hdis : ∀ (k : Nat) (q : Nat × va_E), wo[k]? = some q → ¬ A1 q.1)
    (kk : ∀ (H1 : Heap) (locs1 : List Loc), va_P D cl w' H1 → va_P D cl wo H1 → va_S A0 H0 H1 locs1 → W p l e R s m args below meth c H1 locs1 cells slots Q (F0 m (pc + 3) ls (.int v :: rest))) : W p l e R s m args below meth c H locs cells slots Q (F0 m pc ls st0) :=
  va_calli hr hS (fun q _ h => hA q h) hA (fun r _ t H1 locs1 ht _ (hp : r = v) hB _ hk hS1 => by subst hp; exact kk H1 locs1 (by rw [← ht]; exact hB) (lw_kept hPo hdis hk) hS1)
theorem lw_callMl {v : Int64} (hr : va_Run p l e R s m args below meth c H locs cells slots 0 0 (F0 m pc ls st0) rest (am_Ml cl D v w' A1 a) A1) (hS : va_S A0 H0 H locs) (hA : ∀ q, A1 q → A0 q) (hPo : va_P D cl wo H) (hdis : ∀ (k : Nat) (q : Nat × va_E), wo[k]? = some q → ¬ A1 q.1)
    (kk : ∀ (H1 : Heap) (locs1 : List Loc), va_P D cl w' H1 → va_P D cl wo H1 → va_S A0 H0 H1 locs1 → W p l e R s m args below meth c H1 locs1 cells slots Q (F0 m (pc + 3) ls (.long v :: rest))) : W p l e R s m args below meth c H locs cells slots Q (F0 m pc ls st0) :=
  va_calll hr hS (fun q _ h => hA q h) hA (fun r _ t H1 locs1 ht _ (hp : r = v) hB _ hk hS1 => by subst hp; exact kk H1 locs1 (by rw [← ht]; exact hB) (lw_kept hPo hdis hk) hS1)
end LWK
-- ===== what holds of the reference between two calls =====
abbrev rc_kind (x : Int32) : Prop := ∃ t, t < 6 ∧ x = nI t
def rc_K (na nr : Nat) (fi : Nat → Int32) (ai : Nat → Nat → Int32) (al : Nat → Nat → Int64) : Prop :=
  (fi 0 = nI na ∧ na ≤ 10 ∧ fi 1 = nI nr ∧ nr ≤ 16 ∧ (∃ ln, ln ≤ 10 ∧ (fi 2 = nI ln ∨ fi 2 = -1)) ∧ (fi 3 = 0 ∨ fi 3 = 1) ∧ ∃ nt, nt ≤ 10 ∧ fi 5 = nI nt) ∧
  ((∀ a, a < na → rc_kind (ai 2 a)) ∧ (∀ a, a < na → rc_kind (ai 3 a)) ∧ (∀ p, 0 ≤ (ai 10 p).toInt ∧ (ai 10 p).toInt ≤ 12) ∧ ∀ p, p < 12 → 1 ≤ (ai 11 p).toInt ∧ (ai 11 p).toInt ≤ 12) ∧
  ((∀ k, rc_cents (al 4 k)) ∧ (∀ k, rc_cents (al 7 k)) ∧ (∀ k, rc_cents (al 8 k)) ∧ (∀ k, rc_wor (al 9 k)) ∧ ∀ k, rc_wor (al 13 k))
theorem rc_K_be {na nr : Nat} {fi : Nat → Int32} {ai : Nat → Nat → Int32} {al : Nat → Nat → Int64} (h : rc_K na nr fi ai al) : ∀ p, p < 12 → ¬ ((ai 11) p).toInt64 = 0 := by
  intro p hp z
  have h1 := h.2.1.2.2.2 p hp
  have h2 : (ai 11 p).toInt64.toInt = 0 := by rw [z]; decide +kernel
  rw [Int32.toInt_toInt64] at h2
  omega
theorem rc_K_sp {na nr : Nat} {fi : Nat → Int32} {ai : Nat → Nat → Int32} {al : Nat → Nat → Int64} (h : rc_K na nr fi ai al) : rc_spOk (rc_step (ai 2) (ai 3) (al 4) (al 7) (al 8)) na := rc_sp_ok h.2.2.1 h.2.2.2.1 h.2.2.2.2.1
theorem rc_K_va {na nr : Nat} {fi : Nat → Int32} {ai : Nat → Nat → Int32} {al : Nat → Nat → Int64} (h : rc_K na nr fi ai al) (tst tas : Int32) : rc_vaOk (rc_vals (rc_val (ai 1) (ai 5) (ai 10) (ai 11) (ai 12) (al 9) (al 13) tst tas na nr) (al 19) (2 ^ na)) na :=
  rc_va_ok (fun p _ => h.2.2.2.2.2.1 p) (fun p _ => h.2.1.2.2.1 p) (fun k _ => h.2.2.2.2.2.2 k) h.1.2.2.2.1
theorem rc_cents_of {z : Int64} (h : ¬ ac_isPrice z = 0) : rc_cents z := by
  unfold ac_isPrice at h
  have e0 : (0 : Int64).toInt = 0 := by decide +kernel
  have e1 : (1000000 : Int64).toInt = 1000000 := by decide +kernel
  simp only [Int64.lt_iff_toInt_lt, Int64.le_iff_toInt_le, e0, e1] at h
  constructor <;> (by_cases c : 0 ≤ z.toInt <;> by_cases d : z.toInt ≤ 1000000 <;> simp_all <;> omega)
theorem rc_wor_of {z : Int64} (h : ¬ ac_isWorth z = 0) : rc_wor z := by
  unfold ac_isWorth at h
  have e0 : (-1000000 : Int64).toInt = -1000000 := by decide +kernel
  have e1 : (1000000 : Int64).toInt = 1000000 := by decide +kernel
  simp only [Int64.lt_iff_toInt_lt, Int64.le_iff_toInt_le, e0, e1] at h
  constructor <;> (by_cases c : -1000000 ≤ z.toInt <;> by_cases d : z.toInt ≤ 1000000 <;> simp_all <;> omega)
theorem rc_updL {P : Int64 → Prop} {f : Nat → Int64} {k : Nat} {v : Int64} (h : ∀ i, P (f i)) (hv : P v) : ∀ i, P (vp_updL f k v i) := by
  intro i
  by_cases e : i = k
  · rw [e, am_updL_s]; exact hv
  · rw [am_updL_n e]; exact h i
theorem rc_updK {f : Nat → Int32} {n : Nat} {v : Int32} (h : ∀ a, a < n → rc_kind (f a)) (hv : rc_kind v) : ∀ a, a < n + 1 → rc_kind (upd f n v a) := by
  intro a ha
  by_cases e : a = n
  · rw [show upd f n v a = v from if_pos e]; exact hv
  · rw [show upd f n v a = f a from if_neg e]; exact h a (by omega)
theorem rc_updI {P : Int32 → Prop} {f : Nat → Int32} {k : Nat} {v : Int32} (h : ∀ a, P (f a)) (hv : P v) : ∀ a, P (upd f k v a) := by
  intro a
  by_cases e : a = k
  · rw [show upd f k v a = v from if_pos e]; exact hv
  · rw [show upd f k v a = f a from if_neg e]; exact h a
theorem rc_updI2 {P : Int32 → Prop} {f : Nat → Int32} {n k : Nat} {v : Int32} (h : ∀ a, a < n → P (f a)) (hv : P v) : ∀ a, a < n → P (upd f k v a) := by
  intro a ha
  by_cases e : a = k
  · rw [show upd f k v a = v from if_pos e]; exact hv
  · rw [show upd f k v a = f a from if_neg e]; exact h a ha
theorem rc_sur {x : Int32} {u v : Int64} (hok : ac_surOk x u v) : (0 ≤ u.toInt32.toInt ∧ u.toInt32.toInt ≤ 12) ∧ (1 ≤ v.toInt32.toInt ∧ v.toInt32.toInt ≤ 12) := by
  obtain ⟨-, h1, h2, h3, h4⟩ := hok
  have e0 : (0 : Int64).toInt = 0 := by decide +kernel
  have e1 : (1 : Int64).toInt = 1 := by decide +kernel
  have e2 : (12 : Int64).toInt = 12 := by decide +kernel
  simp only [Int64.lt_iff_toInt_lt, Int64.le_iff_toInt_le, e0, e1, e2] at h1 h2 h3 h4
  have k1 : u.toInt32.toInt = u.toInt := by rw [Int64.toInt_toInt32]; exact Int.bmod_eq_of_le (by omega) (by omega)
  have k2 : v.toInt32.toInt = v.toInt := by rw [Int64.toInt_toInt32]; exact Int.bmod_eq_of_le (by omega) (by omega)
  rw [k1, k2]
  omega
set_option maxRecDepth 100000 in
theorem rk_change {na nr : Nat} {fi : Nat → Int32} {ai : Nat → Nat → Int32} {al : Nat → Nat → Int64} (x : Int32) (y : Int32) (z : Int64) (h : rc_K na nr fi ai al) : ∃ na2 nr2, rc_K na2 nr2 (upd fi 3 (if rc_movOk x y z then 0 else (fi 3))) ai (va_up al 7 (if rc_movOk x y z then vp_updL (al 7) ((6 * x + y).toNatClampNeg) z else (al 7))) := by
  by_cases hok : rc_movOk x y z
  · simp only [if_pos hok]
    exact ⟨na, nr, ⟨h.1.1, h.1.2.1, h.1.2.2.1, h.1.2.2.2.1, h.1.2.2.2.2.1, Or.inl rfl, h.1.2.2.2.2.2.2⟩, h.2.1, h.2.2.1, rc_updL h.2.2.2.1 (rc_cents_of hok.2.2.2), h.2.2.2.2⟩
  · simp only [if_neg hok]
    exact ⟨na, nr, h.1, h.2.1, h.2.2⟩
set_option maxRecDepth 100000 in
theorem rk_turn {na nr : Nat} {fi : Nat → Int32} {ai : Nat → Nat → Int32} {al : Nat → Nat → Int64} (x : Int32) (y : Int32) (z : Int64) (h : rc_K na nr fi ai al) : ∃ na2 nr2, rc_K na2 nr2 (upd fi 3 (if rc_movOk x y z then 0 else (fi 3))) ai (va_up al 8 (if rc_movOk x y z then vp_updL (al 8) ((6 * x + y).toNatClampNeg) z else (al 8))) := by
  by_cases hok : rc_movOk x y z
  · simp only [if_pos hok]
    exact ⟨na, nr, ⟨h.1.1, h.1.2.1, h.1.2.2.1, h.1.2.2.2.1, h.1.2.2.2.2.1, Or.inl rfl, h.1.2.2.2.2.2.2⟩, h.2.1, h.2.2.1, h.2.2.2.1, rc_updL h.2.2.2.2.1 (rc_cents_of hok.2.2.2), h.2.2.2.2.2⟩
  · simp only [if_neg hok]
    exact ⟨na, nr, h.1, h.2.1, h.2.2⟩
set_option maxRecDepth 100000 in
theorem rk_worth {na nr : Nat} {fi : Nat → Int32} {ai : Nat → Nat → Int32} {al : Nat → Nat → Int64} (x : Int32) (z : Int64) (h : rc_K na nr fi ai al) : ∃ na2 nr2, rc_K na2 nr2 (upd fi 3 (if ac_worOk x z then 0 else (fi 3))) ai (va_up al 9 (if ac_worOk x z then vp_updL (al 9) x.toNatClampNeg z else (al 9))) := by
  by_cases hok : ac_worOk x z
  · simp only [if_pos hok]
    exact ⟨na, nr, ⟨h.1.1, h.1.2.1, h.1.2.2.1, h.1.2.2.2.1, h.1.2.2.2.2.1, Or.inl rfl, h.1.2.2.2.2.2.2⟩, h.2.1, h.2.2.1, h.2.2.2.1, h.2.2.2.2.1, rc_updL h.2.2.2.2.2.1 (rc_wor_of hok.2), h.2.2.2.2.2.2⟩
  · simp only [if_neg hok]
    exact ⟨na, nr, h.1, h.2.1, h.2.2⟩
set_option maxRecDepth 100000 in
theorem rk_breaks {na nr : Nat} {fi : Nat → Int32} {ai : Nat → Nat → Int32} {al : Nat → Nat → Int64} (x : Int32) (h : rc_K na nr fi ai al) : ∃ na2 nr2, rc_K na2 nr2 (upd fi 3 (if rc_brkOk (fi 0) (ai 5) x then 0 else (fi 3))) (va_up ai 5 (if rc_brkOk (fi 0) (ai 5) x then upd (ai 5) x.toNatClampNeg 1 else (ai 5))) al := by
  by_cases hok : rc_brkOk (fi 0) (ai 5) x
  · simp only [if_pos hok]
    exact ⟨na, nr, ⟨h.1.1, h.1.2.1, h.1.2.2.1, h.1.2.2.2.1, h.1.2.2.2.2.1, Or.inl rfl, h.1.2.2.2.2.2.2⟩, h.2.1, h.2.2⟩
  · simp only [if_neg hok]
    exact ⟨na, nr, h.1, h.2.1, h.2.2⟩
set_option maxRecDepth 100000 in
theorem rk_before {na nr : Nat} {fi : Nat → Int32} {ai : Nat → Nat → Int32} {al : Nat → Nat → Int64} (x : Int32) (y : Int32) (h : rc_K na nr fi ai al) : ∃ na2 nr2, rc_K na2 nr2 (upd fi 3 (if rc_befOk (fi 0) (ai 6) na x y then 0 else (fi 3))) (va_up ai 6 (if rc_befOk (fi 0) (ai 6) na x y then upd (ai 6) (10 * y.toNatClampNeg + x.toNatClampNeg) 1 else (ai 6))) al := by
  by_cases hok : rc_befOk (fi 0) (ai 6) na x y
  · simp only [if_pos hok]
    exact ⟨na, nr, ⟨h.1.1, h.1.2.1, h.1.2.2.1, h.1.2.2.2.1, h.1.2.2.2.2.1, Or.inl rfl, h.1.2.2.2.2.2.2⟩, h.2.1, h.2.2⟩
  · simp only [if_neg hok]
    exact ⟨na, nr, h.1, h.2.1, h.2.2⟩
set_option maxRecDepth 100000 in
theorem rk_rest {na nr : Nat} {fi : Nat → Int32} {ai : Nat → Nat → Int32} {al : Nat → Nat → Int64} (v : Int64) (z : Int64) (h : rc_K na nr fi ai al) : ∃ na2 nr2, rc_K na2 nr2 (upd (upd fi 1 (if rc_rstOk v z (rc_pl (ai 12) v nr 0) then if rc_pl (ai 12) v nr 0 = nr then (fi 1) + 1 else (fi 1) else (fi 1))) 3 (if rc_rstOk v z (rc_pl (ai 12) v nr 0) then 0 else (fi 3))) (va_up ai 12 (if rc_rstOk v z (rc_pl (ai 12) v nr 0) then upd (ai 12) (rc_pl (ai 12) v nr 0) v.toInt32 else (ai 12))) (va_up al 13 (if rc_rstOk v z (rc_pl (ai 12) v nr 0) then vp_updL (al 13) (rc_pl (ai 12) v nr 0) z else (al 13))) := by
  by_cases hok : rc_rstOk v z (rc_pl (ai 12) v nr 0)
  · simp only [if_pos hok]
    have hp := (rc_pl_le (ai 12) v nr 0).2
    have hp16 := hok.2.2.2
    by_cases hq : rc_pl (ai 12) v nr 0 = nr
    · simp only [if_pos hq]; exact ⟨na, nr + 1, ⟨h.1.1, h.1.2.1, (by show fi 1 + 1 = nI (nr + 1); rw [h.1.2.2.1]; exact nI_1 nr), (by have := h.1.2.2.2.1; omega), h.1.2.2.2.2.1, Or.inl rfl, h.1.2.2.2.2.2.2⟩, h.2.1, h.2.2.1, h.2.2.2.1, h.2.2.2.2.1, h.2.2.2.2.2.1, rc_updL h.2.2.2.2.2.2 (rc_wor_of hok.2.2.1)⟩
    · simp only [if_neg hq]; exact ⟨na, nr, ⟨h.1.1, h.1.2.1, h.1.2.2.1, h.1.2.2.2.1, h.1.2.2.2.2.1, Or.inl rfl, h.1.2.2.2.2.2.2⟩, h.2.1, h.2.2.1, h.2.2.2.1, h.2.2.2.2.1, h.2.2.2.2.2.1, rc_updL h.2.2.2.2.2.2 (rc_wor_of hok.2.2.1)⟩
  · simp only [if_neg hok]
    exact ⟨na, nr, h.1, h.2.1, h.2.2⟩
set_option maxRecDepth 100000 in
theorem rk_act {na nr : Nat} {fi : Nat → Int32} {ai : Nat → Nat → Int32} {al : Nat → Nat → Int64} (x : Int32) (t : Int32) (d : Int32) (z : Int64) (h : rc_K na nr fi ai al) : ∃ na2 nr2, rc_K na2 nr2 (upd (upd fi 0 (if rc_actOk (fi 0) x t d z then (fi 0) + 1 else (fi 0))) 3 (if rc_actOk (fi 0) x t d z then 0 else (fi 3))) (va_up (va_up (va_up ai 1 (if rc_actOk (fi 0) x t d z then upd (ai 1) na x else (ai 1))) 2 (if rc_actOk (fi 0) x t d z then upd (ai 2) na t else (ai 2))) 3 (if rc_actOk (fi 0) x t d z then upd (ai 3) na d else (ai 3))) (va_up al 4 (if rc_actOk (fi 0) x t d z then vp_updL (al 4) na z else (al 4))) := by
  by_cases hok : rc_actOk (fi 0) x t d z
  · simp only [if_pos hok]
    have hlt : na < 10 := by rcases Nat.lt_or_ge na 10 with y | y; exact y; exact absurd (by rw [h.1.1, show na = 10 by have := h.1.2.1; omega]; rfl) hok.1
    exact ⟨na + 1, nr, ⟨(by show fi 0 + 1 = nI (na + 1); rw [h.1.1]; exact nI_1 na), hlt, h.1.2.2.1, h.1.2.2.2.1, h.1.2.2.2.2.1, Or.inl rfl, h.1.2.2.2.2.2.2⟩, ⟨rc_updK h.2.1.1 (am_isKind hok.2.2.2.1), rc_updK h.2.1.2.1 (am_isKind hok.2.2.2.2.1), h.2.1.2.2⟩, rc_updL h.2.2.1 (rc_cents_of hok.2.2.2.2.2), h.2.2.2⟩
  · simp only [if_neg hok]
    exact ⟨na, nr, h.1, h.2.1, h.2.2⟩
set_option maxRecDepth 100000 in
theorem rk_sure {na nr : Nat} {fi : Nat → Int32} {ai : Nat → Nat → Int32} {al : Nat → Nat → Int64} (x : Int32) (u : Int64) (v : Int64) (h : rc_K na nr fi ai al) : ∃ na2 nr2, rc_K na2 nr2 (upd fi 3 (if ac_surOk x u v then 0 else (fi 3))) (va_up (va_up ai 10 (if ac_surOk x u v then upd (ai 10) x.toNatClampNeg u.toInt32 else (ai 10))) 11 (if ac_surOk x u v then upd (ai 11) x.toNatClampNeg v.toInt32 else (ai 11))) al := by
  by_cases hok : ac_surOk x u v
  · simp only [if_pos hok]
    obtain ⟨g1, g2⟩ := rc_sur hok
    exact ⟨na, nr, ⟨h.1.1, h.1.2.1, h.1.2.2.1, h.1.2.2.2.1, h.1.2.2.2.2.1, Or.inl rfl, h.1.2.2.2.2.2.2⟩, ⟨h.2.1.1, h.2.1.2.1, rc_updI (P := fun y => 0 ≤ y.toInt ∧ y.toInt ≤ 12) h.2.1.2.2.1 g1, rc_updI2 (P := fun y => 1 ≤ y.toInt ∧ y.toInt ≤ 12) h.2.1.2.2.2 g2⟩, h.2.2⟩
  · simp only [if_neg hok]
    exact ⟨na, nr, h.1, h.2.1, h.2.2⟩
set_option maxRecDepth 100000 in
theorem rk_test {na nr : Nat} {fi : Nat → Int32} {ai : Nat → Nat → Int32} {al : Nat → Nat → Int64} (x : Int32) (z : Int64) (h : rc_K na nr fi ai al) : ∃ na2 nr2, rc_K na2 nr2 (upd (upd fi 7 (if ac_tstOk x z then (-1) else (fi 7))) 8 (if ac_tstOk x z then 0 else (fi 8))) (va_up ai 17 (if ac_tstOk x z then (rc_bwA (rc_bwA (rc_bwA ai na) na) na) 17 else (ai 17))) (va_up (va_up al 18 (if ac_tstOk x z then (rc_bwL (rc_bwA (rc_bwA ai na) na) (rc_bwL (rc_bwA ai na) (rc_bwL ai al (-1) 0 na nr) x 1 na nr) x 0 na nr) 18 else (al 18))) 19 (if ac_tstOk x z then (rc_bwL (rc_bwA (rc_bwA ai na) na) (rc_bwL (rc_bwA ai na) (rc_bwL ai al (-1) 0 na nr) x 1 na nr) x 0 na nr) 19 else (al 19))) := by
  by_cases hok : ac_tstOk x z
  · simp only [if_pos hok]
    exact ⟨na, nr, h.1, h.2.1, h.2.2⟩
  · simp only [if_neg hok]
    exact ⟨na, nr, h.1, h.2.1, h.2.2⟩
set_option maxRecDepth 100000 in
theorem rk_stations {na nr : Nat} {fi : Nat → Int32} {ai : Nat → Nat → Int32} {al : Nat → Nat → Int64} (x : Int32) (ln : Nat) (F9 : Nat) (h : rc_K na nr fi ai al) : ∃ na2 nr2, rc_K na2 nr2 (upd fi 6 (if rc_stOk (fi 2) x then 1 else (fi 6))) (va_up (va_up (va_up ai 16 (if rc_stOk (fi 2) x then (rc_sR ai (al 4) (fi 2) na (x.toNatClampNeg) F9).2.2 else (ai 16))) 20 (if rc_stOk (fi 2) x then (rc_sR ai (al 4) (fi 2) na (x.toNatClampNeg) F9).2.1 else (ai 20))) 21 (if rc_stOk (fi 2) x then rc_sB ai na else (ai 21))) al := by
  by_cases hok : rc_stOk (fi 2) x
  · simp only [if_pos hok]
    exact ⟨na, nr, h.1, h.2.1, h.2.2⟩
  · simp only [if_neg hok]
    exact ⟨na, nr, h.1, h.2.1, h.2.2⟩
-- ===== the row of run has at most ten acts =====
theorem rc_ra_ok {nd : Nat → Int32} {stp : Nat → Nat → Int64} {va : Nat → Int64} {n s j : Nat} {z v : Int64} : ∀ m a L, a + m = n → (∃ b, a ≤ b ∧ b < n ∧ ¬ rc_can nd (nI s) b = 0 ∧ ∀ f, (rc_best nd stp va n (s ||| 2 ^ b) (b + 1) (z + stp j b) f).1 = v) →
    (rc_ra nd stp va n s j z v m a L).1 < n ∧ rc_cd nd s (rc_ra nd stp va n s j z v m a L).1 ∧ ∃ f, (rc_best nd stp va n (s ||| 2 ^ (rc_ra nd stp va n s j z v m a L).1) ((rc_ra nd stp va n s j z v m a L).1 + 1) (z + stp j (rc_ra nd stp va n s j z v m a L).1) f).1 = v
  | 0, a, L, h, ⟨b, q1, q2, _⟩ => by omega
  | m + 1, a, L, h, ⟨b, q1, q2, q3, q4⟩ => by
    rw [rc_ra]
    by_cases c1 : rc_can nd (nI s) a = 0
    · rw [if_pos c1]
      exact rc_ra_ok m (a + 1) L (by omega) ⟨b, Nat.lt_of_le_of_ne q1 (fun y => by subst y; exact q3 c1), q2, q3, q4⟩
    · rw [if_neg c1]
      by_cases c2 : (rc_best nd stp va n (s ||| 2 ^ a) (a + 1) (z + stp j a) L).1 = v
      · rw [if_pos c2]
        exact ⟨by show a < n; omega, c1, L, c2⟩
      · rw [if_neg c2]
        exact rc_ra_ok m (a + 1) _ (by omega) ⟨b, Nat.lt_of_le_of_ne q1 (fun y => by subst y; exact c2 (q4 L)), q2, q3, q4⟩
theorem rc_rn_len {nd : Nat → Int32} {stp : Nat → Nat → Int64} {va : Nat → Int64} {n : Nat} {v : Int64} (hn : n ≤ 10) (hsp : rc_spOk stp n) (hva : rc_vaOk va n) :
    ∀ (fu s j : Nat) (z : Int64) (len : Nat) (row : Nat → Int32) (L : Nat → Int64), s < 2 ^ n → j ≤ n → 0 ≤ z.toInt → z.toInt ≤ 83160000000 * (s : Int) → len = rc_pc s → (∀ f, (rc_best nd stp va n s j z f).1 = v) → (rc_rn nd stp va n v fu s j z len row L).2.1 ≤ 10 ∧ (rc_rn nd stp va n v fu s j z len row L).1 < 2 ^ n
  | 0, s, j, z, len, row, L, hs, _, _, _, hl, _ => ⟨by show len ≤ 10; rw [hl]; exact rc_pc_le s, hs⟩
  | fu + 1, s, j, z, len, row, L, hs, hj, hz0, hz1, hl, hB => by
    have hp := am_p2 hn
    rw [rc_rn]
    by_cases c : va s - z = v
    · rw [if_pos c]
      exact ⟨by show len ≤ 10; rw [hl]; exact rc_pc_le s, hs⟩
    · rw [if_neg c]
      obtain ⟨b, q2, q3, q4⟩ := rc_run_step (nd := nd) hn hsp hva hs hj hz0 hz1 hB c
      obtain ⟨r1, r2, f0, r3⟩ := rc_ra_ok (nd := nd) (stp := stp) (va := va) (n := n) (s := s) (j := j) (z := z) (v := v) n 0 L (by omega) ⟨b, Nat.zero_le _, q2, q3, q4⟩
      generalize rc_ra nd stp va n s j z v n 0 L = q at r1 r2 r3 ⊢
      have hsj := hsp j q.1 hj r1
      have hgt := rc_cd_gt (show s < 1024 by omega) (show q.1 < 10 by omega) r2
      have hadd : (z + stp j q.1).toInt = z.toInt + (stp j q.1).toInt := i64_add (by omega) (by omega)
      have hs3 := rc_or_lt hs r1
      have hz2 : 0 ≤ (z + stp j q.1).toInt := by omega
      have hz3 : (z + stp j q.1).toInt ≤ 83160000000 * ((s ||| 2 ^ q.1 : Nat) : Int) := by omega
      have hpc := rc_pc_add (show s < 1024 by omega) (show q.1 < 10 by omega) r2
      exact rc_rn_len hn hsp hva fu _ _ _ _ _ _ hs3 (by omega) hz2 hz3 (by rw [hpc, hl]) (fun f => (rc_best_f hn hsp hva hs3 (by omega) hz2 hz3 f f0).trans r3)
theorem rc_runQ_ok {na nr : Nat} {fi : Nat → Int32} {ai : Nat → Nat → Int32} {al : Nat → Nat → Int64} (h : rc_K na nr fi ai al) (t7 t8 : Int32) (F : Nat) : (rc_runQ ai al t7 t8 na nr F).2.1 ≤ 10 ∧ (rc_runQ ai al t7 t8 na nr F).1 < 2 ^ na := by
  have hn := h.1.2.1
  have hp := am_p2 hn
  have hsp := rc_K_sp h
  have hva : rc_vaOk (rc_bwV ai al t7 t8 na nr) na := rc_K_va h t7 t8
  have d0 : 0 ≤ (0 : Int64).toInt := by decide +kernel
  have d1 : (0 : Int64).toInt ≤ 83160000000 * ((0 : Nat) : Int) := by decide +kernel
  rw [rc_runQ]
  exact rc_rn_len hn hsp hva F 0 0 0 0 _ _ (by omega) (by omega) d0 d1 (by decide +kernel) (fun f => by rw [rc_bwQ]; exact rc_best_f hn hsp hva (by omega) (by omega) d0 d1 f (al 18))
set_option maxRecDepth 100000 in
theorem rk_run {na nr : Nat} {fi : Nat → Int32} {ai : Nat → Nat → Int32} {al : Nat → Nat → Int64} (v : Int64) (F9 : Nat) (h : rc_K na nr fi ai al) : ∃ na2 nr2, rc_K na2 nr2 (upd (upd (upd (upd fi 2 (if rc_runOk (rc_st (ai 6) na (2 ^ na - 1)) v then nI (rc_runQ ai al (fi 7) (fi 8) na nr F9).2.1 else (fi 2))) 3 (if rc_runOk (rc_st (ai 6) na (2 ^ na - 1)) v then 1 else (fi 3))) 4 (if rc_runOk (rc_st (ai 6) na (2 ^ na - 1)) v then rc_rest (ai 1) (nI (rc_runQ ai al (fi 7) (fi 8) na nr F9).1) na else (fi 4))) 5 (if rc_runOk (rc_st (ai 6) na (2 ^ na - 1)) v then (fi 0) else (fi 5))) (va_up (va_up ai 14 (if rc_runOk (rc_st (ai 6) na (2 ^ na - 1)) v then (rc_runQ ai al (fi 7) (fi 8) na nr F9).2.2.1 else (ai 14))) 17 (if rc_runOk (rc_st (ai 6) na (2 ^ na - 1)) v then rc_bwN ai na else (ai 17))) (va_up (va_up (va_up al 15 (if rc_runOk (rc_st (ai 6) na (2 ^ na - 1)) v then rc_bro (rc_brings (ai 1) (ai 5) (ai 10) (ai 11) (al 9) (fi 7) (fi 8) na (nI (rc_runQ ai al (fi 7) (fi 8) na nr F9).1)) (al 15) 12 else (al 15))) 18 (if rc_runOk (rc_st (ai 6) na (2 ^ na - 1)) v then (rc_runQ ai al (fi 7) (fi 8) na nr F9).2.2.2 else (al 18))) 19 (if rc_runOk (rc_st (ai 6) na (2 ^ na - 1)) v then rc_bwV ai al (fi 7) (fi 8) na nr else (al 19))) := by
  by_cases hok : rc_runOk (rc_st (ai 6) na (2 ^ na - 1)) v
  · simp only [if_pos hok]
    have hq := rc_runQ_ok h (fi 7) (fi 8) F9
    exact ⟨na, nr, ⟨h.1.1, h.1.2.1, h.1.2.2.1, h.1.2.2.2.1, ⟨_, hq.1, Or.inl rfl⟩, Or.inr rfl, ⟨na, h.1.2.1, h.1.1⟩⟩, h.2.1, h.2.2⟩
  · simp only [if_neg hok]
    exact ⟨na, nr, h.1, h.2.1, h.2.2⟩
-- ===== what holds of the class between two calls =====
def ac_K (na nr : Nat) (fi : Nat → Int32) (ai : Nat → Nat → Int32) : Prop :=
  fi 0 = nI na ∧ na ≤ 10 ∧ fi 2 = nI nr ∧ nr ≤ 16 ∧ (∃ ln, ln ≤ 10 ∧ fi 5 = nI ln) ∧ (∀ a, a < na → rc_kind (ai 6 a)) ∧ ∀ a, a < na → rc_kind (ai 7 a)
set_option maxRecDepth 100000 in
theorem ck_before {na nr : Nat} {fi : Nat → Int32} {fl : Nat → Int64} {ai : Nat → Nat → Int32} {al : Nat → Nat → Int64} (x : Int32) (y : Int32) (h : ac_K na nr fi ai) : ∃ na2 nr2, ac_K na2 nr2 (upd fi 4 (if ac_befOk (fi 0) (ai 9) x y then 0 else (fi 4))) (va_up ai 9 (if ac_befOk (fi 0) (ai 9) x y then ac_addNeed ((ai 9) x.toNatClampNeg ||| ((1 : Int32) <<< (x &&& 31))) y (ai 9) na else (ai 9))) := by
  exact ⟨na, nr, h⟩
set_option maxRecDepth 100000 in
theorem ck_change {na nr : Nat} {fi : Nat → Int32} {fl : Nat → Int64} {ai : Nat → Nat → Int32} {al : Nat → Nat → Int64} (x : Int32) (y : Int32) (z : Int64) (h : ac_K na nr fi ai) : ∃ na2 nr2, ac_K na2 nr2 (upd fi 4 (if ac_movOk x y z then 0 else (fi 4))) ai := by
  exact ⟨na, nr, h⟩
set_option maxRecDepth 100000 in
theorem ck_turn {na nr : Nat} {fi : Nat → Int32} {fl : Nat → Int64} {ai : Nat → Nat → Int32} {al : Nat → Nat → Int64} (x : Int32) (y : Int32) (z : Int64) (h : ac_K na nr fi ai) : ∃ na2 nr2, ac_K na2 nr2 (upd fi 4 (if ac_movOk x y z then 0 else (fi 4))) ai := by
  exact ⟨na, nr, h⟩
set_option maxRecDepth 100000 in
theorem ck_worth {na nr : Nat} {fi : Nat → Int32} {fl : Nat → Int64} {ai : Nat → Nat → Int32} {al : Nat → Nat → Int64} (x : Int32) (z : Int64) (h : ac_K na nr fi ai) : ∃ na2 nr2, ac_K na2 nr2 (upd fi 4 (if ac_worOk x z then 0 else (fi 4))) ai := by
  exact ⟨na, nr, h⟩
set_option maxRecDepth 100000 in
theorem ck_breaks {na nr : Nat} {fi : Nat → Int32} {fl : Nat → Int64} {ai : Nat → Nat → Int32} {al : Nat → Nat → Int64} (x : Int32) (h : ac_K na nr fi ai) : ∃ na2 nr2, ac_K na2 nr2 (upd (upd fi 1 (if ac_brkOk (fi 0) (fi 1) x then (fi 1) ||| ((1 : Int32) <<< (x &&& 31)) else (fi 1))) 4 (if ac_brkOk (fi 0) (fi 1) x then 0 else (fi 4))) ai := by
  exact ⟨na, nr, h⟩
set_option maxRecDepth 100000 in
theorem ck_sure {na nr : Nat} {fi : Nat → Int32} {fl : Nat → Int64} {ai : Nat → Nat → Int32} {al : Nat → Nat → Int64} (x : Int32) (u : Int64) (v : Int64) (h : ac_K na nr fi ai) : ∃ na2 nr2, ac_K na2 nr2 (upd fi 4 (if ac_surOk x u v then 0 else (fi 4))) ai := by
  exact ⟨na, nr, h⟩
set_option maxRecDepth 100000 in
theorem ck_stations {na nr : Nat} {fi : Nat → Int32} {fl : Nat → Int64} {ai : Nat → Nat → Int32} {al : Nat → Nat → Int64} (x : Int32) (h : ac_K na nr fi ai) : ∃ na2 nr2, ac_K na2 nr2 (upd (upd fi 8 (if ac_stOk (fi 3) x then (fi 6) else (fi 8))) 9 (if ac_stOk (fi 3) x then (nI x.toNatClampNeg) else (fi 9))) (va_up (va_up ai 21 (if ac_stOk (fi 3) x then ((ac_try (al 8) (ai 9) (fi 6) (nI x.toNatClampNeg) (ac_least (al 8) (fi 6) (nI x.toNatClampNeg) na) na na 0 0 ((ai 21), (ai 22), (ac_fillL 0 (al 23) 4), (ac_tot (al 8) (fi 6) na + 1))).1) else (ai 21))) 22 (if ac_stOk (fi 3) x then ((ac_try (al 8) (ai 9) (fi 6) (nI x.toNatClampNeg) (ac_least (al 8) (fi 6) (nI x.toNatClampNeg) na) na na 0 0 ((ai 21), (ai 22), (ac_fillL 0 (al 23) 4), (ac_tot (al 8) (fi 6) na + 1))).2.1) else (ai 22))) := by
  exact ⟨na, nr, h⟩
set_option maxRecDepth 100000 in
theorem ck_test {na nr : Nat} {fi : Nat → Int32} {fl : Nat → Int64} {ai : Nat → Nat → Int32} {al : Nat → Nat → Int64} (x : Int32) (z : Int64) (h : ac_K na nr fi ai) : ∃ na2 nr2, ac_K na2 nr2 fi ai := by
  exact ⟨na, nr, h⟩
set_option maxRecDepth 100000 in
theorem ck_act {na nr : Nat} {fi : Nat → Int32} {fl : Nat → Int64} {ai : Nat → Nat → Int32} {al : Nat → Nat → Int64} (x : Int32) (t : Int32) (d : Int32) (z : Int64) (h : ac_K na nr fi ai) : ∃ na2 nr2, ac_K na2 nr2 (upd (upd fi 0 (if ac_actOk (fi 0) x t d z then (fi 0) + 1 else (fi 0))) 4 (if ac_actOk (fi 0) x t d z then 0 else (fi 4))) (va_up (va_up (va_up ai 5 (if ac_actOk (fi 0) x t d z then upd (ai 5) na x else (ai 5))) 6 (if ac_actOk (fi 0) x t d z then upd (ai 6) na t else (ai 6))) 7 (if ac_actOk (fi 0) x t d z then upd (ai 7) na d else (ai 7))) := by
  by_cases hok : ac_actOk (fi 0) x t d z
  · simp only [if_pos hok]
    have hlt : na < 10 := by rcases Nat.lt_or_ge na 10 with y | y; exact y; exact absurd (by rw [h.1, show na = 10 by have := h.2.1; omega]; decide +kernel) hok.1
    exact ⟨na + 1, nr, (by show fi 0 + 1 = nI (na + 1); rw [h.1]; exact nI_1 na), hlt, h.2.2.1, h.2.2.2.1, h.2.2.2.2.1, rc_updK h.2.2.2.2.2.1 (am_isKind hok.2.2.1), rc_updK h.2.2.2.2.2.2 (am_isKind hok.2.2.2.1)⟩
  · simp only [if_neg hok]
    exact ⟨na, nr, h⟩
set_option maxRecDepth 100000 in
theorem ck_rest {na nr : Nat} {fi : Nat → Int32} {fl : Nat → Int64} {ai : Nat → Nat → Int32} {al : Nat → Nat → Int64} (v : Int64) (z : Int64) (h : ac_K na nr fi ai) : ∃ na2 nr2, ac_K na2 nr2 (upd (upd fi 2 (if ac_rstOk v z (ac_place (ai 14) v.toInt32 nr 0) then if ac_place (ai 14) v.toInt32 nr 0 = nr then (fi 2) + 1 else (fi 2) else (fi 2))) 4 (if ac_rstOk v z (ac_place (ai 14) v.toInt32 nr 0) then 0 else (fi 4))) (va_up ai 14 (if ac_rstOk v z (ac_place (ai 14) v.toInt32 nr 0) then upd (ai 14) (ac_place (ai 14) v.toInt32 nr 0) v.toInt32 else (ai 14))) := by
  by_cases hok : ac_rstOk v z (ac_place (ai 14) v.toInt32 nr 0)
  · simp only [if_pos hok]
    by_cases hq : ac_place (ai 14) v.toInt32 nr 0 = nr
    · simp only [if_pos hq]; exact ⟨na, nr + 1, h.1, h.2.1, (by show fi 2 + 1 = nI (nr + 1); rw [h.2.2.1]; exact nI_1 nr), (by have := hok.2.2.2; omega), h.2.2.2.2⟩
    · simp only [if_neg hq]; exact ⟨na, nr, h⟩
  · simp only [if_neg hok]
    exact ⟨na, nr, h⟩
theorem ac_kr_len (bn : Nat → Nat → Nat) : ∀ n row len s x, (ac_kr bn n row len s x).2.1 ≤ len + n
  | 0, _, len, _, _ => Nat.le_refl len
  | n + 1, _, len, _, 0 => Nat.le_add_right len (n + 1)
  | n + 1, row, len, s, a + 1 => by
    have := ac_kr_len bn n (upd row len (nI a)) (len + 1) (s ||| 2 ^ a) (bn (s ||| 2 ^ a) (a + 1))
    rw [ac_kr]
    omega
theorem ac_rk_len (fi : Nat → Int32) (ai : Nat → Nat → Int32) (al : Nat → Nat → Int64) (na nr : Nat) : (ac_rk fi ai al na nr).2.1 ≤ 10 := by
  have := ac_kr_len (ac_bn (ai 5) (ai 14) (ai 9) (al 15) (al 16) (al 17) (al 18) (fi 1) na nr) 10 (ai 19) 0 0 (ac_bn (ai 5) (ai 14) (ai 9) (al 15) (al 16) (al 17) (al 18) (fi 1) na nr 0 0)
  rw [ac_rk]
  omega
set_option maxRecDepth 100000 in
theorem ck_run {na nr : Nat} {fi : Nat → Int32} {fl : Nat → Int64} {ai : Nat → Nat → Int32} {al : Nat → Nat → Int64} (z : Int64) (h : ac_K na nr fi ai) : ∃ na2 nr2, ac_K na2 nr2 (upd (upd (upd (upd (upd fi 3 (if ac_count (ai 9) na (2 ^ na - 1) ≤ z then 1 else (fi 3))) 4 (if ac_count (ai 9) na (2 ^ na - 1) ≤ z then 1 else (fi 4))) 5 (if ac_count (ai 9) na (2 ^ na - 1) ≤ z then (nI (ac_rk fi ai (va_up (va_up (va_up al 16 (ac_vals (al 12) (al 13) (al 16) 12)) 17 (ac_rs ai (va_up al 16 (ac_vals (al 12) (al 13) (al 16) 12)) na)) 18 (ac_rd fi ai (va_up al 16 (ac_vals (al 12) (al 13) (al 16) 12)) na nr)) na nr).2.1) else (fi 5))) 6 (if ac_count (ai 9) na (2 ^ na - 1) ≤ z then (nI (ac_rk fi ai (va_up (va_up (va_up al 16 (ac_vals (al 12) (al 13) (al 16) 12)) 17 (ac_rs ai (va_up al 16 (ac_vals (al 12) (al 13) (al 16) 12)) na)) 18 (ac_rd fi ai (va_up al 16 (ac_vals (al 12) (al 13) (al 16) 12)) na nr)) na nr).2.2) else (fi 6))) 7 (if ac_count (ai 9) na (2 ^ na - 1) ≤ z then (ac_freed (ai 5) (nI (ac_rk fi ai (va_up (va_up (va_up al 16 (ac_vals (al 12) (al 13) (al 16) 12)) 17 (ac_rs ai (va_up al 16 (ac_vals (al 12) (al 13) (al 16) 12)) na)) 18 (ac_rd fi ai (va_up al 16 (ac_vals (al 12) (al 13) (al 16) 12)) na nr)) na nr).2.2) na) else (fi 7))) (va_up ai 19 (if ac_count (ai 9) na (2 ^ na - 1) ≤ z then ((ac_rk fi ai (va_up (va_up (va_up al 16 (ac_vals (al 12) (al 13) (al 16) 12)) 17 (ac_rs ai (va_up al 16 (ac_vals (al 12) (al 13) (al 16) 12)) na)) 18 (ac_rd fi ai (va_up al 16 (ac_vals (al 12) (al 13) (al 16) 12)) na nr)) na nr).1) else (ai 19))) := by
  by_cases hok : ac_count (ai 9) na (2 ^ na - 1) ≤ z
  · simp only [if_pos hok]
    exact ⟨na, nr, h.1, h.2.1, h.2.2.1, h.2.2.2.1, ⟨_, ac_rk_len _ _ _ _ _, rfl⟩, h.2.2.2.2.2⟩
  · simp only [if_neg hok]
    exact ⟨na, nr, h⟩
