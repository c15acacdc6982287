-- ===== the law: calls beside a world that they do not touch =====
section LWK
variable {p : Program} {l : Launch} {e : Env} {R : Room} {s : State} {m : MethodId} {args : Array Value} {below : List Frame} {meth : Method} {c : Code} {H : Heap} {locs : List Loc} {cells slots : Nat} {Q : State → Prop}
variable {pc : Nat} {ls : Array Slot} {rest st0 : List Value} {D : va_G} {cl : List vw_C} {A0 A1 : Nat → Prop} {w' wo : va_W} {H0 : Heap} {a : Array Value}
theorem lw_kept {H1 : Heap} (hPo : va_P D cl wo H) (hdis : ∀ (k : Nat) (q : Nat × va_E), wo[k]? = some q → ¬ A1 q.1) (hk : ∀ q : Nat, q < H.size → ¬ A1 q → H1[q]? = H[q]?) : va_P D cl wo H1 :=
  fun k q hq => (hPo k q hq).kept (hk q.1 (hPo k q hq).lt (hdis k q hq))
theorem lw_callMi {v : Int32} (hr : va_Run p l e R s m args below meth c H locs cells slots 0 0 (F0 m pc ls st0) rest (am_Mi cl D v w' A1 a) A1) (hS : va_S A0 H0 H locs) (hA : ∀ q, A1 q → A0 q) (hPo : va_P D cl wo H) (hdis : ∀ (k : Nat) (q : Nat × va_E), wo[k]? = some q → ¬ A1 q.1)
    (kk : ∀ (H1 : Heap) (locs1 : List Loc), va_P D cl w' H1 → va_P D cl wo H1 → va_S A0 H0 H1 locs1 → W p l e R s m args below meth c H1 locs1 cells slots Q (F0 m (pc + 3) ls (.int v :: rest))) : W p l e R s m args below meth c H locs cells slots Q (F0 m pc ls st0) :=
  va_calli hr hS (fun q _ h => hA q h) hA (fun r _ t H1 locs1 ht _ (hp : r = v) hB _ hk hS1 => by subst hp; exact kk H1 locs1 (by rw [← ht]; exact hB) (lw_kept hPo hdis hk) hS1)
theorem lw_callMl {v : Int64} (hr : va_Run p l e R s m args below meth c H locs cells slots 0 0 (F0 m pc ls st0) rest (am_Ml cl D v w' A1 a) A1) (hS : va_S A0 H0 H locs) (hA : ∀ q, A1 q → A0 q) (hPo : va_P D cl wo H) (hdis : ∀ (k : Nat) (q : Nat × va_E), wo[k]? = some q → ¬ A1 q.1)
    (kk : ∀ (H1 : Heap) (locs1 : List Loc), va_P D cl w' H1 → va_P D cl wo H1 → va_S A0 H0 H1 locs1 → W p l e R s m args below meth c H1 locs1 cells slots Q (F0 m (pc + 3) ls (.long v :: rest))) : W p l e R s m args below meth c H locs cells slots Q (F0 m pc ls st0) :=
  va_calll hr hS (fun q _ h => hA q h) hA (fun r _ t H1 locs1 ht _ (hp : r = v) hB _ hk hS1 => by subst hp; exact kk H1 locs1 (by rw [← ht]; exact hB) (lw_kept hPo hdis hk) hS1)
end LWK
-- ===== what holds of the reference between two calls =====
abbrev rc_kind (x : Int32) : Prop := ∃ t, t < 6 ∧ x = nI t
def rc_K (na nr : Nat) (fi : Nat → Int32) (ai : Nat → Nat → Int32) (al : Nat → Nat → Int64) : Prop :=
  (fi 0 = nI na ∧ na ≤ 10 ∧ fi 1 = nI nr ∧ nr ≤ 16 ∧ (∃ ln, ln ≤ 10 ∧ (fi 2 = nI ln ∨ fi 2 = -1)) ∧ (fi 3 = 0 ∨ fi 3 = 1) ∧ ∃ nt, nt ≤ 10 ∧ fi 5 = nI nt) ∧
  ((∀ a, a < na → rc_kind (ai 2 a)) ∧ (∀ a, a < na → rc_kind (ai 3 a)) ∧ (∀ p, 0 ≤ (ai 10 p).toInt ∧ (ai 10 p).toInt ≤ 12) ∧ ∀ p, p < 12 → 1 ≤ (ai 11 p).toInt ∧ (ai 11 p).toInt ≤ 12) ∧
  ((∀ k, rc_cents (al 4 k)) ∧ (∀ k, rc_cents (al 7 k)) ∧ (∀ k, rc_cents (al 8 k)) ∧ (∀ k, rc_wor (al 9 k)) ∧ ∀ k, rc_wor (al 13 k))
theorem rc_K_be {na nr : Nat} {fi : Nat → Int32} {ai : Nat → Nat → Int32} {al : Nat → Nat → Int64} (h : rc_K na nr fi ai al) : ∀ p, p < 12 → ¬ ((ai 11) p).toInt64 = 0 := by
  intro p hp z
  have h1 := h.2.1.2.2.2 p hp
  have h2 : (ai 11 p).toInt64.toInt = 0 := by rw [z]; decide +kernel
  rw [Int32.toInt_toInt64] at h2
  omega
theorem rc_K_sp {na nr : Nat} {fi : Nat → Int32} {ai : Nat → Nat → Int32} {al : Nat → Nat → Int64} (h : rc_K na nr fi ai al) : rc_spOk (rc_step (ai 2) (ai 3) (al 4) (al 7) (al 8)) na := rc_sp_ok h.2.2.1 h.2.2.2.1 h.2.2.2.2.1
theorem rc_K_va {na nr : Nat} {fi : Nat → Int32} {ai : Nat → Nat → Int32} {al : Nat → Nat → Int64} (h : rc_K na nr fi ai al) (tst tas : Int32) : rc_vaOk (rc_vals (rc_val (ai 1) (ai 5) (ai 10) (ai 11) (ai 12) (al 9) (al 13) tst tas na nr) (al 19) (2 ^ na)) na :=
  rc_va_ok (fun p _ => h.2.2.2.2.2.1 p) (fun p _ => h.2.1.2.2.1 p) (fun k _ => h.2.2.2.2.2.2 k) h.1.2.2.2.1
theorem rc_cents_of {z : Int64} (h : ¬ ac_isPrice z = 0) : rc_cents z := by
  unfold ac_isPrice at h
  have e0 : (0 : Int64).toInt = 0 := by decide +kernel
  have e1 : (1000000 : Int64).toInt = 1000000 := by decide +kernel
  simp only [Int64.lt_iff_toInt_lt, Int64.le_iff_toInt_le, e0, e1] at h
  constructor <;> (by_cases c : 0 ≤ z.toInt <;> by_cases d : z.toInt ≤ 1000000 <;> simp_all <;> omega)
theorem rc_wor_of {z : Int64} (h : ¬ ac_isWorth z = 0) : rc_wor z := by
  unfold ac_isWorth at h
  have e0 : (-1000000 : Int64).toInt = -1000000 := by decide +kernel
  have e1 : (1000000 : Int64).toInt = 1000000 := by decide +kernel
  simp only [Int64.lt_iff_toInt_lt, Int64.le_iff_toInt_le, e0, e1] at h
  constructor <;> (by_cases c : -1000000 ≤ z.toInt <;> by_cases d : z.toInt ≤ 1000000 <;> simp_all <;> omega)
theorem rc_updL {P : Int64 → Prop} {f : Nat → Int64} {k : Nat} {v : Int64} (h : ∀ i, P (f i)) (hv : P v) : ∀ i, P (vp_updL f k v i) := by
  intro i
  by_cases e : i = k
  · rw [e, am_updL_s]; exact hv
  · rw [am_updL_n e]; exact h i
