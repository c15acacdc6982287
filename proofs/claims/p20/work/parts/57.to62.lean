-- ===== class against reference: conditions that are the same =====
theorem lw_actOk {n : Int32} {k : Nat} (hn : n = nI k) (hk : k ≤ 10) (x t d : Int32) (z : Int64) : ac_actOk n x t d z ↔ rc_actOk n x t d z := by
  have h1 : (10 : Int32) ≤ n ↔ n = 10 := by
    subst hn
    rw [show (10 : Int32) = nI 10 from rfl, nI_leI (by omega) (by omega), nI_eq (by omega) (by omega)]
    omega
  have h2 : (x = -1 ∨ ¬ ac_isPart x = 0) ↔ (¬ x < -1 ∧ ¬ 12 ≤ x) := by
    have e1 : (-1 : Int32).toInt = -1 := by decide +kernel
    have e0 : (0 : Int32).toInt = 0 := by decide +kernel
    have e2 : (12 : Int32).toInt = 12 := by decide +kernel
    unfold ac_isPart
    rw [← Int32.toInt_inj]
    simp only [Int32.lt_iff_toInt_lt, Int32.le_iff_toInt_le, e1, e0, e2]
    by_cases c1 : x.toInt < 0
    · simp only [if_pos c1]
      simp
      omega
    · simp only [if_neg c1]
      by_cases c2 : 12 ≤ x.toInt
      · simp only [if_pos c2]
        simp
        omega
      · simp only [if_neg c2]
        simp
        omega
  unfold ac_actOk rc_actOk
  rw [h1, h2]
  constructor
  · rintro ⟨a, ⟨b, c⟩, d⟩
    exact ⟨a, b, c, d⟩
  · rintro ⟨a, b, c, d⟩
    exact ⟨a, ⟨b, c⟩, d⟩
theorem lw_if {α : Type} {p q : Prop} [Decidable p] [Decidable q] {a b : α} (h : p ↔ q) : (if p then a else b) = if q then a else b := by
  by_cases c : p
  · rw [if_pos c, if_pos (h.mp c)]
  · rw [if_neg c, if_neg (fun w => c (h.mpr w))]
theorem lw_movOk (x y : Int32) (z : Int64) : ac_movOk x y z ↔ rc_movOk x y z := by
  unfold ac_movOk rc_movOk ac_isMove
  by_cases h1 : ac_isKind x = 0 <;> by_cases h2 : ac_isKind y = 0 <;> by_cases h3 : x = y <;> simp [h1, h2, h3]
theorem lw_na0 {x : Int32} {n : Nat} (h : x = nI n) (hn : n ≤ 16) (h0 : x = 0) : n = 0 := by
  rw [h0, show (0 : Int32) = nI 0 from rfl, nI_eq (by omega) (by omega)] at h
  exact h.symm
theorem lw_na {x y : Int32} {n m : Nat} (hx : x = nI n) (hn : n ≤ 16) (hy : y = nI m) (hm : m ≤ 16) (e : x = y) : n = m := by
  rw [hx, hy, nI_eq (by omega) (by omega)] at e
  exact e
theorem lw_noAct (x : Int32) : ac_hasAct 0 x = 0 := by
  unfold ac_hasAct
  by_cases c : x < 0
  · rw [if_pos c]
  · rw [if_neg c, if_pos (Int32.le_iff_toInt_le.mpr (by
      have := fun h => c (Int32.lt_iff_toInt_lt.mpr h)
      exact Int.not_lt.mp this))]
/-! ===== Int32 by its bits: bt x i ===== -/
def bt (x : Int32) (i : Nat) : Bool := x.toBitVec.getLsbD i
theorem b_ext {x y : Int32} (h : ∀ i, i < 32 → bt x i = bt y i) : x = y := Int32.toBitVec_inj.mp (BitVec.eq_of_getLsbD_eq (fun i hi => h i hi))
theorem b_or (x y : Int32) (i : Nat) : bt (x ||| y) i = (bt x i || bt y i) := by unfold bt; rw [Int32.toBitVec_or, BitVec.getLsbD_or]
theorem b_and (x y : Int32) (i : Nat) : bt (x &&& y) i = (bt x i && bt y i) := by unfold bt; rw [Int32.toBitVec_and, BitVec.getLsbD_and]
theorem b_xor (x y : Int32) (i : Nat) : bt (x ^^^ y) i = (bt x i ^^ bt y i) := by unfold bt; rw [Int32.toBitVec_xor, BitVec.getLsbD_xor]
theorem b_big {x : Int32} {i : Nat} (h : 32 ≤ i) : bt x i = false := BitVec.getLsbD_of_ge _ _ h
theorem b_255 (i : Nat) : bt 255 i = decide (i < 8) := by
  rcases Nat.lt_or_ge i 32 with h | h
  · exact (by decide +kernel : ∀ i, i < 32 → bt 255 i = decide (i < 8)) i h
  · rw [b_big h, decide_eq_false (by omega)]
theorem b_65535 (i : Nat) : bt 65535 i = decide (i < 16) := by
  rcases Nat.lt_or_ge i 32 with h | h
  · exact (by decide +kernel : ∀ i, i < 32 → bt 65535 i = decide (i < 16)) i h
  · rw [b_big h, decide_eq_false (by omega)]
theorem b_m1 : ∀ i, i < 32 → bt (-1) i = true := by decide +kernel
theorem b_0 (i : Nat) : bt 0 i = false := BitVec.getLsbD_zero
theorem s_l : ∀ n, n < 32 → ((nI n &&& 31).toBitVec.smod 32).toNat = n := by decide +kernel
theorem s_u : ∀ n, n < 32 → (((nI n).toUInt32 &&& Int32.toUInt32 31).toBitVec % 32).toNat = n := by decide +kernel
theorem b_shl (n : Nat) (hn : n < 32) (x : Int32) {i : Nat} (hi : i < 32) : bt (x <<< (nI n &&& 31)) i = (decide (n ≤ i) && bt x (i - n)) := by
  unfold bt
  rw [Int32.toBitVec_shiftLeft]
  show (x.toBitVec <<< ((nI n &&& 31).toBitVec.smod 32).toNat).getLsbD i = _
  rw [s_l n hn, BitVec.getLsbD_shiftLeft]
  rcases Nat.lt_or_ge i n with h | h
  · simp [h, Nat.not_le.mpr h]
  · simp [hi, h, Nat.not_lt.mpr h]
theorem b_ushr (n : Nat) (hn : n < 32) (x : Int32) (i : Nat) : bt ((x.toUInt32 >>> ((nI n).toUInt32 &&& Int32.toUInt32 31)).toInt32) i = bt x (n + i) := by
  show (x.toUInt32 >>> ((nI n).toUInt32 &&& Int32.toUInt32 31)).toBitVec.getLsbD i = x.toUInt32.toBitVec.getLsbD (n + i)
  rw [UInt32.toBitVec_shiftRight]
  show (x.toUInt32.toBitVec >>> (((nI n).toUInt32 &&& Int32.toUInt32 31).toBitVec % 32).toNat).getLsbD i = _
  rw [s_u n hn, BitVec.getLsbD_ushiftRight]
theorem b_sshr (n : Nat) (hn : n < 32) (x : Int32) {i : Nat} (hi : i < 32) : bt (x >>> (nI n &&& 31)) i = if n + i < 32 then bt x (n + i) else bt x 31 := by
  unfold bt
  rw [Int32.toBitVec_shiftRight]
  show (x.toBitVec.sshiftRight ((nI n &&& 31).toBitVec.smod 32).toNat).getLsbD i = _
  rw [s_l n hn, BitVec.getLsbD_sshiftRight, BitVec.msb_eq_getLsbD_last]
  simp [hi]
-- ===== bits of Int32 as the class and the reference test them =====
theorem b_1 (i : Nat) : bt 1 i = decide (i = 0) := by
  rcases Nat.lt_or_ge i 32 with h | h
  · exact (by decide +kernel : ∀ i, i < 32 → bt 1 i = decide (i = 0)) i h
  · rw [b_big h, decide_eq_false (by omega)]
theorem b_and1 (x : Int32) : (x &&& 1) = 0 ↔ bt x 0 = false := by
  constructor
  · intro h
    have : bt (x &&& 1) 0 = bt 0 0 := by rw [h]
    rw [b_and, b_1, b_0] at this
    simpa using this
  · intro h
    refine b_ext (fun i _ => ?_)
    rw [b_and, b_1, b_0]
    by_cases e : i = 0
    · subst e; rw [h]; rfl
    · rw [decide_eq_false e, Bool.and_false]
theorem b_and1' (x : Int32) : (x &&& 1) = 1 ↔ bt x 0 = true := by
  constructor
  · intro h
    have : bt (x &&& 1) 0 = bt 1 0 := by rw [h]
    rw [b_and, b_1] at this
    simpa using this
  · intro h
    refine b_ext (fun i _ => ?_)
    rw [b_and, b_1]
    by_cases e : i = 0
    · subst e; rw [h]; rfl
    · rw [decide_eq_false e, Bool.and_false]
theorem b_t0 (x : Int32) {k : Nat} (hk : k < 32) : ((x >>> (nI k &&& 31)) &&& 1) = 0 ↔ bt x k = false := by rw [b_and1, b_sshr k hk x (by omega), if_pos (by omega), Nat.add_zero]
theorem b_t1 (x : Int32) {k : Nat} (hk : k < 32) : ((x >>> (nI k &&& 31)) &&& 1) = 1 ↔ bt x k = true := by rw [b_and1', b_sshr k hk x (by omega), if_pos (by omega), Nat.add_zero]
theorem ac_has_bt (x : Int32) {k : Nat} (hk : k < 32) : ac_has x (nI k) = 0 ↔ bt x k = false := by
  unfold ac_has
  by_cases c : ((x >>> (nI k &&& 31)) &&& 1) = 0
  · rw [if_pos c]; exact ⟨fun _ => (b_t0 x hk).mp c, fun _ => rfl⟩
  · rw [if_neg c]; exact ⟨fun z => absurd z (by decide), fun z => absurd ((b_t0 x hk).mpr z) c⟩
theorem rc_has_bt (x : Int32) {k : Nat} (hk : k < 32) : rc_has x (nI k) = 0 ↔ bt x k = false := by
  unfold rc_has
  by_cases c : ((x >>> (nI k &&& 31)) &&& 1) = 1
  · rw [if_pos c]; exact ⟨fun z => absurd z (by decide), fun z => absurd ((b_t1 x hk).mp c) (by rw [z]; decide)⟩
  · rw [if_neg c]; exact ⟨fun _ => Bool.not_eq_true _ ▸ fun z => c ((b_t1 x hk).mpr z), fun _ => rfl⟩
theorem b_bit {k : Nat} (hk : k < 32) {i : Nat} (hi : i < 32) : bt ((1 : Int32) <<< (nI k &&& 31)) i = decide (i = k) := by
  rw [b_shl k hk 1 hi, b_1]
  by_cases e : i = k
  · subst e; simp
  · by_cases c : k ≤ i
    · rw [decide_eq_true c, decide_eq_false e, decide_eq_false (by omega)]; rfl
    · rw [decide_eq_false c, decide_eq_false e]; rfl
-- ===== what was told, class against reference =====
def lw_RA (fi : Nat → Int32) (fl : Nat → Int64) (ai : Nat → Nat → Int32) (al : Nat → Nat → Int64) (gi : Nat → Int32) (gl : Nat → Int64) (bi : Nat → Nat → Int32) (bl : Nat → Nat → Int64) : Prop :=
  (gi 0 = fi 0 ∧ gi 1 = fi 2 ∧ bi 1 = ai 5 ∧ bi 2 = ai 6 ∧ bi 3 = ai 7) ∧ (bl 4 = al 8 ∧ bl 7 = al 10 ∧ bl 8 = al 11 ∧ bl 9 = al 12) ∧ (bi 12 = ai 14 ∧ bl 13 = al 15) ∧
  (∀ a, a < 10 → (bt (fi 1) a = false ↔ bi 5 a = 0)) ∧ (∀ p, p < 12 → al 13 p = 27720 / (bi 11 p).toInt64 * (bi 10 p).toInt64)
theorem lw_RA0 : lw_RA (fun _ => 0) (fun _ => 0) ac_ai0 ac_al0 rc_fi0 (fun _ => 0) (rc_ai0 12) (fun _ _ => 0) := by
  refine ⟨⟨rfl, rfl, rfl, rfl, rfl⟩, ⟨rfl, rfl, rfl, rfl⟩, ⟨rfl, rfl⟩, fun a _ => ⟨fun _ => rfl, fun _ => b_0 a⟩, ?_⟩
  exact (by decide +kernel : ∀ p, p < 12 → ac_al0 13 p = 27720 / (rc_ai0 12 11 p).toInt64 * (rc_ai0 12 10 p).toInt64)
theorem lw_i32 {v : Int64} (h0 : ¬ v < 0) (h1 : ¬ 4095 < v) (x : Int32) : x.toInt64 = v ↔ x = v.toInt32 := by
  have e0 : (0 : Int64).toInt = 0 := by decide +kernel
  have e1 : (4095 : Int64).toInt = 4095 := by decide +kernel
  rw [Int64.lt_iff_toInt_lt, e0] at h0
  rw [Int64.lt_iff_toInt_lt, e1] at h1
  have k : v.toInt32.toInt = v.toInt := by rw [Int64.toInt_toInt32]; exact Int.bmod_eq_of_le (by omega) (by omega)
  rw [← Int64.toInt_inj, Int32.toInt_toInt64, ← Int32.toInt_inj, k]
theorem lw_place {v : Int64} (h0 : ¬ v < 0) (h1 : ¬ 4095 < v) (rp : Nat → Int32) : ∀ n k, rc_pl rp v n k = ac_place rp v.toInt32 n k
  | 0, k => rfl
  | n + 1, k => by
    rw [rc_pl, ac_place, lw_place h0 h1 rp n (k + 1)]
    exact lw_if (lw_i32 h0 h1 (rp k))
theorem lw_rstOk {v z : Int64} {rp rq : Nat → Int32} (e : rq = rp) {nr : Nat} (hnr : nr ≤ 16) : ac_rstOk v z (ac_place rp v.toInt32 nr 0) ↔ rc_rstOk v z (rc_pl rq v nr 0) := by
  subst e
  unfold ac_rstOk rc_rstOk
  constructor
  · rintro ⟨h1, h2, h3, h4⟩
    refine ⟨h1, h2, h3, ?_⟩
    rw [lw_place h1 h2]
    omega
  · rintro ⟨h1, h2, h3, h4⟩
    refine ⟨h1, h2, h3, ?_⟩
    rw [lw_place h1 h2] at h4
    have := (ac_place_le rq v.toInt32 nr 0).2
    omega
theorem lw_brkOk {n b : Int32} {k : Nat} {br : Nat → Int32} (hn : n = nI k) (hk : k ≤ 10) (h : ∀ a, a < 10 → (bt b a = false ↔ br a = 0)) (x : Int32) : ac_brkOk n b x ↔ rc_brkOk n br x := by
  unfold ac_brkOk rc_brkOk
  constructor
  · rintro ⟨h1, h2⟩
    obtain ⟨a, ha, rfl⟩ := am_hasAct hn (by omega) h1
    rw [ac_has_bt b (by omega)] at h2
    rw [nI_clamp (by omega)]
    exact ⟨h1, (h a (by omega)).mp h2⟩
  · rintro ⟨h1, h2⟩
    obtain ⟨a, ha, rfl⟩ := am_hasAct hn (by omega) h1
    rw [nI_clamp (by omega)] at h2
    rw [ac_has_bt b (by omega)]
    exact ⟨h1, (h a (by omega)).mpr h2⟩
theorem lw_brkUp {b : Int32} {br : Nat → Int32} (h : ∀ a, a < 10 → (bt b a = false ↔ br a = 0)) {c : Nat} (hc : c < 10) : ∀ a, a < 10 → (bt (b ||| ((1 : Int32) <<< (nI c &&& 31))) a = false ↔ upd br c 1 a = 0) := by
  intro a ha
  rw [b_or, b_bit (by omega) (by omega)]
  by_cases e : a = c
  · subst e
    rw [show upd br a 1 a = 1 from if_pos rfl, decide_eq_true rfl, Bool.or_true]
    exact ⟨fun z => absurd z (by decide), fun z => absurd z (by decide)⟩
  · rw [show upd br c 1 a = br a from if_neg e, decide_eq_false e, Bool.or_false]
    exact h a ha
theorem lw_toI {u : Int64} (h0 : 0 ≤ u.toInt) (h1 : u.toInt ≤ 12) : u.toInt32.toInt64 = u := by
  have k : u.toInt32.toInt = u.toInt := by rw [Int64.toInt_toInt32]; exact Int.bmod_eq_of_le (by omega) (by omega)
  rw [← Int64.toInt_inj, Int32.toInt_toInt64, k]
theorem lw_surR {x : Int32} {u v : Int64} (hok : ac_surOk x u v) : (0 ≤ u.toInt ∧ u.toInt ≤ 12) ∧ (1 ≤ v.toInt ∧ v.toInt ≤ 12) := by
  obtain ⟨-, h1, h2, h3, h4⟩ := hok
  have e0 : (0 : Int64).toInt = 0 := by decide +kernel
  have e1 : (1 : Int64).toInt = 1 := by decide +kernel
  have e2 : (12 : Int64).toInt = 12 := by decide +kernel
  simp only [Int64.lt_iff_toInt_lt, Int64.le_iff_toInt_le, e0, e1, e2] at h1 h2 h3 h4
  omega
set_option maxRecDepth 100000 in
theorem lrA_act {na nr na2 nr2 ln ln2 nt F9 : Nat} {fi : Nat → Int32} {fl : Nat → Int64} {ai : Nat → Nat → Int32} {al : Nat → Nat → Int64} {gi : Nat → Int32} {gl : Nat → Int64} {bi : Nat → Nat → Int32} {bl : Nat → Nat → Int64} (x : Int32) (t : Int32) (d : Int32) (z : Int64) (hk : ac_K na nr fi ai) (hk2 : rc_K na2 nr2 gi bi bl) (hR : lw_RA fi fl ai al gi gl bi bl) (hX : ln ≤ 10 ∧ fi 5 = nI ln ∧ ln2 ≤ 10 ∧ (gi 2 = nI ln2 ∨ gi 2 = -1) ∧ nt ≤ 10 ∧ gi 5 = nI nt ∧ 1048576 ≤ F9) : lw_RA (upd (upd fi 0 (if ac_actOk (fi 0) x t d z then (fi 0) + 1 else (fi 0))) 4 (if ac_actOk (fi 0) x t d z then 0 else (fi 4))) fl (va_up (va_up (va_up ai 5 (if ac_actOk (fi 0) x t d z then upd (ai 5) na x else (ai 5))) 6 (if ac_actOk (fi 0) x t d z then upd (ai 6) na t else (ai 6))) 7 (if ac_actOk (fi 0) x t d z then upd (ai 7) na d else (ai 7))) (va_up al 8 (if ac_actOk (fi 0) x t d z then vp_updL (al 8) na z else (al 8))) (upd (upd gi 0 (if rc_actOk (gi 0) x t d z then (gi 0) + 1 else (gi 0))) 3 (if rc_actOk (gi 0) x t d z then 0 else (gi 3))) gl (va_up (va_up (va_up bi 1 (if rc_actOk (gi 0) x t d z then upd (bi 1) na2 x else (bi 1))) 2 (if rc_actOk (gi 0) x t d z then upd (bi 2) na2 t else (bi 2))) 3 (if rc_actOk (gi 0) x t d z then upd (bi 3) na2 d else (bi 3))) (va_up bl 4 (if rc_actOk (gi 0) x t d z then vp_updL (bl 4) na2 z else (bl 4))) := by
  obtain rfl : na = na2 := (lw_na hk2.1.1 (by have := hk2.1.2.1; omega) hk.1 (by have := hk.2.1; omega) hR.1.1).symm
  have e : ac_actOk (fi 0) x t d z ↔ (rc_actOk (gi 0) x t d z) := (by rw [hR.1.1]; exact lw_actOk hk.1 hk.2.1 x t d z)
  by_cases c : ac_actOk (fi 0) x t d z
  · have c2 := e.mp c
    simp only [if_pos c, if_pos c2]
    exact ⟨⟨congrArg (fun q : Int32 => q + 1) hR.1.1, hR.1.2.1, congrArg (fun f => upd f na x) hR.1.2.2.1, congrArg (fun f => upd f na t) hR.1.2.2.2.1, congrArg (fun f => upd f na d) hR.1.2.2.2.2⟩, ⟨congrArg (fun f => vp_updL f na z) hR.2.1.1, hR.2.1.2⟩, hR.2.2⟩
  · have c2 : ¬ (rc_actOk (gi 0) x t d z) := fun h => c (e.mpr h)
    simp only [if_neg c, if_neg c2]
    exact hR
set_option maxRecDepth 100000 in
theorem lrA_before {na nr na2 nr2 ln ln2 nt F9 : Nat} {fi : Nat → Int32} {fl : Nat → Int64} {ai : Nat → Nat → Int32} {al : Nat → Nat → Int64} {gi : Nat → Int32} {gl : Nat → Int64} {bi : Nat → Nat → Int32} {bl : Nat → Nat → Int64} (x : Int32) (y : Int32) (hk : ac_K na nr fi ai) (hk2 : rc_K na2 nr2 gi bi bl) (hR : lw_RA fi fl ai al gi gl bi bl) (hX : ln ≤ 10 ∧ fi 5 = nI ln ∧ ln2 ≤ 10 ∧ (gi 2 = nI ln2 ∨ gi 2 = -1) ∧ nt ≤ 10 ∧ gi 5 = nI nt ∧ 1048576 ≤ F9) : lw_RA (upd fi 4 (if ac_befOk (fi 0) (ai 9) x y then 0 else (fi 4))) fl (va_up ai 9 (if ac_befOk (fi 0) (ai 9) x y then ac_addNeed ((ai 9) x.toNatClampNeg ||| ((1 : Int32) <<< (x &&& 31))) y (ai 9) na else (ai 9))) al (upd gi 3 (if rc_befOk (gi 0) (bi 6) na2 x y then 0 else (gi 3))) gl (va_up bi 6 (if rc_befOk (gi 0) (bi 6) na2 x y then upd (bi 6) (10 * y.toNatClampNeg + x.toNatClampNeg) 1 else (bi 6))) bl := by
  exact hR
set_option maxRecDepth 100000 in
theorem lrA_change {na nr na2 nr2 ln ln2 nt F9 : Nat} {fi : Nat → Int32} {fl : Nat → Int64} {ai : Nat → Nat → Int32} {al : Nat → Nat → Int64} {gi : Nat → Int32} {gl : Nat → Int64} {bi : Nat → Nat → Int32} {bl : Nat → Nat → Int64} (x : Int32) (y : Int32) (z : Int64) (hk : ac_K na nr fi ai) (hk2 : rc_K na2 nr2 gi bi bl) (hR : lw_RA fi fl ai al gi gl bi bl) (hX : ln ≤ 10 ∧ fi 5 = nI ln ∧ ln2 ≤ 10 ∧ (gi 2 = nI ln2 ∨ gi 2 = -1) ∧ nt ≤ 10 ∧ gi 5 = nI nt ∧ 1048576 ≤ F9) : lw_RA (upd fi 4 (if ac_movOk x y z then 0 else (fi 4))) fl ai (va_up al 10 (if ac_movOk x y z then vp_updL (al 10) ((x * 6 + y).toNatClampNeg) z else (al 10))) (upd gi 3 (if rc_movOk x y z then 0 else (gi 3))) gl bi (va_up bl 7 (if rc_movOk x y z then vp_updL (bl 7) ((6 * x + y).toNatClampNeg) z else (bl 7))) := by
  have e : ac_movOk x y z ↔ (rc_movOk x y z) := lw_movOk x y z
  by_cases c : ac_movOk x y z
  · have c2 := e.mp c
    simp only [if_pos c, if_pos c2]
    exact ⟨hR.1, ⟨hR.2.1.1, (by show vp_updL (bl 7) (6 * x + y).toNatClampNeg z = vp_updL (al 10) (x * 6 + y).toNatClampNeg z; rw [hR.2.1.2.1, Int32.mul_comm 6 x]), hR.2.1.2.2⟩, hR.2.2⟩
  · have c2 : ¬ (rc_movOk x y z) := fun h => c (e.mpr h)
    simp only [if_neg c, if_neg c2]
    exact hR
set_option maxRecDepth 100000 in
theorem lrA_turn {na nr na2 nr2 ln ln2 nt F9 : Nat} {fi : Nat → Int32} {fl : Nat → Int64} {ai : Nat → Nat → Int32} {al : Nat → Nat → Int64} {gi : Nat → Int32} {gl : Nat → Int64} {bi : Nat → Nat → Int32} {bl : Nat → Nat → Int64} (x : Int32) (y : Int32) (z : Int64) (hk : ac_K na nr fi ai) (hk2 : rc_K na2 nr2 gi bi bl) (hR : lw_RA fi fl ai al gi gl bi bl) (hX : ln ≤ 10 ∧ fi 5 = nI ln ∧ ln2 ≤ 10 ∧ (gi 2 = nI ln2 ∨ gi 2 = -1) ∧ nt ≤ 10 ∧ gi 5 = nI nt ∧ 1048576 ≤ F9) : lw_RA (upd fi 4 (if ac_movOk x y z then 0 else (fi 4))) fl ai (va_up al 11 (if ac_movOk x y z then vp_updL (al 11) ((x * 6 + y).toNatClampNeg) z else (al 11))) (upd gi 3 (if rc_movOk x y z then 0 else (gi 3))) gl bi (va_up bl 8 (if rc_movOk x y z then vp_updL (bl 8) ((6 * x + y).toNatClampNeg) z else (bl 8))) := by
  have e : ac_movOk x y z ↔ (rc_movOk x y z) := lw_movOk x y z
  by_cases c : ac_movOk x y z
  · have c2 := e.mp c
    simp only [if_pos c, if_pos c2]
    exact ⟨hR.1, ⟨hR.2.1.1, hR.2.1.2.1, (by show vp_updL (bl 8) (6 * x + y).toNatClampNeg z = vp_updL (al 11) (x * 6 + y).toNatClampNeg z; rw [hR.2.1.2.2.1, Int32.mul_comm 6 x]), hR.2.1.2.2.2⟩, hR.2.2⟩
  · have c2 : ¬ (rc_movOk x y z) := fun h => c (e.mpr h)
    simp only [if_neg c, if_neg c2]
    exact hR
set_option maxRecDepth 100000 in
theorem lrA_worth {na nr na2 nr2 ln ln2 nt F9 : Nat} {fi : Nat → Int32} {fl : Nat → Int64} {ai : Nat → Nat → Int32} {al : Nat → Nat → Int64} {gi : Nat → Int32} {gl : Nat → Int64} {bi : Nat → Nat → Int32} {bl : Nat → Nat → Int64} (x : Int32) (z : Int64) (hk : ac_K na nr fi ai) (hk2 : rc_K na2 nr2 gi bi bl) (hR : lw_RA fi fl ai al gi gl bi bl) (hX : ln ≤ 10 ∧ fi 5 = nI ln ∧ ln2 ≤ 10 ∧ (gi 2 = nI ln2 ∨ gi 2 = -1) ∧ nt ≤ 10 ∧ gi 5 = nI nt ∧ 1048576 ≤ F9) : lw_RA (upd fi 4 (if ac_worOk x z then 0 else (fi 4))) fl ai (va_up al 12 (if ac_worOk x z then vp_updL (al 12) x.toNatClampNeg z else (al 12))) (upd gi 3 (if ac_worOk x z then 0 else (gi 3))) gl bi (va_up bl 9 (if ac_worOk x z then vp_updL (bl 9) x.toNatClampNeg z else (bl 9))) := by
  have e : ac_worOk x z ↔ (ac_worOk x z) := Iff.rfl
  by_cases c : ac_worOk x z
  · have c2 := e.mp c
    simp only [if_pos c, if_pos c2]
    exact ⟨hR.1, ⟨hR.2.1.1, hR.2.1.2.1, hR.2.1.2.2.1, congrArg (fun f => vp_updL f x.toNatClampNeg z) hR.2.1.2.2.2⟩, hR.2.2⟩
  · have c2 : ¬ (ac_worOk x z) := fun h => c (e.mpr h)
    simp only [if_neg c, if_neg c2]
    exact hR
set_option maxRecDepth 100000 in
theorem lrA_rest {na nr na2 nr2 ln ln2 nt F9 : Nat} {fi : Nat → Int32} {fl : Nat → Int64} {ai : Nat → Nat → Int32} {al : Nat → Nat → Int64} {gi : Nat → Int32} {gl : Nat → Int64} {bi : Nat → Nat → Int32} {bl : Nat → Nat → Int64} (v : Int64) (z : Int64) (hk : ac_K na nr fi ai) (hk2 : rc_K na2 nr2 gi bi bl) (hR : lw_RA fi fl ai al gi gl bi bl) (hX : ln ≤ 10 ∧ fi 5 = nI ln ∧ ln2 ≤ 10 ∧ (gi 2 = nI ln2 ∨ gi 2 = -1) ∧ nt ≤ 10 ∧ gi 5 = nI nt ∧ 1048576 ≤ F9) : lw_RA (upd (upd fi 2 (if ac_rstOk v z (ac_place (ai 14) v.toInt32 nr 0) then if ac_place (ai 14) v.toInt32 nr 0 = nr then (fi 2) + 1 else (fi 2) else (fi 2))) 4 (if ac_rstOk v z (ac_place (ai 14) v.toInt32 nr 0) then 0 else (fi 4))) fl (va_up ai 14 (if ac_rstOk v z (ac_place (ai 14) v.toInt32 nr 0) then upd (ai 14) (ac_place (ai 14) v.toInt32 nr 0) v.toInt32 else (ai 14))) (va_up al 15 (if ac_rstOk v z (ac_place (ai 14) v.toInt32 nr 0) then vp_updL (al 15) (ac_place (ai 14) v.toInt32 nr 0) z else (al 15))) (upd (upd gi 1 (if rc_rstOk v z (rc_pl (bi 12) v nr2 0) then if rc_pl (bi 12) v nr2 0 = nr2 then (gi 1) + 1 else (gi 1) else (gi 1))) 3 (if rc_rstOk v z (rc_pl (bi 12) v nr2 0) then 0 else (gi 3))) gl (va_up bi 12 (if rc_rstOk v z (rc_pl (bi 12) v nr2 0) then upd (bi 12) (rc_pl (bi 12) v nr2 0) v.toInt32 else (bi 12))) (va_up bl 13 (if rc_rstOk v z (rc_pl (bi 12) v nr2 0) then vp_updL (bl 13) (rc_pl (bi 12) v nr2 0) z else (bl 13))) := by
  obtain rfl : nr = nr2 := (lw_na hk2.1.2.2.1 (by have := hk2.1.2.2.2.1; omega) hk.2.2.1 (by have := hk.2.2.2.1; omega) hR.1.2.1).symm
  have e : ac_rstOk v z (ac_place (ai 14) v.toInt32 nr 0) ↔ (rc_rstOk v z (rc_pl (bi 12) v nr 0)) := lw_rstOk hR.2.2.1.1 hk.2.2.2.1
  by_cases c : ac_rstOk v z (ac_place (ai 14) v.toInt32 nr 0)
  · have c2 := e.mp c
    simp only [if_pos c, if_pos c2]
    have ep : rc_pl (bi 12) v nr 0 = ac_place (ai 14) v.toInt32 nr 0 := by rw [hR.2.2.1.1]; exact lw_place c.1 c.2.1 _ _ _
    rw [ep]
    by_cases q : ac_place (ai 14) v.toInt32 nr 0 = nr
    · simp only [if_pos q]; exact ⟨⟨hR.1.1, congrArg (fun q : Int32 => q + 1) hR.1.2.1, hR.1.2.2⟩, hR.2.1, ⟨congrArg (fun f => upd f _ v.toInt32) hR.2.2.1.1, congrArg (fun f => vp_updL f _ z) hR.2.2.1.2⟩, hR.2.2.2⟩
    · simp only [if_neg q]; exact ⟨hR.1, hR.2.1, ⟨congrArg (fun f => upd f _ v.toInt32) hR.2.2.1.1, congrArg (fun f => vp_updL f _ z) hR.2.2.1.2⟩, hR.2.2.2⟩
  · have c2 : ¬ (rc_rstOk v z (rc_pl (bi 12) v nr 0)) := fun h => c (e.mpr h)
    simp only [if_neg c, if_neg c2]
    exact hR
set_option maxRecDepth 100000 in
theorem lrA_breaks {na nr na2 nr2 ln ln2 nt F9 : Nat} {fi : Nat → Int32} {fl : Nat → Int64} {ai : Nat → Nat → Int32} {al : Nat → Nat → Int64} {gi : Nat → Int32} {gl : Nat → Int64} {bi : Nat → Nat → Int32} {bl : Nat → Nat → Int64} (x : Int32) (hk : ac_K na nr fi ai) (hk2 : rc_K na2 nr2 gi bi bl) (hR : lw_RA fi fl ai al gi gl bi bl) (hX : ln ≤ 10 ∧ fi 5 = nI ln ∧ ln2 ≤ 10 ∧ (gi 2 = nI ln2 ∨ gi 2 = -1) ∧ nt ≤ 10 ∧ gi 5 = nI nt ∧ 1048576 ≤ F9) : lw_RA (upd (upd fi 1 (if ac_brkOk (fi 0) (fi 1) x then (fi 1) ||| ((1 : Int32) <<< (x &&& 31)) else (fi 1))) 4 (if ac_brkOk (fi 0) (fi 1) x then 0 else (fi 4))) fl ai al (upd gi 3 (if rc_brkOk (gi 0) (bi 5) x then 0 else (gi 3))) gl (va_up bi 5 (if rc_brkOk (gi 0) (bi 5) x then upd (bi 5) x.toNatClampNeg 1 else (bi 5))) bl := by
  have e : ac_brkOk (fi 0) (fi 1) x ↔ (rc_brkOk (gi 0) (bi 5) x) := (by rw [hR.1.1]; exact lw_brkOk hk.1 hk.2.1 hR.2.2.2.1 x)
  by_cases c : ac_brkOk (fi 0) (fi 1) x
  · have c2 := e.mp c
    simp only [if_pos c, if_pos c2]
    obtain ⟨a, ha, rfl⟩ := am_hasAct hk.1 (by have := hk.2.1; omega) c.1
    have hk10 := hk.2.1
    rw [nI_clamp (by omega)]
    exact ⟨hR.1, hR.2.1, hR.2.2.1, lw_brkUp hR.2.2.2.1 (by omega), hR.2.2.2.2⟩
  · have c2 : ¬ (rc_brkOk (gi 0) (bi 5) x) := fun h => c (e.mpr h)
    simp only [if_neg c, if_neg c2]
    exact hR
set_option maxRecDepth 100000 in
theorem lrA_sure {na nr na2 nr2 ln ln2 nt F9 : Nat} {fi : Nat → Int32} {fl : Nat → Int64} {ai : Nat → Nat → Int32} {al : Nat → Nat → Int64} {gi : Nat → Int32} {gl : Nat → Int64} {bi : Nat → Nat → Int32} {bl : Nat → Nat → Int64} (x : Int32) (u : Int64) (v : Int64) (hk : ac_K na nr fi ai) (hk2 : rc_K na2 nr2 gi bi bl) (hR : lw_RA fi fl ai al gi gl bi bl) (hX : ln ≤ 10 ∧ fi 5 = nI ln ∧ ln2 ≤ 10 ∧ (gi 2 = nI ln2 ∨ gi 2 = -1) ∧ nt ≤ 10 ∧ gi 5 = nI nt ∧ 1048576 ≤ F9) : lw_RA (upd fi 4 (if ac_surOk x u v then 0 else (fi 4))) fl ai (va_up al 13 (if ac_surOk x u v then vp_updL (al 13) x.toNatClampNeg (27720 / v * u) else (al 13))) (upd gi 3 (if ac_surOk x u v then 0 else (gi 3))) gl (va_up (va_up bi 10 (if ac_surOk x u v then upd (bi 10) x.toNatClampNeg u.toInt32 else (bi 10))) 11 (if ac_surOk x u v then upd (bi 11) x.toNatClampNeg v.toInt32 else (bi 11))) bl := by
  have e : ac_surOk x u v ↔ (ac_surOk x u v) := Iff.rfl
  by_cases c : ac_surOk x u v
  · have c2 := e.mp c
    simp only [if_pos c, if_pos c2]
    obtain ⟨⟨u0, u1⟩, v0, v1⟩ := lw_surR c
    refine ⟨hR.1, hR.2.1, hR.2.2.1, hR.2.2.2.1, fun p hp => ?_⟩
    show vp_updL (al 13) x.toNatClampNeg (27720 / v * u) p = 27720 / (upd (bi 11) x.toNatClampNeg v.toInt32 p).toInt64 * (upd (bi 10) x.toNatClampNeg u.toInt32 p).toInt64
    by_cases q : p = x.toNatClampNeg
    · subst q; rw [am_updL_s, show upd (bi 11) x.toNatClampNeg v.toInt32 x.toNatClampNeg = v.toInt32 from if_pos rfl, show upd (bi 10) x.toNatClampNeg u.toInt32 x.toNatClampNeg = u.toInt32 from if_pos rfl, lw_toI u0 u1, lw_toI (by omega) v1]
    · rw [am_updL_n q, show upd (bi 11) x.toNatClampNeg v.toInt32 p = bi 11 p from if_neg q, show upd (bi 10) x.toNatClampNeg u.toInt32 p = bi 10 p from if_neg q]; exact hR.2.2.2.2 p hp
  · have c2 : ¬ (ac_surOk x u v) := fun h => c (e.mpr h)
    simp only [if_neg c, if_neg c2]
    exact hR
set_option maxRecDepth 100000 in
theorem lrA_run {na nr na2 nr2 ln ln2 nt F9 : Nat} {fi : Nat → Int32} {fl : Nat → Int64} {ai : Nat → Nat → Int32} {al : Nat → Nat → Int64} {gi : Nat → Int32} {gl : Nat → Int64} {bi : Nat → Nat → Int32} {bl : Nat → Nat → Int64} (z : Int64) (hk : ac_K na nr fi ai) (hk2 : rc_K na2 nr2 gi bi bl) (hR : lw_RA fi fl ai al gi gl bi bl) (hX : ln ≤ 10 ∧ fi 5 = nI ln ∧ ln2 ≤ 10 ∧ (gi 2 = nI ln2 ∨ gi 2 = -1) ∧ nt ≤ 10 ∧ gi 5 = nI nt ∧ 1048576 ≤ F9) : lw_RA (upd (upd (upd (upd (upd fi 3 (if ac_count (ai 9) na (2 ^ na - 1) ≤ z then 1 else (fi 3))) 4 (if ac_count (ai 9) na (2 ^ na - 1) ≤ z then 1 else (fi 4))) 5 (if ac_count (ai 9) na (2 ^ na - 1) ≤ z then (nI (ac_rk fi ai (va_up (va_up (va_up al 16 (ac_vals (al 12) (al 13) (al 16) 12)) 17 (ac_rs ai (va_up al 16 (ac_vals (al 12) (al 13) (al 16) 12)) na)) 18 (ac_rd fi ai (va_up al 16 (ac_vals (al 12) (al 13) (al 16) 12)) na nr)) na nr).2.1) else (fi 5))) 6 (if ac_count (ai 9) na (2 ^ na - 1) ≤ z then (nI (ac_rk fi ai (va_up (va_up (va_up al 16 (ac_vals (al 12) (al 13) (al 16) 12)) 17 (ac_rs ai (va_up al 16 (ac_vals (al 12) (al 13) (al 16) 12)) na)) 18 (ac_rd fi ai (va_up al 16 (ac_vals (al 12) (al 13) (al 16) 12)) na nr)) na nr).2.2) else (fi 6))) 7 (if ac_count (ai 9) na (2 ^ na - 1) ≤ z then (ac_freed (ai 5) (nI (ac_rk fi ai (va_up (va_up (va_up al 16 (ac_vals (al 12) (al 13) (al 16) 12)) 17 (ac_rs ai (va_up al 16 (ac_vals (al 12) (al 13) (al 16) 12)) na)) 18 (ac_rd fi ai (va_up al 16 (ac_vals (al 12) (al 13) (al 16) 12)) na nr)) na nr).2.2) na) else (fi 7))) (vp_updL fl 0 (if ac_count (ai 9) na (2 ^ na - 1) ≤ z then (ac_rg fi ai (va_up al 16 (ac_vals (al 12) (al 13) (al 16) 12)) na nr) else (fl 0))) (va_up ai 19 (if ac_count (ai 9) na (2 ^ na - 1) ≤ z then ((ac_rk fi ai (va_up (va_up (va_up al 16 (ac_vals (al 12) (al 13) (al 16) 12)) 17 (ac_rs ai (va_up al 16 (ac_vals (al 12) (al 13) (al 16) 12)) na)) 18 (ac_rd fi ai (va_up al 16 (ac_vals (al 12) (al 13) (al 16) 12)) na nr)) na nr).1) else (ai 19))) (va_up (va_up (va_up (va_up al 16 (if ac_count (ai 9) na (2 ^ na - 1) ≤ z then (ac_vals (al 12) (al 13) (al 16) 12) else (al 16))) 17 (if ac_count (ai 9) na (2 ^ na - 1) ≤ z then (ac_rs ai (va_up al 16 (ac_vals (al 12) (al 13) (al 16) 12)) na) else (al 17))) 18 (if ac_count (ai 9) na (2 ^ na - 1) ≤ z then (ac_rd fi ai (va_up al 16 (ac_vals (al 12) (al 13) (al 16) 12)) na nr) else (al 18))) 20 (if ac_count (ai 9) na (2 ^ na - 1) ≤ z then (ac_rb fi ai (va_up (va_up (va_up al 16 (ac_vals (al 12) (al 13) (al 16) 12)) 17 (ac_rs ai (va_up al 16 (ac_vals (al 12) (al 13) (al 16) 12)) na)) 18 (ac_rd fi ai (va_up al 16 (ac_vals (al 12) (al 13) (al 16) 12)) na nr)) na (nI (ac_rk fi ai (va_up (va_up (va_up al 16 (ac_vals (al 12) (al 13) (al 16) 12)) 17 (ac_rs ai (va_up al 16 (ac_vals (al 12) (al 13) (al 16) 12)) na)) 18 (ac_rd fi ai (va_up al 16 (ac_vals (al 12) (al 13) (al 16) 12)) na nr)) na nr).2.2)) else (al 20))) (upd (upd (upd (upd gi 2 (if rc_runOk (rc_st (bi 6) na2 (2 ^ na2 - 1)) z then nI (rc_runQ bi bl (gi 7) (gi 8) na2 nr2 F9).2.1 else (gi 2))) 3 (if rc_runOk (rc_st (bi 6) na2 (2 ^ na2 - 1)) z then 1 else (gi 3))) 4 (if rc_runOk (rc_st (bi 6) na2 (2 ^ na2 - 1)) z then rc_rest (bi 1) (nI (rc_runQ bi bl (gi 7) (gi 8) na2 nr2 F9).1) na2 else (gi 4))) 5 (if rc_runOk (rc_st (bi 6) na2 (2 ^ na2 - 1)) z then (gi 0) else (gi 5))) (vp_updL gl 0 (if rc_runOk (rc_st (bi 6) na2 (2 ^ na2 - 1)) z then (rc_bwQ bi bl (gi 7) (gi 8) na2 nr2).1 else (gl 0))) (va_up (va_up bi 14 (if rc_runOk (rc_st (bi 6) na2 (2 ^ na2 - 1)) z then (rc_runQ bi bl (gi 7) (gi 8) na2 nr2 F9).2.2.1 else (bi 14))) 17 (if rc_runOk (rc_st (bi 6) na2 (2 ^ na2 - 1)) z then rc_bwN bi na2 else (bi 17))) (va_up (va_up (va_up bl 15 (if rc_runOk (rc_st (bi 6) na2 (2 ^ na2 - 1)) z then rc_bro (rc_brings (bi 1) (bi 5) (bi 10) (bi 11) (bl 9) (gi 7) (gi 8) na2 (nI (rc_runQ bi bl (gi 7) (gi 8) na2 nr2 F9).1)) (bl 15) 12 else (bl 15))) 18 (if rc_runOk (rc_st (bi 6) na2 (2 ^ na2 - 1)) z then (rc_runQ bi bl (gi 7) (gi 8) na2 nr2 F9).2.2.2 else (bl 18))) 19 (if rc_runOk (rc_st (bi 6) na2 (2 ^ na2 - 1)) z then rc_bwV bi bl (gi 7) (gi 8) na2 nr2 else (bl 19))) := by
  exact hR
set_option maxRecDepth 100000 in
theorem lrA_test {na nr na2 nr2 ln ln2 nt F9 : Nat} {fi : Nat → Int32} {fl : Nat → Int64} {ai : Nat → Nat → Int32} {al : Nat → Nat → Int64} {gi : Nat → Int32} {gl : Nat → Int64} {bi : Nat → Nat → Int32} {bl : Nat → Nat → Int64} (x : Int32) (z : Int64) (hk : ac_K na nr fi ai) (hk2 : rc_K na2 nr2 gi bi bl) (hR : lw_RA fi fl ai al gi gl bi bl) (hX : ln ≤ 10 ∧ fi 5 = nI ln ∧ ln2 ≤ 10 ∧ (gi 2 = nI ln2 ∨ gi 2 = -1) ∧ nt ≤ 10 ∧ gi 5 = nI nt ∧ 1048576 ≤ F9) : lw_RA fi fl ai (va_up (va_up (va_up al 16 (if ac_tstOk x z then (vp_updL (vp_updL (ac_vals (al 12) (al 13) (al 16) 12) x.toNatClampNeg ((al 12) x.toNatClampNeg * 27720)) x.toNatClampNeg ((al 12) x.toNatClampNeg * 0)) else (al 16))) 17 (if ac_tstOk x z then (ac_rs ai (va_up (va_up (va_up al 16 (vp_updL (vp_updL (ac_vals (al 12) (al 13) (al 16) 12) x.toNatClampNeg ((al 12) x.toNatClampNeg * 27720)) x.toNatClampNeg ((al 12) x.toNatClampNeg * 0))) 17 (ac_rs ai (va_up (va_up (va_up al 16 (vp_updL (ac_vals (al 12) (al 13) (al 16) 12) x.toNatClampNeg ((al 12) x.toNatClampNeg * 27720))) 17 (ac_rs ai (va_up al 16 (ac_vals (al 12) (al 13) (al 16) 12)) na)) 18 (ac_rd fi ai (va_up al 16 (ac_vals (al 12) (al 13) (al 16) 12)) na nr)) na)) 18 (ac_rd fi ai (va_up (va_up (va_up al 16 (vp_updL (ac_vals (al 12) (al 13) (al 16) 12) x.toNatClampNeg ((al 12) x.toNatClampNeg * 27720))) 17 (ac_rs ai (va_up al 16 (ac_vals (al 12) (al 13) (al 16) 12)) na)) 18 (ac_rd fi ai (va_up al 16 (ac_vals (al 12) (al 13) (al 16) 12)) na nr)) na nr)) na) else (al 17))) 18 (if ac_tstOk x z then (ac_rd fi ai (va_up (va_up (va_up al 16 (vp_updL (vp_updL (ac_vals (al 12) (al 13) (al 16) 12) x.toNatClampNeg ((al 12) x.toNatClampNeg * 27720)) x.toNatClampNeg ((al 12) x.toNatClampNeg * 0))) 17 (ac_rs ai (va_up (va_up (va_up al 16 (vp_updL (ac_vals (al 12) (al 13) (al 16) 12) x.toNatClampNeg ((al 12) x.toNatClampNeg * 27720))) 17 (ac_rs ai (va_up al 16 (ac_vals (al 12) (al 13) (al 16) 12)) na)) 18 (ac_rd fi ai (va_up al 16 (ac_vals (al 12) (al 13) (al 16) 12)) na nr)) na)) 18 (ac_rd fi ai (va_up (va_up (va_up al 16 (vp_updL (ac_vals (al 12) (al 13) (al 16) 12) x.toNatClampNeg ((al 12) x.toNatClampNeg * 27720))) 17 (ac_rs ai (va_up al 16 (ac_vals (al 12) (al 13) (al 16) 12)) na)) 18 (ac_rd fi ai (va_up al 16 (ac_vals (al 12) (al 13) (al 16) 12)) na nr)) na nr)) na nr) else (al 18))) (upd (upd gi 7 (if ac_tstOk x z then (-1) else (gi 7))) 8 (if ac_tstOk x z then 0 else (gi 8))) gl (va_up bi 17 (if ac_tstOk x z then (rc_bwA (rc_bwA (rc_bwA bi na2) na2) na2) 17 else (bi 17))) (va_up (va_up bl 18 (if ac_tstOk x z then (rc_bwL (rc_bwA (rc_bwA bi na2) na2) (rc_bwL (rc_bwA bi na2) (rc_bwL bi bl (-1) 0 na2 nr2) x 1 na2 nr2) x 0 na2 nr2) 18 else (bl 18))) 19 (if ac_tstOk x z then (rc_bwL (rc_bwA (rc_bwA bi na2) na2) (rc_bwL (rc_bwA bi na2) (rc_bwL bi bl (-1) 0 na2 nr2) x 1 na2 nr2) x 0 na2 nr2) 19 else (bl 19))) := by
  exact hR
set_option maxRecDepth 100000 in
theorem lrA_stations {na nr na2 nr2 ln ln2 nt F9 : Nat} {fi : Nat → Int32} {fl : Nat → Int64} {ai : Nat → Nat → Int32} {al : Nat → Nat → Int64} {gi : Nat → Int32} {gl : Nat → Int64} {bi : Nat → Nat → Int32} {bl : Nat → Nat → Int64} (x : Int32) (hk : ac_K na nr fi ai) (hk2 : rc_K na2 nr2 gi bi bl) (hR : lw_RA fi fl ai al gi gl bi bl) (hX : ln ≤ 10 ∧ fi 5 = nI ln ∧ ln2 ≤ 10 ∧ (gi 2 = nI ln2 ∨ gi 2 = -1) ∧ nt ≤ 10 ∧ gi 5 = nI nt ∧ 1048576 ≤ F9) : lw_RA (upd (upd fi 8 (if ac_stOk (fi 3) x then (fi 6) else (fi 8))) 9 (if ac_stOk (fi 3) x then (nI x.toNatClampNeg) else (fi 9))) (vp_updL (vp_updL fl 1 (if ac_stOk (fi 3) x then ((ac_try (al 8) (ai 9) (fi 6) (nI x.toNatClampNeg) (ac_least (al 8) (fi 6) (nI x.toNatClampNeg) na) na na 0 0 ((ai 21), (ai 22), (ac_fillL 0 (al 23) 4), (ac_tot (al 8) (fi 6) na + 1))).2.2.2) else (fl 1))) 2 (if ac_stOk (fi 3) x then (ac_least (al 8) (fi 6) (nI x.toNatClampNeg) na) else (fl 2))) (va_up (va_up ai 21 (if ac_stOk (fi 3) x then ((ac_try (al 8) (ai 9) (fi 6) (nI x.toNatClampNeg) (ac_least (al 8) (fi 6) (nI x.toNatClampNeg) na) na na 0 0 ((ai 21), (ai 22), (ac_fillL 0 (al 23) 4), (ac_tot (al 8) (fi 6) na + 1))).1) else (ai 21))) 22 (if ac_stOk (fi 3) x then ((ac_try (al 8) (ai 9) (fi 6) (nI x.toNatClampNeg) (ac_least (al 8) (fi 6) (nI x.toNatClampNeg) na) na na 0 0 ((ai 21), (ai 22), (ac_fillL 0 (al 23) 4), (ac_tot (al 8) (fi 6) na + 1))).2.1) else (ai 22))) (va_up al 23 (if ac_stOk (fi 3) x then ((ac_try (al 8) (ai 9) (fi 6) (nI x.toNatClampNeg) (ac_least (al 8) (fi 6) (nI x.toNatClampNeg) na) na na 0 0 ((ai 21), (ai 22), (ac_fillL 0 (al 23) 4), (ac_tot (al 8) (fi 6) na + 1))).2.2.1) else (al 23))) (upd gi 6 (if rc_stOk (gi 2) x then 1 else (gi 6))) gl (va_up (va_up (va_up bi 16 (if rc_stOk (gi 2) x then (rc_sR bi (bl 4) (gi 2) na2 (x.toNatClampNeg) F9).2.2 else (bi 16))) 20 (if rc_stOk (gi 2) x then (rc_sR bi (bl 4) (gi 2) na2 (x.toNatClampNeg) F9).2.1 else (bi 20))) 21 (if rc_stOk (gi 2) x then rc_sB bi na2 else (bi 21))) bl := by
  exact hR
-- ===== bound: the same number both ways =====
theorem lw_be {be : Int32} (h : 1 ≤ be.toInt ∧ be.toInt ≤ 12) : be = 1 ∨ be = 2 ∨ be = 3 ∨ be = 4 ∨ be = 5 ∨ be = 6 ∨ be = 7 ∨ be = 8 ∨ be = 9 ∨ be = 10 ∨ be = 11 ∨ be = 12 := by
  have e : ∀ k : Int32, be = k ↔ be.toInt = k.toInt := fun k => Int32.toInt_inj.symm
  simp only [e]
  have d : (1 : Int32).toInt = 1 ∧ (2 : Int32).toInt = 2 ∧ (3 : Int32).toInt = 3 ∧ (4 : Int32).toInt = 4 ∧ (5 : Int32).toInt = 5 ∧ (6 : Int32).toInt = 6 ∧ (7 : Int32).toInt = 7 ∧ (8 : Int32).toInt = 8 ∧ (9 : Int32).toInt = 9 ∧ (10 : Int32).toInt = 10 ∧ (11 : Int32).toInt = 11 ∧ (12 : Int32).toInt = 12 := by decide +kernel
  obtain ⟨d1, d2, d3, d4, d5, d6, d7, d8, d9, d10, d11, d12⟩ := d
  rw [d1, d2, d3, d4, d5, d6, d7, d8, d9, d10, d11, d12]
  omega
/-- a divisor of 27720, and what it leaves -/
theorem lw_q {be : Int32} (h : 1 ≤ be.toInt ∧ be.toInt ≤ 12) : ∃ q : Int, (27720 / be.toInt64).toInt = q ∧ q * be.toInt = 27720 ∧ 2310 ≤ q ∧ q ≤ 27720 := by
  rcases lw_be h with rfl | rfl | rfl | rfl | rfl | rfl | rfl | rfl | rfl | rfl | rfl | rfl
  all_goals exact ⟨_, rfl, by decide +kernel, by decide +kernel, by decide +kernel⟩
theorem lw_mulb {x y : Int} (hx : -27720000000 ≤ x ∧ x ≤ 27720000000) (hy : 0 ≤ y ∧ y ≤ 12) : -400000000000 ≤ x * y ∧ x * y ≤ 400000000000 := by
  have : y = 0 ∨ y = 1 ∨ y = 2 ∨ y = 3 ∨ y = 4 ∨ y = 5 ∨ y = 6 ∨ y = 7 ∨ y = 8 ∨ y = 9 ∨ y = 10 ∨ y = 11 ∨ y = 12 := by omega
  rcases this with rfl | rfl | rfl | rfl | rfl | rfl | rfl | rfl | rfl | rfl | rfl | rfl | rfl <;> omega
theorem lw_qw {q w : Int} (hq : 2310 ≤ q ∧ q ≤ 27720) (hw : -1000000 ≤ w ∧ w ≤ 1000000) : -27720000000 ≤ q * w ∧ q * w ≤ 27720000000 := by
  rcases Int.le_total 0 w with h | h
  · have h1 : q * w ≤ 27720 * w := Int.mul_le_mul_of_nonneg_right hq.2 h
    have h2 : 0 ≤ q * w := Int.mul_nonneg (by omega) h
    omega
  · have h1 : 27720 * w ≤ q * w := Int.mul_le_mul_of_nonpos_right hq.2 h
    have h2 : q * w ≤ 0 := Int.mul_nonpos_of_nonneg_of_nonpos (by omega) h
    omega
/-- a part's value: the class multiplies by the share, the reference divides first -/
theorem lw_val {w : Int64} {ab be : Int32} (hw : rc_wor w) (ha : 0 ≤ ab.toInt ∧ ab.toInt ≤ 12) (hb : 1 ≤ be.toInt ∧ be.toInt ≤ 12) :
    ∃ q : Int, 2310 ≤ q ∧ q ≤ 27720 ∧ (w * (27720 / be.toInt64 * ab.toInt64)).toInt = w.toInt * (q * ab.toInt) ∧ (27720 * w / be.toInt64 * ab.toInt64).toInt = w.toInt * (q * ab.toInt) := by
  obtain ⟨q, hq, hq1, hq2, hq3⟩ := lw_q hb
  have ea : ab.toInt64.toInt = ab.toInt := Int32.toInt_toInt64 _
  have eb : be.toInt64.toInt = be.toInt := Int32.toInt_toInt64 _
  have hqa := lw_mulb (x := q) (by omega) ha
  have hqw := lw_qw (q := q) (w := w.toInt) ⟨hq2, hq3⟩ hw
  have hall := lw_mulb hqw ha
  have hcomm : w.toInt * (q * ab.toInt) = q * w.toInt * ab.toInt := by rw [← Int.mul_assoc, Int.mul_comm w.toInt q]
  refine ⟨q, hq2, hq3, ?_, ?_⟩
  · have e1 : (27720 / be.toInt64 * ab.toInt64).toInt = q * ab.toInt := by rw [i64_mul (by rw [hq, ea]; omega) (by rw [hq, ea]; omega), hq, ea]
    rw [i64_mul (by rw [e1, hcomm]; omega) (by rw [e1, hcomm]; omega), e1]
  · have eu := i64_unit (b := w) (by omega)
    have e2 : (27720 * w / be.toInt64).toInt = q * w.toInt := by
      rw [Int64.toInt_div, eu, eb, show (27720 : Int) * w.toInt = q * w.toInt * be.toInt by rw [← hq1, Int.mul_assoc, Int.mul_comm be.toInt w.toInt, ← Int.mul_assoc], Int.mul_tdiv_cancel _ (by omega)]
      exact Int.bmod_eq_of_le (by omega) (by omega)
    rw [i64_mul (by rw [e2, ea]; omega) (by rw [e2, ea]; omega), e2, ea, hcomm]
theorem lw_valE {w : Int64} {ab be : Int32} (hw : rc_wor w) (ha : 0 ≤ ab.toInt ∧ ab.toInt ≤ 12) (hb : 1 ≤ be.toInt ∧ be.toInt ≤ 12) : w * (27720 / be.toInt64 * ab.toInt64) = 27720 * w / be.toInt64 * ab.toInt64 := by
  obtain ⟨q, _, _, h1, h2⟩ := lw_val hw ha hb
  exact Int64.toInt_inj.mp (h1.trans h2.symm)
theorem lw_bd1 {w : Int64} {ab be : Int32} (hw : rc_wor w) (ha : 0 ≤ ab.toInt ∧ ab.toInt ≤ 12) (hb : 1 ≤ be.toInt ∧ be.toInt ≤ 12) : ac_max 0 (w * (27720 / be.toInt64 * ab.toInt64)) = if w ≤ 0 then 0 else 27720 * w / be.toInt64 * ab.toInt64 := by
  obtain ⟨q, hq1, hq2, h1, h2⟩ := lw_val hw ha hb
  have e0 : (0 : Int64).toInt = 0 := by decide +kernel
  have hqa : 0 ≤ q * ab.toInt := Int.mul_nonneg (by omega) ha.1
  unfold ac_max
  by_cases c : w ≤ 0
  · rw [if_pos c]
    have hc : w.toInt ≤ 0 := by have := Int64.le_iff_toInt_le.mp c; rw [e0] at this; exact this
    have hn : w.toInt * (q * ab.toInt) ≤ 0 := Int.mul_nonpos_of_nonpos_of_nonneg hc hqa
    by_cases d : w * (27720 / be.toInt64 * ab.toInt64) < 0
    · rw [if_pos d]
    · rw [if_neg d]
      refine Int64.toInt_inj.mp ?_
      have : ¬ (w * (27720 / be.toInt64 * ab.toInt64)).toInt < 0 := fun z => d (Int64.lt_iff_toInt_lt.mpr (by rw [e0]; exact z))
      rw [e0]; omega
  · rw [if_neg c]
    have hc : 0 < w.toInt := by
      refine Int.not_le.mp (fun z => c (Int64.le_iff_toInt_le.mpr (by rw [e0]; exact z)))
    have hn : 0 ≤ w.toInt * (q * ab.toInt) := Int.mul_nonneg (by omega) hqa
    rw [if_neg (fun z => by have := Int64.lt_iff_toInt_lt.mp z; rw [e0] at this; omega), lw_valE hw ha hb]
theorem lw_bnd2 {wo sh : Nat → Int64} {ab be : Nat → Int32} (hw : ∀ p, rc_wor (wo p)) (ha : ∀ p, 0 ≤ (ab p).toInt ∧ (ab p).toInt ≤ 12) (hb : ∀ p, p < 12 → 1 ≤ (be p).toInt ∧ (be p).toInt ≤ 12) (hs : ∀ p, p < 12 → sh p = 27720 / (be p).toInt64 * (ab p).toInt64) (b0 : Int64) : ∀ k, k ≤ 12 → ac_bnd2 wo sh b0 k = rc_bd1 wo ab be k + b0
  | 0, _ => (Int64.zero_add b0).symm
  | k + 1, hk => by
    rw [ac_bnd2, rc_bd1, lw_bnd2 hw ha hb hs b0 k (by omega), hs k (by omega), lw_bd1 (hw k) (ha k) (hb k (by omega))]
    rw [Int64.add_assoc, Int64.add_assoc, Int64.add_comm b0]
theorem lw_bnd1 {rc : Nat → Int64} (hr : ∀ k, rc_wor (rc k)) : ∀ k, ac_bnd1 rc k = 27720 * rc_bd2 rc k ∧ rc_cents (rc_bd2 rc k)
  | 0 => by
    have e0 : (0 : Int64).toInt = 0 := by decide +kernel
    exact ⟨(by decide +kernel : (0 : Int64) = 27720 * 0), by show 0 ≤ (0 : Int64).toInt ∧ (0 : Int64).toInt ≤ 1000000; omega⟩
  | k + 1 => by
    obtain ⟨h1, h2⟩ := lw_bnd1 hr k
    have hk := hr k
    rw [ac_bnd1, h1, rc_bd2]
    have eu := i64_unit (b := rc_bd2 rc k) (by omega)
    have ev := i64_unit (b := rc k) (by omega)
    generalize rc_bd2 rc k = m at h2 eu ⊢
    rw [Int64.mul_comm (rc k) 27720]
    unfold ac_max
    by_cases c : rc k ≤ m
    · rw [if_pos c]
      refine ⟨?_, h2⟩
      have hc := Int64.le_iff_toInt_le.mp c
      by_cases d : 27720 * rc k < 27720 * m
      · rw [if_pos d]
      · rw [if_neg d]
        refine Int64.toInt_inj.mp ?_
        have : ¬ (27720 * rc k).toInt < (27720 * m).toInt := fun z => d (Int64.lt_iff_toInt_lt.mpr z)
        omega
    · rw [if_neg c]
      have hc : m.toInt < (rc k).toInt := Int.not_le.mp (fun z => c (Int64.le_iff_toInt_le.mpr z))
      refine ⟨?_, by show 0 ≤ (rc k).toInt ∧ (rc k).toInt ≤ 1000000; omega⟩
      rw [if_neg (fun z => by have := Int64.lt_iff_toInt_lt.mp z; omega)]
-- ===== paths, and what leadsTo answers =====
def nd_P (E : Nat → Nat → Prop) : Nat → Nat → Nat → Prop
  | 0, a, b => a = b
  | k + 1, a, b => ∃ c, E a c ∧ nd_P E k c b
def nd_T (E : Nat → Nat → Prop) (a b : Nat) : Prop := ∃ k, nd_P E (k + 1) a b
def nd_H (E : Nat → Nat → Prop) (a b : Nat) : Prop := a = b ∨ nd_T E a b
theorem nd_P_app {E : Nat → Nat → Prop} : ∀ k l a b c, nd_P E k a b → nd_P E l b c → nd_P E (k + l) a c
  | 0, l, a, b, c, h, g => by
    have h : a = b := h
    rw [h, Nat.zero_add]; exact g
  | k + 1, l, a, b, c, ⟨d, h1, h2⟩, g => by
    rw [show k + 1 + l = (k + l) + 1 by omega]
    exact ⟨d, h1, nd_P_app k l d b c h2 g⟩
theorem nd_P_last {E : Nat → Nat → Prop} : ∀ k a c, nd_P E (k + 1) a c → ∃ b, nd_P E k a b ∧ E b c
  | 0, a, c, ⟨d, h1, h2⟩ => by
    have h2 : d = c := h2
    subst h2; exact ⟨a, rfl, h1⟩
  | k + 1, a, c, ⟨d, h1, h2⟩ => by
    obtain ⟨b, h3, h4⟩ := nd_P_last k d c h2
    exact ⟨b, ⟨d, h1, h3⟩, h4⟩
theorem nd_T_1 {E : Nat → Nat → Prop} {a b : Nat} (h : E a b) : nd_T E a b := ⟨0, b, h, rfl⟩
theorem nd_T_tr {E : Nat → Nat → Prop} {a b c : Nat} (h : nd_T E a b) (g : nd_T E b c) : nd_T E a c := by
  obtain ⟨k, h⟩ := h
  obtain ⟨l, g⟩ := g
  exact ⟨k + l + 1, by
    have := nd_P_app (k + 1) (l + 1) a b c h g
    rw [show k + l + 1 + 1 = k + 1 + (l + 1) by omega]; exact this⟩
theorem nd_T_h {E : Nat → Nat → Prop} {a b c : Nat} (h : nd_T E a b) (g : nd_H E b c) : nd_T E a c := by
  rcases g with rfl | g
  · exact h
  · exact nd_T_tr h g
theorem nd_H_t {E : Nat → Nat → Prop} {a b c : Nat} (h : nd_H E a b) (g : nd_T E b c) : nd_T E a c := by
  rcases h with rfl | h
  · exact g
  · exact nd_T_tr h g
theorem nd_H_tr {E : Nat → Nat → Prop} {a b c : Nat} (h : nd_H E a b) (g : nd_H E b c) : nd_H E a c := by
  rcases h with rfl | h
  · exact g
  · exact Or.inr (nd_T_h h g)
theorem nd_H_P {E : Nat → Nat → Prop} {a b : Nat} : nd_H E a b ↔ ∃ k, nd_P E k a b := by
  constructor
  · rintro (rfl | ⟨k, h⟩)
    · exact ⟨0, rfl⟩
    · exact ⟨k + 1, h⟩
  · rintro ⟨k, h⟩
    cases k with
    | zero => exact Or.inl h
    | succ k => exact Or.inr ⟨k, h⟩
/-- the last step of a path that is no empty one -/
theorem nd_T_last {E : Nat → Nat → Prop} {a c : Nat} (h : nd_T E a c) : ∃ b, nd_H E a b ∧ E b c := by
  obtain ⟨k, h⟩ := h
  obtain ⟨b, h1, h2⟩ := nd_P_last k a c h
  exact ⟨b, nd_H_P.mpr ⟨k, h1⟩, h2⟩
theorem nd_T_first {E : Nat → Nat → Prop} {a c : Nat} (h : nd_T E a c) : ∃ b, E a b ∧ nd_H E b c := by
  obtain ⟨k, b, h1, h2⟩ := h
  exact ⟨b, h1, nd_H_P.mpr ⟨k, h2⟩⟩
/-- a new edge b -> a -/
theorem nd_add {E E' : Nat → Nat → Prop} {a b : Nat} (hE : ∀ x y, E' x y ↔ E x y ∨ (x = b ∧ y = a)) (k c : Nat) : nd_T E' k c ↔ nd_T E k c ∨ (nd_H E k b ∧ nd_H E a c) := by
  have L : ∀ m k c, nd_P E' m k c → nd_H E k c ∨ (nd_H E k b ∧ nd_H E a c) := by
    intro m
    induction m with
    | zero => intro k c h; exact Or.inl (Or.inl h)
    | succ m ih =>
      intro k c ⟨d, h1, h2⟩
      rcases (hE k d).mp h1 with h | ⟨rfl, rfl⟩
      · rcases ih d c h2 with g | ⟨g1, g2⟩
        · exact Or.inl (Or.inr (nd_T_h (nd_T_1 h) g))
        · exact Or.inr ⟨Or.inr (nd_T_h (nd_T_1 h) g1), g2⟩
      · rcases ih d c h2 with g | ⟨g1, g2⟩
        · exact Or.inr ⟨Or.inl rfl, g⟩
        · exact Or.inr ⟨Or.inl rfl, g2⟩
  have up : ∀ m x y, nd_P E m x y → nd_P E' m x y := by
    intro m
    induction m with
    | zero => intro x y h; exact h
    | succ m ih => intro x y ⟨d, h1, h2⟩; exact ⟨d, (hE x d).mpr (Or.inl h1), ih d y h2⟩
  have upT : ∀ x y, nd_T E x y → nd_T E' x y := fun x y ⟨m, h⟩ => ⟨m, up _ x y h⟩
  have upH : ∀ x y, nd_H E x y → nd_H E' x y := fun x y h => h.imp id (upT x y)
  constructor
  · rintro ⟨m, d, h1, h2⟩
    rcases (hE k d).mp h1 with h | ⟨rfl, rfl⟩
    · rcases L m d c h2 with g | ⟨g1, g2⟩
      · exact Or.inl (nd_T_h (nd_T_1 h) g)
      · exact Or.inr ⟨Or.inr (nd_T_h (nd_T_1 h) g1), g2⟩
    · rcases L m d c h2 with g | ⟨g1, g2⟩
      · exact Or.inr ⟨Or.inl rfl, g⟩
      · exact Or.inr ⟨Or.inl rfl, g2⟩
  · rintro (h | ⟨h1, h2⟩)
    · exact upT k c h
    · exact nd_H_t (upH k b h1) (nd_T_h (nd_T_1 ((hE b a).mpr (Or.inr ⟨rfl, rfl⟩))) (upH a c h2))
-- counting bits
def nd_c (f : Nat → Bool) : Nat → Nat
  | 0 => 0
  | k + 1 => nd_c f k + (if f k = true then 1 else 0)
theorem nd_c_le (f : Nat → Bool) : ∀ k, nd_c f k ≤ k
  | 0 => Nat.le_refl 0
  | k + 1 => by
    have := nd_c_le f k
    rw [nd_c]
    split <;> omega
theorem nd_c_mono {f g : Nat → Bool} : ∀ k, (∀ i, i < k → f i = true → g i = true) → nd_c f k ≤ nd_c g k ∧ (nd_c f k = nd_c g k → ∀ i, i < k → g i = true → f i = true)
  | 0, _ => ⟨Nat.le_refl 0, fun _ i hi => by omega⟩
  | k + 1, h => by
    obtain ⟨i1, i2⟩ := nd_c_mono k (fun i hi => h i (by omega))
    have hk := h k (by omega)
    rw [nd_c, nd_c]
    by_cases c : f k = true
    · rw [if_pos c, if_pos (hk c)]
      refine ⟨by omega, fun e i hi hg => ?_⟩
      by_cases q : i = k
      · rw [q]; exact c
      · exact i2 (by omega) i (by omega) hg
    · rw [if_neg c]
      by_cases d : g k = true
      · rw [if_pos d]
        exact ⟨by omega, fun e => by omega⟩
      · rw [if_neg d]
        refine ⟨by omega, fun e i hi hg => ?_⟩
        by_cases q : i = k
        · rw [q] at hg; exact absurd hg d
        · exact i2 (by omega) i (by omega) hg
theorem nd_c_pos {f : Nat → Bool} {a : Nat} (h : f a = true) : ∀ k, a < k → 1 ≤ nd_c f k
  | 0, hk => by omega
  | k + 1, hk => by
    rw [nd_c]
    by_cases q : a = k
    · rw [← q, if_pos h]; omega
    · have := nd_c_pos h k (by omega); omega
-- the reference's sweeps
theorem ly_bt (nds : Nat → Int32) {x : Nat} (hx : x < 32) (s : Int32) : ∀ Y, Y ≤ 32 → ∀ i, i < 32 → bt (rc_ly nds x s Y) i = (bt s i || (bt s x && (decide (i < Y) && !decide (nds (10 * x + i) = 0))))
  | 0, _, i, hi => by simp [rc_ly]
  | Y + 1, hY, i, hi => by
    have ih := ly_bt nds hx s Y (by omega)
    have hbx : bt (rc_ly nds x s Y) x = bt s x := by rw [ih x hx]; cases bt s x <;> simp
    rw [rc_ly]
    by_cases c : ((rc_ly nds x s Y >>> (nI x &&& 31)) &&& 1) = 1
    · rw [if_pos c]
      rw [b_t1 _ hx, hbx] at c
      by_cases d : nds (10 * x + Y) = 0
      · rw [if_pos d, ih i hi, c]
        by_cases q : i = Y
        · subst q; simp [d]
        · have : decide (i < Y + 1) = decide (i < Y) := by simp; omega
          rw [this]
      · rw [if_neg d, b_or, ih i hi, b_bit (by omega) hi, c]
        by_cases q : i = Y
        · subst q; simp [d]
        · have : decide (i < Y + 1) = decide (i < Y) := by simp; omega
          rw [this, decide_eq_false q, Bool.or_false]
    · rw [if_neg c]
      rw [b_t1 _ hx, hbx] at c
      have c : bt s x = false := by cases h : bt s x; rfl; exact absurd h c
      rw [ih i hi, c]; simp
theorem lx_ok (nds : Nat → Int32) {n : Nat} (hn : n ≤ 10) (s : Int32) : ∀ X, X ≤ n →
    (∀ i, i < 32 → bt s i = true → bt (rc_lx nds n s X) i = true) ∧
    (∀ x y, x < X → y < n → bt s x = true → ¬ nds (10 * x + y) = 0 → bt (rc_lx nds n s X) y = true) ∧
    (∀ Q : Nat → Prop, (∀ i, i < 32 → bt s i = true → Q i) → (∀ x y, x < n → y < n → Q x → ¬ nds (10 * x + y) = 0 → Q y) → ∀ i, i < 32 → bt (rc_lx nds n s X) i = true → Q i)
  | 0, _ => ⟨fun _ _ h => h, fun x y h => by omega, fun Q h _ => h⟩
  | X + 1, hX => by
    obtain ⟨h1, h2, h3⟩ := lx_ok nds hn s X (by omega)
    have hb := ly_bt nds (show X < 32 by omega) (rc_lx nds n s X) n (by omega)
    refine ⟨fun i hi h => ?_, fun x y hx hy hs he => ?_, fun Q q1 q2 i hi h => ?_⟩
    · rw [rc_lx, hb i hi, h1 i hi h, Bool.true_or]
    · rw [rc_lx, hb y (by omega)]
      by_cases q : x = X
      · subst q
        rw [h1 x (by omega) hs, decide_eq_true hy, decide_eq_false he]; simp
      · rw [h2 x y (by omega) hy hs he, Bool.true_or]
    · rw [rc_lx, hb i hi] at h
      rcases Bool.or_eq_true _ _ ▸ h with g | g
      · exact h3 Q q1 q2 i hi g
      · simp only [Bool.and_eq_true, decide_eq_true_eq, Bool.not_eq_true', decide_eq_false_iff_not] at g
        exact q2 X i (by omega) g.2.1 (h3 Q q1 q2 X (by omega) g.1) g.2.2
def nd_cl (nds : Nat → Int32) (n : Nat) (s : Int32) : Prop := ∀ x y, x < n → y < n → bt s x = true → ¬ nds (10 * x + y) = 0 → bt s y = true
theorem lx_cl {nds : Nat → Int32} {n : Nat} (hn : n ≤ 10) {s : Int32} (h : nd_cl nds n s) : nd_cl nds n (rc_lx nds n s n) := by
  obtain ⟨h1, h2, h3⟩ := lx_ok nds hn s n (Nat.le_refl n)
  intro x y hx hy hb he
  have := h3 (fun i => bt s i = true) (fun i _ g => g) (fun x y hx hy g he => h x y hx hy g he) x (by omega) hb
  exact h1 y (by omega) (h x y hx hy this he)
theorem lt_cl {nds : Nat → Int32} {n : Nat} (hn : n ≤ 10) {s : Int32} {a : Nat} (ha : a < n) (hs : bt s a = true) : ∀ t, nd_cl nds n (rc_lt nds n s t) ∨ t + 1 ≤ nd_c (bt (rc_lt nds n s t)) n
  | 0 => Or.inr (nd_c_pos (by exact hs) n ha)
  | t + 1 => by
    rw [rc_lt]
    rcases lt_cl hn ha hs t with h | h
    · exact Or.inl (lx_cl hn h)
    · obtain ⟨h1, h2, h3⟩ := lx_ok nds hn (rc_lt nds n s t) n (Nat.le_refl n)
      obtain ⟨m1, m2⟩ := nd_c_mono (f := bt (rc_lt nds n s t)) (g := bt (rc_lx nds n (rc_lt nds n s t) n)) n (fun i hi g => h1 i (by omega) g)
      by_cases e : nd_c (bt (rc_lt nds n s t)) n = nd_c (bt (rc_lx nds n (rc_lt nds n s t) n)) n
      · left
        refine lx_cl hn (fun x y hx hy hb he => ?_)
        exact m2 e y hy (h2 x y hx hy hb he)
      · right; omega
theorem lt_mono {nds : Nat → Int32} {n : Nat} (hn : n ≤ 10) {s : Int32} {i : Nat} (hi : i < 32) (hs : bt s i = true) : ∀ t, bt (rc_lt nds n s t) i = true
  | 0 => hs
  | t + 1 => (lx_ok nds hn (rc_lt nds n s t) n (Nat.le_refl n)).1 i hi (lt_mono hn hi hs t)
theorem lt_sound {nds : Nat → Int32} {n : Nat} (hn : n ≤ 10) {s : Int32} {Q : Nat → Prop} (q1 : ∀ i, i < 32 → bt s i = true → Q i) (q2 : ∀ x y, x < n → y < n → Q x → ¬ nds (10 * x + y) = 0 → Q y) : ∀ t i, i < 32 → bt (rc_lt nds n s t) i = true → Q i
  | 0 => q1
  | t + 1 => (lx_ok nds hn (rc_lt nds n s t) n (Nat.le_refl n)).2.2 Q (lt_sound hn q1 q2 t) q2
abbrev nd_E (nds : Nat → Int32) (n : Nat) (a b : Nat) : Prop := a < n ∧ b < n ∧ ¬ nds (10 * a + b) = 0
theorem leads_ok {nds : Nat → Int32} {n : Nat} (hn : n ≤ 10) {a b : Nat} (ha : a < n) (hb : b < n) : ¬ rc_leads nds n a (nI b) = 0 ↔ nd_H (nd_E nds n) a b := by
  have hs : bt ((1 : Int32) <<< (nI a &&& 31)) a = true := by rw [b_bit (by omega) (by omega)]; simp
  have hl : ¬ rc_leads nds n a (nI b) = 0 ↔ bt (rc_lt nds n ((1 : Int32) <<< (nI a &&& 31)) n) b = true := by
    unfold rc_leads
    by_cases c : ((rc_lt nds n ((1 : Int32) <<< (nI a &&& 31)) n >>> (nI b &&& 31)) &&& 1) = 1
    · rw [if_pos c]; exact ⟨fun _ => (b_t1 _ (by omega)).mp c, fun _ => by decide⟩
    · rw [if_neg c]; exact ⟨fun z => absurd rfl z, fun z => absurd ((b_t1 _ (by omega)).mpr z) c⟩
  rw [hl]
  constructor
  · refine lt_sound hn (Q := fun i => nd_H (nd_E nds n) a i) (fun i hi h => ?_) (fun x y hx hy h he => ?_) n b (by omega)
    · rw [b_bit (by omega) hi] at h
      exact Or.inl (of_decide_eq_true h).symm
    · exact nd_H_tr h (Or.inr (nd_T_1 ⟨hx, hy, he⟩))
  · intro h
    obtain ⟨k, h⟩ := nd_H_P.mp h
    have hc : nd_cl nds n (rc_lt nds n ((1 : Int32) <<< (nI a &&& 31)) n) := by
      rcases lt_cl (nds := nds) hn ha hs n with g | g
      · exact g
      · have := nd_c_le (bt (rc_lt nds n ((1 : Int32) <<< (nI a &&& 31)) n)) n
        omega
    have h0 := lt_mono (nds := nds) hn (show a < 32 by omega) hs n
    generalize rc_lt nds n ((1 : Int32) <<< (nI a &&& 31)) n = S at hc h0 ⊢
    have go : ∀ k a, bt S a = true → nd_P (nd_E nds n) k a b → bt S b = true := by
      intro k
      induction k with
      | zero =>
        intro a h0 h
        have h : a = b := h
        rw [← h]; exact h0
      | succ k ih =>
        intro a h0 ⟨d, ⟨e1, e2, e3⟩, h2⟩
        exact ih d (hc a d e1 e2 h0 e3) h2
    exact go k a h0 h
-- ===== what acts need: the class keeps the closure, the reference the steps =====
def nd_Rel (ne nds : Nat → Int32) (n : Nat) : Prop :=
  (∀ a b, a < 10 → b < 10 → (bt (ne a) b = true ↔ nd_T (nd_E nds 10) a b)) ∧ (∀ a b, a < 10 → 10 ≤ b → b < 32 → bt (ne a) b = false) ∧ (∀ a, ¬ nd_T (nd_E nds 10) a a) ∧
  (∀ a b, a < 10 → b < 10 → ¬ nds (10 * a + b) = 0 → a < n ∧ b < n)
def lw_RD (fi : Nat → Int32) (fl : Nat → Int64) (ai : Nat → Nat → Int32) (al : Nat → Nat → Int64) (gi : Nat → Int32) (gl : Nat → Int64) (bi : Nat → Nat → Int32) (bl : Nat → Nat → Int64) : Prop := nd_Rel (ai 9) (bi 6) (fi 0).toNatClampNeg
theorem lw_RD0 : lw_RD (fun _ => 0) (fun _ => 0) ac_ai0 ac_al0 rc_fi0 (fun _ => 0) (rc_ai0 12) (fun _ _ => 0) := by
  have hE : ∀ a b, ¬ nd_E (rc_ai0 12 6) 10 a b := fun a b h => h.2.2 rfl
  have hT : ∀ a b, ¬ nd_T (nd_E (rc_ai0 12 6) 10) a b := fun a b ⟨k, c, h, _⟩ => hE a c h
  exact ⟨fun a b _ _ => ⟨fun h => absurd h (by show ¬ bt 0 b = true; rw [b_0]; decide), fun h => absurd h (hT a b)⟩, fun a b _ _ _ => b_0 b, fun a => hT a a, fun a b _ _ h => absurd rfl h⟩
theorem nd_E_n {ne nds : Nat → Int32} {n : Nat} (hn : n ≤ 10) (h : nd_Rel ne nds n) : nd_E nds n = nd_E nds 10 := by
  funext x y
  refine propext ⟨fun g => ⟨by omega, by omega, g.2.2⟩, fun g => ?_⟩
  have := h.2.2.2 x y g.1 g.2.1 g.2.2
  exact ⟨this.1, this.2, g.2.2⟩
theorem nd_T_lt {ne nds : Nat → Int32} {n : Nat} (h : nd_Rel ne nds n) {a b : Nat} (g : nd_T (nd_E nds 10) a b) : a < n ∧ b < n := by
  obtain ⟨c, h1, -⟩ := nd_T_first g
  obtain ⟨d, -, h2⟩ := nd_T_last g
  exact ⟨(h.2.2.2 a c h1.1 h1.2.1 h1.2.2).1, (h.2.2.2 d b h2.1 h2.2.1 h2.2.2).2⟩
theorem addNeed_at (more : Int32) {b : Nat} (hb : b < 10) (ne : Nat → Int32) : ∀ n, n ≤ 10 → ∀ k, ac_addNeed more (nI b) ne n k = if k < n ∧ (k = b ∨ bt (ne k) b = true) then ne k ||| more else ne k
  | 0, _, k => by rw [if_neg (by omega)]; rfl
  | n + 1, hn, k => by
    have ih := addNeed_at more hb ne n (by omega)
    have en : ac_addNeed more (nI b) ne n n = ne n := by rw [ih n, if_neg (by omega)]
    have low : ∀ v, k ≠ n → upd (ac_addNeed more (nI b) ne n) n v k = if k < n + 1 ∧ (k = b ∨ bt (ne k) b = true) then ne k ||| more else ne k := by
      intro v hk
      rw [show upd (ac_addNeed more (nI b) ne n) n v k = ac_addNeed more (nI b) ne n k from if_neg hk, ih k]
      by_cases c : k < n ∧ (k = b ∨ bt (ne k) b = true)
      · rw [if_pos c, if_pos ⟨by omega, c.2⟩]
      · rw [if_neg c, if_neg (fun z => c ⟨by omega, z.2⟩)]
    rw [ac_addNeed, en]
    by_cases c1 : nI n = nI b
    · rw [if_pos c1]
      have e1 : n = b := (nI_eq (by omega) (by omega)).mp c1
      by_cases hk : k = n
      · subst hk
        rw [show upd (ac_addNeed more (nI b) ne k) k (ne k ||| more) k = ne k ||| more from if_pos rfl, if_pos ⟨by omega, Or.inl e1⟩]
      · exact low _ hk
    · rw [if_neg c1]
      have e1 : ¬ n = b := fun z => c1 (by rw [z])
      by_cases c2 : ac_has (ne n) (nI b) = 0
      · rw [if_pos c2]
        rw [ac_has_bt _ (by omega)] at c2
        by_cases hk : k = n
        · subst hk
          rw [en, if_neg (fun z => z.2.elim e1 (fun w => by rw [c2] at w; cases w))]
        · rw [ih k]
          by_cases c : k < n ∧ (k = b ∨ bt (ne k) b = true)
          · rw [if_pos c, if_pos ⟨by omega, c.2⟩]
          · rw [if_neg c, if_neg (fun z => c ⟨by omega, z.2⟩)]
      · rw [if_neg c2]
        rw [ac_has_bt _ (by omega)] at c2
        have c2 : bt (ne n) b = true := by cases h : bt (ne n) b; exact absurd h c2; rfl
        by_cases hk : k = n
        · subst hk
          rw [show upd (ac_addNeed more (nI b) ne k) k (ne k ||| more) k = ne k ||| more from if_pos rfl, if_pos ⟨by omega, Or.inr c2⟩]
        · exact low _ hk
theorem nd_rel_add {ne nds : Nat → Int32} {n a b : Nat} (h : nd_Rel ne nds n) (hn : n ≤ 10) (ha : a < n) (hb : b < n) (hab : ¬ a = b) (hc : bt (ne a) b = false) :
    nd_Rel (ac_addNeed (ne a ||| ((1 : Int32) <<< (nI a &&& 31))) (nI b) ne n) (upd nds (10 * b + a) 1) n := by
  obtain ⟨h1, h2, h3, h4⟩ := id h
  have hE : ∀ x y, nd_E (upd nds (10 * b + a) 1) 10 x y ↔ nd_E nds 10 x y ∨ (x = b ∧ y = a) := by
    intro x y
    by_cases q : 10 * x + y = 10 * b + a
    · constructor
      · rintro ⟨g1, g2, -⟩; exact Or.inr ⟨by omega, by omega⟩
      · rintro (⟨g1, g2, -⟩ | ⟨g1, g2⟩)
        · exact ⟨g1, g2, by rw [show upd nds (10 * b + a) 1 (10 * x + y) = 1 from if_pos q]; decide⟩
        · exact ⟨by omega, by omega, by rw [show upd nds (10 * b + a) 1 (10 * x + y) = 1 from if_pos q]; decide⟩
    · rw [show nd_E (upd nds (10 * b + a) 1) 10 x y = nd_E nds 10 x y by unfold nd_E; rw [show upd nds (10 * b + a) 1 (10 * x + y) = nds (10 * x + y) from if_neg q]]
      exact ⟨Or.inl, fun z => z.elim id (fun z => absurd (by rw [z.1, z.2]) q)⟩
  have hT := nd_add hE
  have hab2 : ¬ nd_H (nd_E nds 10) a b := by
    rintro (g | g)
    · exact hab g
    · rw [(h1 a b (by omega) (by omega)).mpr g] at hc; cases hc
  refine ⟨fun k c hk hc2 => ?_, fun k c hk hc1 hc2 => ?_, fun k g => ?_, fun x y hx hy g => ?_⟩
  · rw [hT k c, addNeed_at _ (by omega) ne n hn k]
    have hm : bt (ne a ||| ((1 : Int32) <<< (nI a &&& 31))) c = true ↔ nd_H (nd_E nds 10) a c := by
      rw [b_or, b_bit (by omega) (by omega), Bool.or_eq_true, h1 a c (by omega) hc2, decide_eq_true_eq]
      exact ⟨fun z => z.elim Or.inr (fun w => Or.inl w.symm), fun z => z.elim (fun w => Or.inr w.symm) Or.inl⟩
    by_cases q : k < n ∧ (k = b ∨ bt (ne k) b = true)
    · rw [if_pos q, b_or, Bool.or_eq_true, hm, h1 k c hk hc2]
      have : nd_H (nd_E nds 10) k b := q.2.imp id (h1 k b hk (by omega)).mp
      exact ⟨fun z => z.imp id (fun w => ⟨this, w⟩), fun z => z.imp id (fun w => w.2)⟩
    · rw [if_neg q, h1 k c hk hc2]
      refine ⟨Or.inl, fun z => z.elim id (fun w => absurd ?_ q)⟩
      rcases w.1 with g | g
      · exact ⟨by omega, Or.inl g⟩
      · exact ⟨(nd_T_lt h g).1, Or.inr ((h1 k b hk (by omega)).mpr g)⟩
  · rw [addNeed_at _ (by omega) ne n hn k]
    split
    · rw [b_or, h2 k c hk hc1 hc2, b_or, h2 a c (by omega) hc1 hc2, b_bit (by omega) (by omega), decide_eq_false (by omega)]; rfl
    · exact h2 k c hk hc1 hc2
  · rcases (hT k k).mp g with g | ⟨g1, g2⟩
    · exact h3 k g
    · exact hab2 (nd_H_tr g2 g1)
  · have : nd_E (upd nds (10 * b + a) 1) 10 x y := ⟨hx, hy, g⟩
    rcases (hE x y).mp this with ⟨g1, g2, g3⟩ | ⟨g1, g2⟩
    · exact h4 x y g1 g2 g3
    · exact ⟨by omega, by omega⟩
theorem lw_befOk {n m : Int32} {k : Nat} {ne nds : Nat → Int32} (hn : n = nI k) (hk : k ≤ 10) (hm : m = n) (h : nd_Rel ne nds k) (x y : Int32) : ac_befOk n ne x y ↔ rc_befOk m nds k x y := by
  subst hm
  unfold ac_befOk rc_befOk
  have key : ¬ ac_hasAct m x = 0 → ¬ ac_hasAct m y = 0 → ¬ x = y → (ac_has (ne x.toNatClampNeg) y = 0 ↔ rc_leads nds k x.toNatClampNeg y = 0) := by
    intro h1 h2 h3
    obtain ⟨a, ha, rfl⟩ := am_hasAct hn (by omega) h1
    obtain ⟨b, hb, rfl⟩ := am_hasAct hn (by omega) h2
    have hab : ¬ a = b := fun z => h3 (by rw [z])
    rw [nI_clamp (by omega), ac_has_bt _ (by omega)]
    have hl := leads_ok (nds := nds) hk ha hb
    rw [nd_E_n hk h] at hl
    have ht := h.1 a b (by omega) (by omega)
    constructor
    · intro g
      refine Classical.byContradiction (fun z => ?_)
      rcases hl.mp z with w | w
      · exact hab w
      · rw [ht.mpr w] at g; cases g
    · intro g
      cases w : bt (ne a) b with
      | false => rfl
      | true => exact absurd g (hl.mpr (Or.inr (ht.mp w)))
  constructor
  · rintro ⟨h1, h2, h3, h4⟩; exact ⟨h1, h2, h3, (key h1 h2 h3).mp h4⟩
  · rintro ⟨h1, h2, h3, h4⟩; exact ⟨h1, h2, h3, (key h1 h2 h3).mpr h4⟩
set_option maxRecDepth 100000 in
theorem lrD_act {na nr na2 nr2 ln ln2 nt F9 : Nat} {fi : Nat → Int32} {fl : Nat → Int64} {ai : Nat → Nat → Int32} {al : Nat → Nat → Int64} {gi : Nat → Int32} {gl : Nat → Int64} {bi : Nat → Nat → Int32} {bl : Nat → Nat → Int64} (x : Int32) (t : Int32) (d : Int32) (z : Int64) (hk : ac_K na nr fi ai) (hk2 : rc_K na2 nr2 gi bi bl) (hA : lw_RA fi fl ai al gi gl bi bl) (hR : lw_RD fi fl ai al gi gl bi bl) (hX : ln ≤ 10 ∧ fi 5 = nI ln ∧ ln2 ≤ 10 ∧ (gi 2 = nI ln2 ∨ gi 2 = -1) ∧ nt ≤ 10 ∧ gi 5 = nI nt ∧ 1048576 ≤ F9) : lw_RD (upd (upd fi 0 (if ac_actOk (fi 0) x t d z then (fi 0) + 1 else (fi 0))) 4 (if ac_actOk (fi 0) x t d z then 0 else (fi 4))) fl (va_up (va_up (va_up ai 5 (if ac_actOk (fi 0) x t d z then upd (ai 5) na x else (ai 5))) 6 (if ac_actOk (fi 0) x t d z then upd (ai 6) na t else (ai 6))) 7 (if ac_actOk (fi 0) x t d z then upd (ai 7) na d else (ai 7))) (va_up al 8 (if ac_actOk (fi 0) x t d z then vp_updL (al 8) na z else (al 8))) (upd (upd gi 0 (if rc_actOk (gi 0) x t d z then (gi 0) + 1 else (gi 0))) 3 (if rc_actOk (gi 0) x t d z then 0 else (gi 3))) gl (va_up (va_up (va_up bi 1 (if rc_actOk (gi 0) x t d z then upd (bi 1) na2 x else (bi 1))) 2 (if rc_actOk (gi 0) x t d z then upd (bi 2) na2 t else (bi 2))) 3 (if rc_actOk (gi 0) x t d z then upd (bi 3) na2 d else (bi 3))) (va_up bl 4 (if rc_actOk (gi 0) x t d z then vp_updL (bl 4) na2 z else (bl 4))) := by
  have ecl : (fi 0).toNatClampNeg = na := by rw [hk.1]; exact nI_clamp (by have := hk.2.1; omega)
  by_cases c : ac_actOk (fi 0) x t d z
  · simp only [if_pos c]
    have e1 : (fi 0 + 1).toNatClampNeg = na + 1 := by rw [hk.1, nI_1]; exact nI_clamp (by have := hk.2.1; omega)
    refine ⟨hR.1, hR.2.1, hR.2.2.1, fun a b ha hb h => ?_⟩
    show a < (fi 0 + 1).toNatClampNeg ∧ b < (fi 0 + 1).toNatClampNeg
    have g := hR.2.2.2 a b ha hb h
    rw [ecl] at g
    rw [e1]
    omega
  · simp only [if_neg c]
    exact hR
set_option maxRecDepth 100000 in
theorem lrD_before {na nr na2 nr2 ln ln2 nt F9 : Nat} {fi : Nat → Int32} {fl : Nat → Int64} {ai : Nat → Nat → Int32} {al : Nat → Nat → Int64} {gi : Nat → Int32} {gl : Nat → Int64} {bi : Nat → Nat → Int32} {bl : Nat → Nat → Int64} (x : Int32) (y : Int32) (hk : ac_K na nr fi ai) (hk2 : rc_K na2 nr2 gi bi bl) (hA : lw_RA fi fl ai al gi gl bi bl) (hR : lw_RD fi fl ai al gi gl bi bl) (hX : ln ≤ 10 ∧ fi 5 = nI ln ∧ ln2 ≤ 10 ∧ (gi 2 = nI ln2 ∨ gi 2 = -1) ∧ nt ≤ 10 ∧ gi 5 = nI nt ∧ 1048576 ≤ F9) : lw_RD (upd fi 4 (if ac_befOk (fi 0) (ai 9) x y then 0 else (fi 4))) fl (va_up ai 9 (if ac_befOk (fi 0) (ai 9) x y then ac_addNeed ((ai 9) x.toNatClampNeg ||| ((1 : Int32) <<< (x &&& 31))) y (ai 9) na else (ai 9))) al (upd gi 3 (if rc_befOk (gi 0) (bi 6) na2 x y then 0 else (gi 3))) gl (va_up bi 6 (if rc_befOk (gi 0) (bi 6) na2 x y then upd (bi 6) (10 * y.toNatClampNeg + x.toNatClampNeg) 1 else (bi 6))) bl := by
  have ecl : (fi 0).toNatClampNeg = na := by rw [hk.1]; exact nI_clamp (by have := hk.2.1; omega)
  obtain rfl : na = na2 := (lw_na hk2.1.1 (by have := hk2.1.2.1; omega) hk.1 (by have := hk.2.1; omega) hA.1.1).symm
  have hR : nd_Rel (ai 9) (bi 6) na := by rw [← ecl]; exact hR
  have e : ac_befOk (fi 0) (ai 9) x y ↔ (rc_befOk (gi 0) (bi 6) na x y) := lw_befOk hk.1 hk.2.1 hA.1.1 hR x y
  by_cases c : ac_befOk (fi 0) (ai 9) x y
  · have c2 := e.mp c
    simp only [if_pos c, if_pos c2]
    obtain ⟨h1, h2, h3, h4⟩ := c
    obtain ⟨a, ha, rfl⟩ := am_hasAct hk.1 (by have := hk.2.1; omega) h1
    obtain ⟨b, hb, rfl⟩ := am_hasAct hk.1 (by have := hk.2.1; omega) h2
    have hn := hk.2.1
    rw [nI_clamp (by omega), ac_has_bt _ (by omega)] at h4
    rw [nI_clamp (by omega), nI_clamp (by omega)]
    show nd_Rel (ac_addNeed (ai 9 a ||| ((1 : Int32) <<< (nI a &&& 31))) (nI b) (ai 9) na) (upd (bi 6) (10 * b + a) 1) (fi 0).toNatClampNeg
    rw [ecl]
    exact nd_rel_add hR hn ha hb (fun z => h3 (by rw [z])) h4
  · have c2 := fun h => c (e.mpr h)
    simp only [if_neg c, if_neg c2]
    show nd_Rel (ai 9) (bi 6) (fi 0).toNatClampNeg
    rw [ecl]; exact hR
set_option maxRecDepth 100000 in
theorem lrD_change {na nr na2 nr2 ln ln2 nt F9 : Nat} {fi : Nat → Int32} {fl : Nat → Int64} {ai : Nat → Nat → Int32} {al : Nat → Nat → Int64} {gi : Nat → Int32} {gl : Nat → Int64} {bi : Nat → Nat → Int32} {bl : Nat → Nat → Int64} (x : Int32) (y : Int32) (z : Int64) (hk : ac_K na nr fi ai) (hk2 : rc_K na2 nr2 gi bi bl) (hA : lw_RA fi fl ai al gi gl bi bl) (hR : lw_RD fi fl ai al gi gl bi bl) (hX : ln ≤ 10 ∧ fi 5 = nI ln ∧ ln2 ≤ 10 ∧ (gi 2 = nI ln2 ∨ gi 2 = -1) ∧ nt ≤ 10 ∧ gi 5 = nI nt ∧ 1048576 ≤ F9) : lw_RD (upd fi 4 (if ac_movOk x y z then 0 else (fi 4))) fl ai (va_up al 10 (if ac_movOk x y z then vp_updL (al 10) ((x * 6 + y).toNatClampNeg) z else (al 10))) (upd gi 3 (if rc_movOk x y z then 0 else (gi 3))) gl bi (va_up bl 7 (if rc_movOk x y z then vp_updL (bl 7) ((6 * x + y).toNatClampNeg) z else (bl 7))) := by
  have ecl : (fi 0).toNatClampNeg = na := by rw [hk.1]; exact nI_clamp (by have := hk.2.1; omega)
  exact hR
set_option maxRecDepth 100000 in
theorem lrD_turn {na nr na2 nr2 ln ln2 nt F9 : Nat} {fi : Nat → Int32} {fl : Nat → Int64} {ai : Nat → Nat → Int32} {al : Nat → Nat → Int64} {gi : Nat → Int32} {gl : Nat → Int64} {bi : Nat → Nat → Int32} {bl : Nat → Nat → Int64} (x : Int32) (y : Int32) (z : Int64) (hk : ac_K na nr fi ai) (hk2 : rc_K na2 nr2 gi bi bl) (hA : lw_RA fi fl ai al gi gl bi bl) (hR : lw_RD fi fl ai al gi gl bi bl) (hX : ln ≤ 10 ∧ fi 5 = nI ln ∧ ln2 ≤ 10 ∧ (gi 2 = nI ln2 ∨ gi 2 = -1) ∧ nt ≤ 10 ∧ gi 5 = nI nt ∧ 1048576 ≤ F9) : lw_RD (upd fi 4 (if ac_movOk x y z then 0 else (fi 4))) fl ai (va_up al 11 (if ac_movOk x y z then vp_updL (al 11) ((x * 6 + y).toNatClampNeg) z else (al 11))) (upd gi 3 (if rc_movOk x y z then 0 else (gi 3))) gl bi (va_up bl 8 (if rc_movOk x y z then vp_updL (bl 8) ((6 * x + y).toNatClampNeg) z else (bl 8))) := by
  have ecl : (fi 0).toNatClampNeg = na := by rw [hk.1]; exact nI_clamp (by have := hk.2.1; omega)
  exact hR
set_option maxRecDepth 100000 in
theorem lrD_worth {na nr na2 nr2 ln ln2 nt F9 : Nat} {fi : Nat → Int32} {fl : Nat → Int64} {ai : Nat → Nat → Int32} {al : Nat → Nat → Int64} {gi : Nat → Int32} {gl : Nat → Int64} {bi : Nat → Nat → Int32} {bl : Nat → Nat → Int64} (x : Int32) (z : Int64) (hk : ac_K na nr fi ai) (hk2 : rc_K na2 nr2 gi bi bl) (hA : lw_RA fi fl ai al gi gl bi bl) (hR : lw_RD fi fl ai al gi gl bi bl) (hX : ln ≤ 10 ∧ fi 5 = nI ln ∧ ln2 ≤ 10 ∧ (gi 2 = nI ln2 ∨ gi 2 = -1) ∧ nt ≤ 10 ∧ gi 5 = nI nt ∧ 1048576 ≤ F9) : lw_RD (upd fi 4 (if ac_worOk x z then 0 else (fi 4))) fl ai (va_up al 12 (if ac_worOk x z then vp_updL (al 12) x.toNatClampNeg z else (al 12))) (upd gi 3 (if ac_worOk x z then 0 else (gi 3))) gl bi (va_up bl 9 (if ac_worOk x z then vp_updL (bl 9) x.toNatClampNeg z else (bl 9))) := by
  have ecl : (fi 0).toNatClampNeg = na := by rw [hk.1]; exact nI_clamp (by have := hk.2.1; omega)
  exact hR
set_option maxRecDepth 100000 in
theorem lrD_rest {na nr na2 nr2 ln ln2 nt F9 : Nat} {fi : Nat → Int32} {fl : Nat → Int64} {ai : Nat → Nat → Int32} {al : Nat → Nat → Int64} {gi : Nat → Int32} {gl : Nat → Int64} {bi : Nat → Nat → Int32} {bl : Nat → Nat → Int64} (v : Int64) (z : Int64) (hk : ac_K na nr fi ai) (hk2 : rc_K na2 nr2 gi bi bl) (hA : lw_RA fi fl ai al gi gl bi bl) (hR : lw_RD fi fl ai al gi gl bi bl) (hX : ln ≤ 10 ∧ fi 5 = nI ln ∧ ln2 ≤ 10 ∧ (gi 2 = nI ln2 ∨ gi 2 = -1) ∧ nt ≤ 10 ∧ gi 5 = nI nt ∧ 1048576 ≤ F9) : lw_RD (upd (upd fi 2 (if ac_rstOk v z (ac_place (ai 14) v.toInt32 nr 0) then if ac_place (ai 14) v.toInt32 nr 0 = nr then (fi 2) + 1 else (fi 2) else (fi 2))) 4 (if ac_rstOk v z (ac_place (ai 14) v.toInt32 nr 0) then 0 else (fi 4))) fl (va_up ai 14 (if ac_rstOk v z (ac_place (ai 14) v.toInt32 nr 0) then upd (ai 14) (ac_place (ai 14) v.toInt32 nr 0) v.toInt32 else (ai 14))) (va_up al 15 (if ac_rstOk v z (ac_place (ai 14) v.toInt32 nr 0) then vp_updL (al 15) (ac_place (ai 14) v.toInt32 nr 0) z else (al 15))) (upd (upd gi 1 (if rc_rstOk v z (rc_pl (bi 12) v nr2 0) then if rc_pl (bi 12) v nr2 0 = nr2 then (gi 1) + 1 else (gi 1) else (gi 1))) 3 (if rc_rstOk v z (rc_pl (bi 12) v nr2 0) then 0 else (gi 3))) gl (va_up bi 12 (if rc_rstOk v z (rc_pl (bi 12) v nr2 0) then upd (bi 12) (rc_pl (bi 12) v nr2 0) v.toInt32 else (bi 12))) (va_up bl 13 (if rc_rstOk v z (rc_pl (bi 12) v nr2 0) then vp_updL (bl 13) (rc_pl (bi 12) v nr2 0) z else (bl 13))) := by
  have ecl : (fi 0).toNatClampNeg = na := by rw [hk.1]; exact nI_clamp (by have := hk.2.1; omega)
  exact hR
set_option maxRecDepth 100000 in
theorem lrD_breaks {na nr na2 nr2 ln ln2 nt F9 : Nat} {fi : Nat → Int32} {fl : Nat → Int64} {ai : Nat → Nat → Int32} {al : Nat → Nat → Int64} {gi : Nat → Int32} {gl : Nat → Int64} {bi : Nat → Nat → Int32} {bl : Nat → Nat → Int64} (x : Int32) (hk : ac_K na nr fi ai) (hk2 : rc_K na2 nr2 gi bi bl) (hA : lw_RA fi fl ai al gi gl bi bl) (hR : lw_RD fi fl ai al gi gl bi bl) (hX : ln ≤ 10 ∧ fi 5 = nI ln ∧ ln2 ≤ 10 ∧ (gi 2 = nI ln2 ∨ gi 2 = -1) ∧ nt ≤ 10 ∧ gi 5 = nI nt ∧ 1048576 ≤ F9) : lw_RD (upd (upd fi 1 (if ac_brkOk (fi 0) (fi 1) x then (fi 1) ||| ((1 : Int32) <<< (x &&& 31)) else (fi 1))) 4 (if ac_brkOk (fi 0) (fi 1) x then 0 else (fi 4))) fl ai al (upd gi 3 (if rc_brkOk (gi 0) (bi 5) x then 0 else (gi 3))) gl (va_up bi 5 (if rc_brkOk (gi 0) (bi 5) x then upd (bi 5) x.toNatClampNeg 1 else (bi 5))) bl := by
  have ecl : (fi 0).toNatClampNeg = na := by rw [hk.1]; exact nI_clamp (by have := hk.2.1; omega)
  exact hR
set_option maxRecDepth 100000 in
theorem lrD_sure {na nr na2 nr2 ln ln2 nt F9 : Nat} {fi : Nat → Int32} {fl : Nat → Int64} {ai : Nat → Nat → Int32} {al : Nat → Nat → Int64} {gi : Nat → Int32} {gl : Nat → Int64} {bi : Nat → Nat → Int32} {bl : Nat → Nat → Int64} (x : Int32) (u : Int64) (v : Int64) (hk : ac_K na nr fi ai) (hk2 : rc_K na2 nr2 gi bi bl) (hA : lw_RA fi fl ai al gi gl bi bl) (hR : lw_RD fi fl ai al gi gl bi bl) (hX : ln ≤ 10 ∧ fi 5 = nI ln ∧ ln2 ≤ 10 ∧ (gi 2 = nI ln2 ∨ gi 2 = -1) ∧ nt ≤ 10 ∧ gi 5 = nI nt ∧ 1048576 ≤ F9) : lw_RD (upd fi 4 (if ac_surOk x u v then 0 else (fi 4))) fl ai (va_up al 13 (if ac_surOk x u v then vp_updL (al 13) x.toNatClampNeg (27720 / v * u) else (al 13))) (upd gi 3 (if ac_surOk x u v then 0 else (gi 3))) gl (va_up (va_up bi 10 (if ac_surOk x u v then upd (bi 10) x.toNatClampNeg u.toInt32 else (bi 10))) 11 (if ac_surOk x u v then upd (bi 11) x.toNatClampNeg v.toInt32 else (bi 11))) bl := by
  have ecl : (fi 0).toNatClampNeg = na := by rw [hk.1]; exact nI_clamp (by have := hk.2.1; omega)
  exact hR
set_option maxRecDepth 100000 in
theorem lrD_run {na nr na2 nr2 ln ln2 nt F9 : Nat} {fi : Nat → Int32} {fl : Nat → Int64} {ai : Nat → Nat → Int32} {al : Nat → Nat → Int64} {gi : Nat → Int32} {gl : Nat → Int64} {bi : Nat → Nat → Int32} {bl : Nat → Nat → Int64} (z : Int64) (hk : ac_K na nr fi ai) (hk2 : rc_K na2 nr2 gi bi bl) (hA : lw_RA fi fl ai al gi gl bi bl) (hR : lw_RD fi fl ai al gi gl bi bl) (hX : ln ≤ 10 ∧ fi 5 = nI ln ∧ ln2 ≤ 10 ∧ (gi 2 = nI ln2 ∨ gi 2 = -1) ∧ nt ≤ 10 ∧ gi 5 = nI nt ∧ 1048576 ≤ F9) : lw_RD (upd (upd (upd (upd (upd fi 3 (if ac_count (ai 9) na (2 ^ na - 1) ≤ z then 1 else (fi 3))) 4 (if ac_count (ai 9) na (2 ^ na - 1) ≤ z then 1 else (fi 4))) 5 (if ac_count (ai 9) na (2 ^ na - 1) ≤ z then (nI (ac_rk fi ai (va_up (va_up (va_up al 16 (ac_vals (al 12) (al 13) (al 16) 12)) 17 (ac_rs ai (va_up al 16 (ac_vals (al 12) (al 13) (al 16) 12)) na)) 18 (ac_rd fi ai (va_up al 16 (ac_vals (al 12) (al 13) (al 16) 12)) na nr)) na nr).2.1) else (fi 5))) 6 (if ac_count (ai 9) na (2 ^ na - 1) ≤ z then (nI (ac_rk fi ai (va_up (va_up (va_up al 16 (ac_vals (al 12) (al 13) (al 16) 12)) 17 (ac_rs ai (va_up al 16 (ac_vals (al 12) (al 13) (al 16) 12)) na)) 18 (ac_rd fi ai (va_up al 16 (ac_vals (al 12) (al 13) (al 16) 12)) na nr)) na nr).2.2) else (fi 6))) 7 (if ac_count (ai 9) na (2 ^ na - 1) ≤ z then (ac_freed (ai 5) (nI (ac_rk fi ai (va_up (va_up (va_up al 16 (ac_vals (al 12) (al 13) (al 16) 12)) 17 (ac_rs ai (va_up al 16 (ac_vals (al 12) (al 13) (al 16) 12)) na)) 18 (ac_rd fi ai (va_up al 16 (ac_vals (al 12) (al 13) (al 16) 12)) na nr)) na nr).2.2) na) else (fi 7))) (vp_updL fl 0 (if ac_count (ai 9) na (2 ^ na - 1) ≤ z then (ac_rg fi ai (va_up al 16 (ac_vals (al 12) (al 13) (al 16) 12)) na nr) else (fl 0))) (va_up ai 19 (if ac_count (ai 9) na (2 ^ na - 1) ≤ z then ((ac_rk fi ai (va_up (va_up (va_up al 16 (ac_vals (al 12) (al 13) (al 16) 12)) 17 (ac_rs ai (va_up al 16 (ac_vals (al 12) (al 13) (al 16) 12)) na)) 18 (ac_rd fi ai (va_up al 16 (ac_vals (al 12) (al 13) (al 16) 12)) na nr)) na nr).1) else (ai 19))) (va_up (va_up (va_up (va_up al 16 (if ac_count (ai 9) na (2 ^ na - 1) ≤ z then (ac_vals (al 12) (al 13) (al 16) 12) else (al 16))) 17 (if ac_count (ai 9) na (2 ^ na - 1) ≤ z then (ac_rs ai (va_up al 16 (ac_vals (al 12) (al 13) (al 16) 12)) na) else (al 17))) 18 (if ac_count (ai 9) na (2 ^ na - 1) ≤ z then (ac_rd fi ai (va_up al 16 (ac_vals (al 12) (al 13) (al 16) 12)) na nr) else (al 18))) 20 (if ac_count (ai 9) na (2 ^ na - 1) ≤ z then (ac_rb fi ai (va_up (va_up (va_up al 16 (ac_vals (al 12) (al 13) (al 16) 12)) 17 (ac_rs ai (va_up al 16 (ac_vals (al 12) (al 13) (al 16) 12)) na)) 18 (ac_rd fi ai (va_up al 16 (ac_vals (al 12) (al 13) (al 16) 12)) na nr)) na (nI (ac_rk fi ai (va_up (va_up (va_up al 16 (ac_vals (al 12) (al 13) (al 16) 12)) 17 (ac_rs ai (va_up al 16 (ac_vals (al 12) (al 13) (al 16) 12)) na)) 18 (ac_rd fi ai (va_up al 16 (ac_vals (al 12) (al 13) (al 16) 12)) na nr)) na nr).2.2)) else (al 20))) (upd (upd (upd (upd gi 2 (if rc_runOk (rc_st (bi 6) na2 (2 ^ na2 - 1)) z then nI (rc_runQ bi bl (gi 7) (gi 8) na2 nr2 F9).2.1 else (gi 2))) 3 (if rc_runOk (rc_st (bi 6) na2 (2 ^ na2 - 1)) z then 1 else (gi 3))) 4 (if rc_runOk (rc_st (bi 6) na2 (2 ^ na2 - 1)) z then rc_rest (bi 1) (nI (rc_runQ bi bl (gi 7) (gi 8) na2 nr2 F9).1) na2 else (gi 4))) 5 (if rc_runOk (rc_st (bi 6) na2 (2 ^ na2 - 1)) z then (gi 0) else (gi 5))) (vp_updL gl 0 (if rc_runOk (rc_st (bi 6) na2 (2 ^ na2 - 1)) z then (rc_bwQ bi bl (gi 7) (gi 8) na2 nr2).1 else (gl 0))) (va_up (va_up bi 14 (if rc_runOk (rc_st (bi 6) na2 (2 ^ na2 - 1)) z then (rc_runQ bi bl (gi 7) (gi 8) na2 nr2 F9).2.2.1 else (bi 14))) 17 (if rc_runOk (rc_st (bi 6) na2 (2 ^ na2 - 1)) z then rc_bwN bi na2 else (bi 17))) (va_up (va_up (va_up bl 15 (if rc_runOk (rc_st (bi 6) na2 (2 ^ na2 - 1)) z then rc_bro (rc_brings (bi 1) (bi 5) (bi 10) (bi 11) (bl 9) (gi 7) (gi 8) na2 (nI (rc_runQ bi bl (gi 7) (gi 8) na2 nr2 F9).1)) (bl 15) 12 else (bl 15))) 18 (if rc_runOk (rc_st (bi 6) na2 (2 ^ na2 - 1)) z then (rc_runQ bi bl (gi 7) (gi 8) na2 nr2 F9).2.2.2 else (bl 18))) 19 (if rc_runOk (rc_st (bi 6) na2 (2 ^ na2 - 1)) z then rc_bwV bi bl (gi 7) (gi 8) na2 nr2 else (bl 19))) := by
  have ecl : (fi 0).toNatClampNeg = na := by rw [hk.1]; exact nI_clamp (by have := hk.2.1; omega)
  exact hR
set_option maxRecDepth 100000 in
theorem lrD_test {na nr na2 nr2 ln ln2 nt F9 : Nat} {fi : Nat → Int32} {fl : Nat → Int64} {ai : Nat → Nat → Int32} {al : Nat → Nat → Int64} {gi : Nat → Int32} {gl : Nat → Int64} {bi : Nat → Nat → Int32} {bl : Nat → Nat → Int64} (x : Int32) (z : Int64) (hk : ac_K na nr fi ai) (hk2 : rc_K na2 nr2 gi bi bl) (hA : lw_RA fi fl ai al gi gl bi bl) (hR : lw_RD fi fl ai al gi gl bi bl) (hX : ln ≤ 10 ∧ fi 5 = nI ln ∧ ln2 ≤ 10 ∧ (gi 2 = nI ln2 ∨ gi 2 = -1) ∧ nt ≤ 10 ∧ gi 5 = nI nt ∧ 1048576 ≤ F9) : lw_RD fi fl ai (va_up (va_up (va_up al 16 (if ac_tstOk x z then (vp_updL (vp_updL (ac_vals (al 12) (al 13) (al 16) 12) x.toNatClampNeg ((al 12) x.toNatClampNeg * 27720)) x.toNatClampNeg ((al 12) x.toNatClampNeg * 0)) else (al 16))) 17 (if ac_tstOk x z then (ac_rs ai (va_up (va_up (va_up al 16 (vp_updL (vp_updL (ac_vals (al 12) (al 13) (al 16) 12) x.toNatClampNeg ((al 12) x.toNatClampNeg * 27720)) x.toNatClampNeg ((al 12) x.toNatClampNeg * 0))) 17 (ac_rs ai (va_up (va_up (va_up al 16 (vp_updL (ac_vals (al 12) (al 13) (al 16) 12) x.toNatClampNeg ((al 12) x.toNatClampNeg * 27720))) 17 (ac_rs ai (va_up al 16 (ac_vals (al 12) (al 13) (al 16) 12)) na)) 18 (ac_rd fi ai (va_up al 16 (ac_vals (al 12) (al 13) (al 16) 12)) na nr)) na)) 18 (ac_rd fi ai (va_up (va_up (va_up al 16 (vp_updL (ac_vals (al 12) (al 13) (al 16) 12) x.toNatClampNeg ((al 12) x.toNatClampNeg * 27720))) 17 (ac_rs ai (va_up al 16 (ac_vals (al 12) (al 13) (al 16) 12)) na)) 18 (ac_rd fi ai (va_up al 16 (ac_vals (al 12) (al 13) (al 16) 12)) na nr)) na nr)) na) else (al 17))) 18 (if ac_tstOk x z then (ac_rd fi ai (va_up (va_up (va_up al 16 (vp_updL (vp_updL (ac_vals (al 12) (al 13) (al 16) 12) x.toNatClampNeg ((al 12) x.toNatClampNeg * 27720)) x.toNatClampNeg ((al 12) x.toNatClampNeg * 0))) 17 (ac_rs ai (va_up (va_up (va_up al 16 (vp_updL (ac_vals (al 12) (al 13) (al 16) 12) x.toNatClampNeg ((al 12) x.toNatClampNeg * 27720))) 17 (ac_rs ai (va_up al 16 (ac_vals (al 12) (al 13) (al 16) 12)) na)) 18 (ac_rd fi ai (va_up al 16 (ac_vals (al 12) (al 13) (al 16) 12)) na nr)) na)) 18 (ac_rd fi ai (va_up (va_up (va_up al 16 (vp_updL (ac_vals (al 12) (al 13) (al 16) 12) x.toNatClampNeg ((al 12) x.toNatClampNeg * 27720))) 17 (ac_rs ai (va_up al 16 (ac_vals (al 12) (al 13) (al 16) 12)) na)) 18 (ac_rd fi ai (va_up al 16 (ac_vals (al 12) (al 13) (al 16) 12)) na nr)) na nr)) na nr) else (al 18))) (upd (upd gi 7 (if ac_tstOk x z then (-1) else (gi 7))) 8 (if ac_tstOk x z then 0 else (gi 8))) gl (va_up bi 17 (if ac_tstOk x z then (rc_bwA (rc_bwA (rc_bwA bi na2) na2) na2) 17 else (bi 17))) (va_up (va_up bl 18 (if ac_tstOk x z then (rc_bwL (rc_bwA (rc_bwA bi na2) na2) (rc_bwL (rc_bwA bi na2) (rc_bwL bi bl (-1) 0 na2 nr2) x 1 na2 nr2) x 0 na2 nr2) 18 else (bl 18))) 19 (if ac_tstOk x z then (rc_bwL (rc_bwA (rc_bwA bi na2) na2) (rc_bwL (rc_bwA bi na2) (rc_bwL bi bl (-1) 0 na2 nr2) x 1 na2 nr2) x 0 na2 nr2) 19 else (bl 19))) := by
  have ecl : (fi 0).toNatClampNeg = na := by rw [hk.1]; exact nI_clamp (by have := hk.2.1; omega)
  exact hR
set_option maxRecDepth 100000 in
theorem lrD_stations {na nr na2 nr2 ln ln2 nt F9 : Nat} {fi : Nat → Int32} {fl : Nat → Int64} {ai : Nat → Nat → Int32} {al : Nat → Nat → Int64} {gi : Nat → Int32} {gl : Nat → Int64} {bi : Nat → Nat → Int32} {bl : Nat → Nat → Int64} (x : Int32) (hk : ac_K na nr fi ai) (hk2 : rc_K na2 nr2 gi bi bl) (hA : lw_RA fi fl ai al gi gl bi bl) (hR : lw_RD fi fl ai al gi gl bi bl) (hX : ln ≤ 10 ∧ fi 5 = nI ln ∧ ln2 ≤ 10 ∧ (gi 2 = nI ln2 ∨ gi 2 = -1) ∧ nt ≤ 10 ∧ gi 5 = nI nt ∧ 1048576 ≤ F9) : lw_RD (upd (upd fi 8 (if ac_stOk (fi 3) x then (fi 6) else (fi 8))) 9 (if ac_stOk (fi 3) x then (nI x.toNatClampNeg) else (fi 9))) (vp_updL (vp_updL fl 1 (if ac_stOk (fi 3) x then ((ac_try (al 8) (ai 9) (fi 6) (nI x.toNatClampNeg) (ac_least (al 8) (fi 6) (nI x.toNatClampNeg) na) na na 0 0 ((ai 21), (ai 22), (ac_fillL 0 (al 23) 4), (ac_tot (al 8) (fi 6) na + 1))).2.2.2) else (fl 1))) 2 (if ac_stOk (fi 3) x then (ac_least (al 8) (fi 6) (nI x.toNatClampNeg) na) else (fl 2))) (va_up (va_up ai 21 (if ac_stOk (fi 3) x then ((ac_try (al 8) (ai 9) (fi 6) (nI x.toNatClampNeg) (ac_least (al 8) (fi 6) (nI x.toNatClampNeg) na) na na 0 0 ((ai 21), (ai 22), (ac_fillL 0 (al 23) 4), (ac_tot (al 8) (fi 6) na + 1))).1) else (ai 21))) 22 (if ac_stOk (fi 3) x then ((ac_try (al 8) (ai 9) (fi 6) (nI x.toNatClampNeg) (ac_least (al 8) (fi 6) (nI x.toNatClampNeg) na) na na 0 0 ((ai 21), (ai 22), (ac_fillL 0 (al 23) 4), (ac_tot (al 8) (fi 6) na + 1))).2.1) else (ai 22))) (va_up al 23 (if ac_stOk (fi 3) x then ((ac_try (al 8) (ai 9) (fi 6) (nI x.toNatClampNeg) (ac_least (al 8) (fi 6) (nI x.toNatClampNeg) na) na na 0 0 ((ai 21), (ai 22), (ac_fillL 0 (al 23) 4), (ac_tot (al 8) (fi 6) na + 1))).2.2.1) else (al 23))) (upd gi 6 (if rc_stOk (gi 2) x then 1 else (gi 6))) gl (va_up (va_up (va_up bi 16 (if rc_stOk (gi 2) x then (rc_sR bi (bl 4) (gi 2) na2 (x.toNatClampNeg) F9).2.2 else (bi 16))) 20 (if rc_stOk (gi 2) x then (rc_sR bi (bl 4) (gi 2) na2 (x.toNatClampNeg) F9).2.1 else (bi 20))) 21 (if rc_stOk (gi 2) x then rc_sB bi na2 else (bi 21))) bl := by
  have ecl : (fi 0).toNatClampNeg = na := by rw [hk.1]; exact nI_clamp (by have := hk.2.1; omega)
  exact hR
-- ===== states: counted alike =====
theorem b_nI (t : Nat) {i : Nat} (hi : i < 32) : bt (nI t) i = t.testBit i := by
  unfold bt
  show (BitVec.ofNat 32 t).getLsbD i = t.testBit i
  rw [BitVec.getLsbD_ofNat, decide_eq_true hi, Bool.true_and]
theorem b_small {x : Int32} (h : ∀ i, 10 ≤ i → i < 32 → bt x i = false) : ∃ t, t < 1024 ∧ x = nI t := by
  refine ⟨x.toBitVec.toNat, ?_, ?_⟩
  · refine Nat.lt_pow_two_of_testBit (n := 10) _ (fun i hi => ?_)
    rcases Nat.lt_or_ge i 32 with g | g
    · have := h i hi g
      unfold bt at this
      rw [BitVec.getLsbD] at this
      exact this
    · have hx : x.toBitVec.toNat < 2 ^ 32 := x.toBitVec.isLt
      exact Nat.testBit_lt_two_pow (Nat.lt_of_lt_of_le hx (Nat.pow_le_pow_right (by decide) g))
  · apply Int32.toBitVec_inj.1
    show x.toBitVec = BitVec.ofNat 32 x.toBitVec.toNat
    simp
theorem nd_nf {x : Bool} (h : ¬ x = false) : x = true := by cases x <;> first | rfl | exact absurd rfl h
theorem nd_nt {x : Bool} (h : ¬ x = true) : x = false := by cases x <;> first | rfl | exact absurd rfl h
theorem rc_has_t (x : Int32) {k : Nat} (hk : k < 32) : ¬ rc_has x (nI k) = 0 ↔ bt x k = true := by
  rw [rc_has_bt x hk]; cases bt x k <;> simp
theorem ac_has_t (x : Int32) {k : Nat} (hk : k < 32) : ¬ ac_has x (nI k) = 0 ↔ bt x k = true := by
  rw [ac_has_bt x hk]; cases bt x k <;> simp
theorem rc_cb_ok (nds : Nat → Int32) (x : Int32) {a : Nat} (ha : a < 10) (c0 : Int32) : ∀ B, B ≤ 10 → (¬ rc_cb nds x a c0 B = 0 ↔ ¬ c0 = 0 ∧ ∀ b, b < B → bt x a = true → ¬ nds (10 * a + b) = 0 → bt x b = true)
  | 0, _ => ⟨fun h => ⟨h, fun b hb => by omega⟩, fun h => h.1⟩
  | B + 1, hB => by
    have ih := rc_cb_ok nds x ha c0 B (by omega)
    rw [rc_cb]
    by_cases c : rc_cb nds x a c0 B = 0
    · rw [if_pos c]
      refine ⟨fun h => absurd rfl h, fun h => absurd c (ih.mpr ⟨h.1, fun b hb => h.2 b (by omega)⟩)⟩
    · rw [if_neg c]
      have g := ih.mp c
      by_cases c1 : rc_has x (nI a) = 0
      · rw [if_pos c1]
        rw [rc_has_bt x (by omega)] at c1
        exact ⟨fun _ => ⟨g.1, fun b hb h => by rw [c1] at h; cases h⟩, fun _ => by decide⟩
      · rw [if_neg c1]
        rw [rc_has_t x (by omega)] at c1
        by_cases c2 : nds (10 * a + B) = 0
        · rw [if_pos c2]
          refine ⟨fun _ => ⟨g.1, fun b hb h hb2 => ?_⟩, fun _ => by decide⟩
          by_cases q : b = B
          · rw [q] at hb2; exact absurd c2 hb2
          · exact g.2 b (by omega) h hb2
        · rw [if_neg c2]
          by_cases c3 : rc_has x (nI B) = 0
          · rw [if_pos c3]
            rw [rc_has_bt x (by omega)] at c3
            exact ⟨fun h => absurd rfl h, fun h => by have := h.2 B (by omega) c1 c2; rw [c3] at this; cases this⟩
          · rw [if_neg c3]
            rw [rc_has_t x (by omega)] at c3
            refine ⟨fun _ => ⟨g.1, fun b hb h hb2 => ?_⟩, fun _ => by decide⟩
            by_cases q : b = B
            · rw [q]; exact c3
            · exact g.2 b (by omega) h hb2
theorem rc_ca_ok (nds : Nat → Int32) (x : Int32) {n : Nat} (hn : n ≤ 10) : ∀ A, A ≤ n → (¬ rc_ca nds x n A = 0 ↔ ∀ a b, a < A → b < n → bt x a = true → ¬ nds (10 * a + b) = 0 → bt x b = true)
  | 0, _ => ⟨fun _ a b h => by omega, fun _ => by show ¬ (1 : Int32) = 0; decide⟩
  | A + 1, hA => by
    rw [rc_ca, rc_cb_ok nds x (by omega) _ n hn, rc_ca_ok nds x hn A (by omega)]
    constructor
    · rintro ⟨h1, h2⟩ a b ha hb h3 h4
      by_cases q : a = A
      · subst q; exact h2 b hb h3 h4
      · exact h1 a b (by omega) hb h3 h4
    · intro h
      exact ⟨fun a b ha hb => h a b (by omega) hb, fun b hb => h A b (by omega) hb⟩
theorem rc_fa_ok (nds : Nat → Int32) (x : Int32) {last : Nat} (hl : last < 10) : ∀ A, A ≤ 10 → (¬ rc_fa nds x last A = 0 ↔ bt x last = true ∧ ∀ a, a < A → bt x a = true → nds (10 * a + last) = 0)
  | 0, _ => by
    rw [rc_fa, rc_has_t x (by omega)]
    exact ⟨fun h => ⟨h, fun a ha => by omega⟩, fun h => h.1⟩
  | A + 1, hA => by
    have ih := rc_fa_ok nds x hl A (by omega)
    rw [rc_fa]
    by_cases c : rc_fa nds x last A = 0
    · rw [if_pos c]
      exact ⟨fun h => absurd rfl h, fun h => absurd c (ih.mpr ⟨h.1, fun a ha => h.2 a (by omega)⟩)⟩
    · rw [if_neg c]
      have g := ih.mp c
      by_cases c1 : rc_has x (nI A) = 0
      · rw [if_pos c1]
        rw [rc_has_bt x (by omega)] at c1
        refine ⟨fun _ => ⟨g.1, fun a ha h => ?_⟩, fun _ => by decide⟩
        by_cases q : a = A
        · rw [q, c1] at h; cases h
        · exact g.2 a (by omega) h
      · rw [if_neg c1]
        rw [rc_has_t x (by omega)] at c1
        by_cases c2 : nds (10 * A + last) = 0
        · rw [if_pos c2]
          refine ⟨fun _ => ⟨g.1, fun a ha h => ?_⟩, fun _ => by decide⟩
          by_cases q : a = A
          · rw [q]; exact c2
          · exact g.2 a (by omega) h
        · rw [if_neg c2]
          exact ⟨fun h => absurd rfl h, fun h => absurd (h.2 A (by omega) c1) c2⟩
theorem needed_bt (ne : Nat → Int32) (x : Int32) (c : Nat) : ∀ k, k ≤ 10 → (bt (ac_needed ne x k) c = true ↔ ∃ a, a < k ∧ bt x a = true ∧ bt (ne a) c = true)
  | 0, _ => by
    show bt 0 c = true ↔ _
    rw [b_0]
    exact ⟨fun h => absurd h (by decide), fun ⟨a, ha, _⟩ => by omega⟩
  | k + 1, hk => by
    have ih := needed_bt ne x c k (by omega)
    rw [ac_needed]
    by_cases q : ac_has x (nI k) = 0
    · rw [if_pos q, ih]
      rw [ac_has_bt x (by omega)] at q
      refine ⟨fun ⟨a, h1, h2⟩ => ⟨a, by omega, h2⟩, fun ⟨a, h1, h2, h3⟩ => ?_⟩
      by_cases e : a = k
      · rw [e, q] at h2; cases h2
      · exact ⟨a, by omega, h2, h3⟩
    · rw [if_neg q, b_or, Bool.or_eq_true, ih]
      rw [ac_has_t x (by omega)] at q
      constructor
      · rintro (⟨a, h1, h2⟩ | h)
        · exact ⟨a, by omega, h2⟩
        · exact ⟨k, by omega, q, h⟩
      · rintro ⟨a, h1, h2, h3⟩
        by_cases e : a = k
        · subst e; exact Or.inr h3
        · exact Or.inl ⟨a, by omega, h2, h3⟩
theorem b_not (x : Int32) {i : Nat} (hi : i < 32) : bt (x ^^^ (-1)) i = !bt x i := by
  rw [b_xor, b_m1 i hi]; cases bt x i <;> rfl
theorem b_zero {x : Int32} : x = 0 ↔ ∀ i, i < 32 → bt x i = false := by
  constructor
  · rintro rfl i _; exact b_0 i
  · intro h; exact b_ext (fun i hi => by rw [h i hi, b_0])
/-- what is closed under the steps is closed under the paths -/
theorem nd_cl_T {ne nds : Nat → Int32} {n : Nat} (hn : n ≤ 10) (h : nd_Rel ne nds n) {x : Int32} (hc : nd_cl nds n x) {a b : Nat} (ha : bt x a = true) (g : nd_H (nd_E nds 10) a b) : bt x b = true := by
  obtain ⟨k, g⟩ := nd_H_P.mp g
  have go : ∀ k a, bt x a = true → nd_P (nd_E nds 10) k a b → bt x b = true := by
    intro k
    induction k with
    | zero =>
      intro a ha g
      have g : a = b := g
      rw [← g]; exact ha
    | succ k ih =>
      intro a ha ⟨d, ⟨e1, e2, e3⟩, g2⟩
      have l := h.2.2.2 a d e1 e2 e3
      exact ih d (hc a d l.1 l.2 ha e3) g2
  exact go k a ha g
theorem lasts_cl {ne nds : Nat → Int32} {n : Nat} (hn : n ≤ 10) (h : nd_Rel ne nds n) {x : Int32} (hx : ∀ i, n ≤ i → i < 32 → bt x i = false) : (ac_needed ne x n &&& (x ^^^ (-1))) = 0 ↔ nd_cl nds n x := by
  rw [b_zero]
  constructor
  · intro g a b ha hb h1 h2
    have := g b (by omega)
    rw [b_and, b_not x (by omega), (needed_bt ne x b n hn).mpr ⟨a, ha, h1, (h.1 a b (by omega) (by omega)).mpr (nd_T_1 ⟨by omega, by omega, h2⟩)⟩] at this
    cases w : bt x b with
    | true => rfl
    | false => rw [w] at this; cases this
  · intro g i hi
    rw [b_and, b_not x hi]
    cases w : bt (ac_needed ne x n) i with
    | false => rfl
    | true =>
      obtain ⟨a, h1, h2, h3⟩ := (needed_bt ne x i n hn).mp w
      have hi10 : i < 10 := by
        rcases Nat.lt_or_ge i 10 with z | z
        · exact z
        · rw [h.2.1 a i (by omega) z hi] at h3; cases h3
      rw [nd_cl_T hn h g h2 (Or.inr ((h.1 a i (by omega) hi10).mp h3))]; rfl
theorem lasts_0 {ne nds : Nat → Int32} {n : Nat} (hn : n ≤ 10) (h : nd_Rel ne nds n) {x : Int32} (hx : ∀ i, n ≤ i → i < 32 → bt x i = false) (hc : ¬ nd_cl nds n x) : ac_lasts ne n x = 0 := if_neg (fun z => hc ((lasts_cl hn h hx).mp z))
theorem lasts_bt {ne nds : Nat → Int32} {n : Nat} (hn : n ≤ 10) (h : nd_Rel ne nds n) {x : Int32} (hx : ∀ i, n ≤ i → i < 32 → bt x i = false) (hc : nd_cl nds n x) {c : Nat} (hc2 : c < 32) :
    bt (ac_lasts ne n x) c = true ↔ c < n ∧ bt x c = true ∧ ∀ a, a < n → bt x a = true → nds (10 * a + c) = 0 := by
  unfold ac_lasts
  rw [if_pos ((lasts_cl hn h hx).mpr hc), b_and, b_not _ hc2, Bool.and_eq_true, Bool.not_eq_true']
  constructor
  · rintro ⟨h1, h2⟩
    have hcn : c < n := by
      rcases Nat.lt_or_ge c n with z | z
      · exact z
      · rw [hx c z hc2] at h1; cases h1
    refine ⟨hcn, h1, fun a ha h3 => Classical.byContradiction (fun z => ?_)⟩
    rw [(needed_bt ne x c n hn).mpr ⟨a, ha, h3, (h.1 a c (by omega) (by omega)).mpr (nd_T_1 ⟨by omega, by omega, z⟩)⟩] at h2
    cases h2
  · rintro ⟨hcn, h1, h2⟩
    refine ⟨h1, nd_nt (fun w => ?_)⟩
    obtain ⟨a, g1, g2, g3⟩ := (needed_bt ne x c n hn).mp w
    obtain ⟨d, k1, k2⟩ := nd_T_last ((h.1 a c (by omega) (by omega)).mp g3)
    have l := h.2.2.2 d c k2.1 k2.2.1 k2.2.2
    exact k2.2.2 (h2 d l.1 (nd_cl_T hn h hc g2 k1))
theorem nI_out {n s : Nat} (hs : s < 2 ^ n) : ∀ i, n ≤ i → i < 32 → bt (nI s) i = false := by
  intro i hi h32
  rw [b_nI s h32]
  exact Nat.testBit_lt_two_pow (Nat.lt_of_lt_of_le hs (Nat.pow_le_pow_right (by decide) hi))
/-- the states of a set, counted one by one -/
def nd_fc (f : Nat → Bool) : Nat → Nat → Nat
  | 0, _ => 0
  | k + 1, l => (if f l = true then 1 else 0) + nd_fc f k (l + 1)
theorem nd_fc_le (f : Nat → Bool) : ∀ k l, nd_fc f k l ≤ k
  | 0, l => Nat.le_refl 0
  | k + 1, l => by have := nd_fc_le f k (l + 1); rw [nd_fc]; split <;> omega
theorem nd_fc_eq {f g : Nat → Bool} : ∀ k l, (∀ i, i < l + k → f i = g i) → nd_fc f k l = nd_fc g k l
  | 0, _, _ => rfl
  | k + 1, l, h => by rw [nd_fc, nd_fc, h l (by omega), nd_fc_eq k (l + 1) (fun i hi => h i (by omega))]
theorem nd_w : ∀ c, c < 20 → (nI (1 + c)).toInt64 = 1 + (nI c).toInt64 := by decide +kernel
theorem rc_sl_ct {nds : Nat → Int32} {x : Int32} {na : Nat} (h : ¬ rc_ca nds x na na = 0) : ∀ k l m, k ≤ 10 → rc_sl nds x na k l m = m + (nI (nd_fc (fun i => !decide (rc_fa nds x i na = 0)) k l)).toInt64
  | 0, l, m, _ => by rw [rc_sl, nd_fc]; exact (Int64.add_zero m).symm
  | k + 1, l, m, hk => by
    rw [rc_sl, if_neg h, rc_sl_ct h k (l + 1) _ (by omega), nd_fc]
    have hl := nd_fc_le (fun i => !decide (rc_fa nds x i na = 0)) k (l + 1)
    by_cases c : rc_fa nds x l na = 0
    · rw [if_pos c, if_neg (by simp [c]), Nat.zero_add]
    · rw [if_neg c, if_pos (by simp [c]), nd_w _ (by omega), Int64.add_assoc]
theorem bc_ok : ∀ t, t < 1024 → ac_bc (nI t) = nI (nd_fc t.testBit 10 0) := by decide +kernel
theorem nd_fc_more {f : Nat → Bool} : ∀ k l j, (∀ i, l + k ≤ i → i < l + k + j → f i = false) → nd_fc f (k + j) l = nd_fc f k l
  | 0, l, 0, _ => rfl
  | 0, l, j + 1, h => by
    rw [Nat.zero_add]
    show (if f l = true then 1 else 0) + nd_fc f j (l + 1) = 0
    rw [if_neg (by rw [h l (by omega) (by omega)]; decide), Nat.zero_add]
    have := nd_fc_more (f := f) 0 (l + 1) j (fun i h1 h2 => h i (by omega) (by omega))
    rw [Nat.zero_add] at this
    exact this
  | k + 1, l, j, h => by
    rw [show k + 1 + j = (k + j) + 1 by omega, nd_fc, nd_fc, nd_fc_more k (l + 1) j (fun i h1 h2 => h i (by omega) (by omega))]
theorem states_set {ne nds : Nat → Int32} {n : Nat} (hn : n ≤ 10) (h : nd_Rel ne nds n) {s : Nat} (hs : s < 2 ^ n) (m : Int64) : rc_sl nds (nI s) n n 0 m = m + (ac_bc (ac_lasts ne n (nI s))).toInt64 := by
  have hx := nI_out hs
  by_cases c : rc_ca nds (nI s) n n = 0
  · rw [rc_sl_stop c, lasts_0 hn h hx (fun z => (rc_ca_ok nds (nI s) hn n (Nat.le_refl n)).mpr (fun a b ha hb => z a b ha hb) c)]
    rw [show (ac_bc 0).toInt64 = 0 by decide +kernel, Int64.add_zero]
  · have hc : nd_cl nds n (nI s) := fun a b ha hb => (rc_ca_ok nds (nI s) hn n (Nat.le_refl n)).mp c a b ha hb
    rw [rc_sl_ct c n 0 m hn]
    obtain ⟨t, ht, et⟩ := b_small (x := ac_lasts ne n (nI s)) (fun i h1 h2 => nd_nt (fun w => by have := ((lasts_bt hn h hx hc h2).mp w).1; omega))
    rw [et, bc_ok t ht]
    have hb : ∀ i, i < 32 → t.testBit i = bt (ac_lasts ne n (nI s)) i := fun i hi => by rw [et, b_nI t hi]
    have h10 : nd_fc t.testBit 10 0 = nd_fc t.testBit n 0 := by
      rw [show (10 : Nat) = n + (10 - n) by omega]
      refine nd_fc_more n 0 (10 - n) (fun i h1 h2 => ?_)
      rw [hb i (by omega)]
      exact nd_nt (fun w => by have := ((lasts_bt hn h hx hc (show i < 32 by omega)).mp w).1; omega)
    rw [h10]
    refine congrArg (fun q => m + (nI q).toInt64) (nd_fc_eq n 0 (fun i hi => ?_))
    rw [hb i (by omega)]
    have e1 := rc_fa_ok nds (nI s) (show i < 10 by omega) n hn
    have e2 := lasts_bt hn h hx hc (show i < 32 by omega)
    cases w : bt (ac_lasts ne n (nI s)) i with
    | true =>
      have := e1.mpr (e2.mp w).2
      simp [this]
    | false =>
      have : rc_fa nds (nI s) i n = 0 := Classical.byContradiction (fun z => by
        have := e2.mpr ⟨by omega, e1.mp z⟩
        rw [w] at this; cases this)
      simp [this]
theorem states_ok {ne nds : Nat → Int32} {n : Nat} (hn : n ≤ 10) (h : nd_Rel ne nds n) : ∀ k, k ≤ 2 ^ n - 1 → ac_count ne n k = rc_st nds n k
  | 0, _ => rfl
  | k + 1, hk => by rw [ac_count, rc_st, states_ok hn h k (by omega), states_set hn h (by omega)]
-- ===== up to date, or not =====
def lw_RF (fi : Nat → Int32) (fl : Nat → Int64) (ai : Nat → Nat → Int32) (al : Nat → Nat → Int64) (gi : Nat → Int32) (gl : Nat → Int64) (bi : Nat → Nat → Int32) (bl : Nat → Nat → Int64) : Prop := gi 3 = if fi 3 = 0 then 0 else if fi 4 = 0 then 0 else 1
theorem lw_RF0 : lw_RF (fun _ => 0) (fun _ => 0) ac_ai0 ac_al0 rc_fi0 (fun _ => 0) (rc_ai0 12) (fun _ _ => 0) := rfl
theorem lw_stale (x : Int32) : (0 : Int32) = if x = 0 then 0 else if (0 : Int32) = 0 then 0 else 1 := by split <;> rfl
set_option maxRecDepth 100000 in
theorem lrF_act {na nr na2 nr2 ln ln2 nt F9 : Nat} {fi : Nat → Int32} {fl : Nat → Int64} {ai : Nat → Nat → Int32} {al : Nat → Nat → Int64} {gi : Nat → Int32} {gl : Nat → Int64} {bi : Nat → Nat → Int32} {bl : Nat → Nat → Int64} (x : Int32) (t : Int32) (d : Int32) (z : Int64) (hk : ac_K na nr fi ai) (hk2 : rc_K na2 nr2 gi bi bl) (hA : lw_RA fi fl ai al gi gl bi bl) (hD : lw_RD fi fl ai al gi gl bi bl) (hR : lw_RF fi fl ai al gi gl bi bl) (hX : ln ≤ 10 ∧ fi 5 = nI ln ∧ ln2 ≤ 10 ∧ (gi 2 = nI ln2 ∨ gi 2 = -1) ∧ nt ≤ 10 ∧ gi 5 = nI nt ∧ 1048576 ≤ F9) : lw_RF (upd (upd fi 0 (if ac_actOk (fi 0) x t d z then (fi 0) + 1 else (fi 0))) 4 (if ac_actOk (fi 0) x t d z then 0 else (fi 4))) fl (va_up (va_up (va_up ai 5 (if ac_actOk (fi 0) x t d z then upd (ai 5) na x else (ai 5))) 6 (if ac_actOk (fi 0) x t d z then upd (ai 6) na t else (ai 6))) 7 (if ac_actOk (fi 0) x t d z then upd (ai 7) na d else (ai 7))) (va_up al 8 (if ac_actOk (fi 0) x t d z then vp_updL (al 8) na z else (al 8))) (upd (upd gi 0 (if rc_actOk (gi 0) x t d z then (gi 0) + 1 else (gi 0))) 3 (if rc_actOk (gi 0) x t d z then 0 else (gi 3))) gl (va_up (va_up (va_up bi 1 (if rc_actOk (gi 0) x t d z then upd (bi 1) na2 x else (bi 1))) 2 (if rc_actOk (gi 0) x t d z then upd (bi 2) na2 t else (bi 2))) 3 (if rc_actOk (gi 0) x t d z then upd (bi 3) na2 d else (bi 3))) (va_up bl 4 (if rc_actOk (gi 0) x t d z then vp_updL (bl 4) na2 z else (bl 4))) := by
  have e : ac_actOk (fi 0) x t d z ↔ (rc_actOk (gi 0) x t d z) := (by rw [hA.1.1]; exact lw_actOk hk.1 hk.2.1 x t d z)
  by_cases c : ac_actOk (fi 0) x t d z
  · have c2 := e.mp c
    simp only [if_pos c, if_pos c2]
    exact lw_stale _
  · have c2 : ¬ (rc_actOk (gi 0) x t d z) := fun h => c (e.mpr h)
    simp only [if_neg c, if_neg c2]
    exact hR
set_option maxRecDepth 100000 in
theorem lrF_before {na nr na2 nr2 ln ln2 nt F9 : Nat} {fi : Nat → Int32} {fl : Nat → Int64} {ai : Nat → Nat → Int32} {al : Nat → Nat → Int64} {gi : Nat → Int32} {gl : Nat → Int64} {bi : Nat → Nat → Int32} {bl : Nat → Nat → Int64} (x : Int32) (y : Int32) (hk : ac_K na nr fi ai) (hk2 : rc_K na2 nr2 gi bi bl) (hA : lw_RA fi fl ai al gi gl bi bl) (hD : lw_RD fi fl ai al gi gl bi bl) (hR : lw_RF fi fl ai al gi gl bi bl) (hX : ln ≤ 10 ∧ fi 5 = nI ln ∧ ln2 ≤ 10 ∧ (gi 2 = nI ln2 ∨ gi 2 = -1) ∧ nt ≤ 10 ∧ gi 5 = nI nt ∧ 1048576 ≤ F9) : lw_RF (upd fi 4 (if ac_befOk (fi 0) (ai 9) x y then 0 else (fi 4))) fl (va_up ai 9 (if ac_befOk (fi 0) (ai 9) x y then ac_addNeed ((ai 9) x.toNatClampNeg ||| ((1 : Int32) <<< (x &&& 31))) y (ai 9) na else (ai 9))) al (upd gi 3 (if rc_befOk (gi 0) (bi 6) na2 x y then 0 else (gi 3))) gl (va_up bi 6 (if rc_befOk (gi 0) (bi 6) na2 x y then upd (bi 6) (10 * y.toNatClampNeg + x.toNatClampNeg) 1 else (bi 6))) bl := by
  obtain rfl : na = na2 := (lw_na hk2.1.1 (by have := hk2.1.2.1; omega) hk.1 (by have := hk.2.1; omega) hA.1.1).symm
  have ecl : (fi 0).toNatClampNeg = na := by rw [hk.1]; exact nI_clamp (by have := hk.2.1; omega)
  have hDn : nd_Rel (ai 9) (bi 6) na := by rw [← ecl]; exact hD
  have e : ac_befOk (fi 0) (ai 9) x y ↔ (rc_befOk (gi 0) (bi 6) na x y) := lw_befOk hk.1 hk.2.1 hA.1.1 hDn x y
  by_cases c : ac_befOk (fi 0) (ai 9) x y
  · have c2 := e.mp c
    simp only [if_pos c, if_pos c2]
    exact lw_stale _
  · have c2 : ¬ (rc_befOk (gi 0) (bi 6) na x y) := fun h => c (e.mpr h)
    simp only [if_neg c, if_neg c2]
    exact hR
set_option maxRecDepth 100000 in
theorem lrF_change {na nr na2 nr2 ln ln2 nt F9 : Nat} {fi : Nat → Int32} {fl : Nat → Int64} {ai : Nat → Nat → Int32} {al : Nat → Nat → Int64} {gi : Nat → Int32} {gl : Nat → Int64} {bi : Nat → Nat → Int32} {bl : Nat → Nat → Int64} (x : Int32) (y : Int32) (z : Int64) (hk : ac_K na nr fi ai) (hk2 : rc_K na2 nr2 gi bi bl) (hA : lw_RA fi fl ai al gi gl bi bl) (hD : lw_RD fi fl ai al gi gl bi bl) (hR : lw_RF fi fl ai al gi gl bi bl) (hX : ln ≤ 10 ∧ fi 5 = nI ln ∧ ln2 ≤ 10 ∧ (gi 2 = nI ln2 ∨ gi 2 = -1) ∧ nt ≤ 10 ∧ gi 5 = nI nt ∧ 1048576 ≤ F9) : lw_RF (upd fi 4 (if ac_movOk x y z then 0 else (fi 4))) fl ai (va_up al 10 (if ac_movOk x y z then vp_updL (al 10) ((x * 6 + y).toNatClampNeg) z else (al 10))) (upd gi 3 (if rc_movOk x y z then 0 else (gi 3))) gl bi (va_up bl 7 (if rc_movOk x y z then vp_updL (bl 7) ((6 * x + y).toNatClampNeg) z else (bl 7))) := by
  have e : ac_movOk x y z ↔ (rc_movOk x y z) := lw_movOk x y z
  by_cases c : ac_movOk x y z
  · have c2 := e.mp c
    simp only [if_pos c, if_pos c2]
    exact lw_stale _
  · have c2 : ¬ (rc_movOk x y z) := fun h => c (e.mpr h)
    simp only [if_neg c, if_neg c2]
    exact hR
set_option maxRecDepth 100000 in
theorem lrF_turn {na nr na2 nr2 ln ln2 nt F9 : Nat} {fi : Nat → Int32} {fl : Nat → Int64} {ai : Nat → Nat → Int32} {al : Nat → Nat → Int64} {gi : Nat → Int32} {gl : Nat → Int64} {bi : Nat → Nat → Int32} {bl : Nat → Nat → Int64} (x : Int32) (y : Int32) (z : Int64) (hk : ac_K na nr fi ai) (hk2 : rc_K na2 nr2 gi bi bl) (hA : lw_RA fi fl ai al gi gl bi bl) (hD : lw_RD fi fl ai al gi gl bi bl) (hR : lw_RF fi fl ai al gi gl bi bl) (hX : ln ≤ 10 ∧ fi 5 = nI ln ∧ ln2 ≤ 10 ∧ (gi 2 = nI ln2 ∨ gi 2 = -1) ∧ nt ≤ 10 ∧ gi 5 = nI nt ∧ 1048576 ≤ F9) : lw_RF (upd fi 4 (if ac_movOk x y z then 0 else (fi 4))) fl ai (va_up al 11 (if ac_movOk x y z then vp_updL (al 11) ((x * 6 + y).toNatClampNeg) z else (al 11))) (upd gi 3 (if rc_movOk x y z then 0 else (gi 3))) gl bi (va_up bl 8 (if rc_movOk x y z then vp_updL (bl 8) ((6 * x + y).toNatClampNeg) z else (bl 8))) := by
  have e : ac_movOk x y z ↔ (rc_movOk x y z) := lw_movOk x y z
  by_cases c : ac_movOk x y z
  · have c2 := e.mp c
    simp only [if_pos c, if_pos c2]
    exact lw_stale _
  · have c2 : ¬ (rc_movOk x y z) := fun h => c (e.mpr h)
    simp only [if_neg c, if_neg c2]
    exact hR
set_option maxRecDepth 100000 in
theorem lrF_worth {na nr na2 nr2 ln ln2 nt F9 : Nat} {fi : Nat → Int32} {fl : Nat → Int64} {ai : Nat → Nat → Int32} {al : Nat → Nat → Int64} {gi : Nat → Int32} {gl : Nat → Int64} {bi : Nat → Nat → Int32} {bl : Nat → Nat → Int64} (x : Int32) (z : Int64) (hk : ac_K na nr fi ai) (hk2 : rc_K na2 nr2 gi bi bl) (hA : lw_RA fi fl ai al gi gl bi bl) (hD : lw_RD fi fl ai al gi gl bi bl) (hR : lw_RF fi fl ai al gi gl bi bl) (hX : ln ≤ 10 ∧ fi 5 = nI ln ∧ ln2 ≤ 10 ∧ (gi 2 = nI ln2 ∨ gi 2 = -1) ∧ nt ≤ 10 ∧ gi 5 = nI nt ∧ 1048576 ≤ F9) : lw_RF (upd fi 4 (if ac_worOk x z then 0 else (fi 4))) fl ai (va_up al 12 (if ac_worOk x z then vp_updL (al 12) x.toNatClampNeg z else (al 12))) (upd gi 3 (if ac_worOk x z then 0 else (gi 3))) gl bi (va_up bl 9 (if ac_worOk x z then vp_updL (bl 9) x.toNatClampNeg z else (bl 9))) := by
  have e : ac_worOk x z ↔ (ac_worOk x z) := Iff.rfl
  by_cases c : ac_worOk x z
  · have c2 := e.mp c
    simp only [if_pos c, if_pos c2]
    exact lw_stale _
  · have c2 : ¬ (ac_worOk x z) := fun h => c (e.mpr h)
    simp only [if_neg c, if_neg c2]
    exact hR
set_option maxRecDepth 100000 in
theorem lrF_rest {na nr na2 nr2 ln ln2 nt F9 : Nat} {fi : Nat → Int32} {fl : Nat → Int64} {ai : Nat → Nat → Int32} {al : Nat → Nat → Int64} {gi : Nat → Int32} {gl : Nat → Int64} {bi : Nat → Nat → Int32} {bl : Nat → Nat → Int64} (v : Int64) (z : Int64) (hk : ac_K na nr fi ai) (hk2 : rc_K na2 nr2 gi bi bl) (hA : lw_RA fi fl ai al gi gl bi bl) (hD : lw_RD fi fl ai al gi gl bi bl) (hR : lw_RF fi fl ai al gi gl bi bl) (hX : ln ≤ 10 ∧ fi 5 = nI ln ∧ ln2 ≤ 10 ∧ (gi 2 = nI ln2 ∨ gi 2 = -1) ∧ nt ≤ 10 ∧ gi 5 = nI nt ∧ 1048576 ≤ F9) : lw_RF (upd (upd fi 2 (if ac_rstOk v z (ac_place (ai 14) v.toInt32 nr 0) then if ac_place (ai 14) v.toInt32 nr 0 = nr then (fi 2) + 1 else (fi 2) else (fi 2))) 4 (if ac_rstOk v z (ac_place (ai 14) v.toInt32 nr 0) then 0 else (fi 4))) fl (va_up ai 14 (if ac_rstOk v z (ac_place (ai 14) v.toInt32 nr 0) then upd (ai 14) (ac_place (ai 14) v.toInt32 nr 0) v.toInt32 else (ai 14))) (va_up al 15 (if ac_rstOk v z (ac_place (ai 14) v.toInt32 nr 0) then vp_updL (al 15) (ac_place (ai 14) v.toInt32 nr 0) z else (al 15))) (upd (upd gi 1 (if rc_rstOk v z (rc_pl (bi 12) v nr2 0) then if rc_pl (bi 12) v nr2 0 = nr2 then (gi 1) + 1 else (gi 1) else (gi 1))) 3 (if rc_rstOk v z (rc_pl (bi 12) v nr2 0) then 0 else (gi 3))) gl (va_up bi 12 (if rc_rstOk v z (rc_pl (bi 12) v nr2 0) then upd (bi 12) (rc_pl (bi 12) v nr2 0) v.toInt32 else (bi 12))) (va_up bl 13 (if rc_rstOk v z (rc_pl (bi 12) v nr2 0) then vp_updL (bl 13) (rc_pl (bi 12) v nr2 0) z else (bl 13))) := by
  obtain rfl : nr = nr2 := (lw_na hk2.1.2.2.1 (by have := hk2.1.2.2.2.1; omega) hk.2.2.1 (by have := hk.2.2.2.1; omega) hA.1.2.1).symm
  have e : ac_rstOk v z (ac_place (ai 14) v.toInt32 nr 0) ↔ (rc_rstOk v z (rc_pl (bi 12) v nr 0)) := lw_rstOk hA.2.2.1.1 hk.2.2.2.1
  by_cases c : ac_rstOk v z (ac_place (ai 14) v.toInt32 nr 0)
  · have c2 := e.mp c
    simp only [if_pos c, if_pos c2]
    exact lw_stale _
  · have c2 : ¬ (rc_rstOk v z (rc_pl (bi 12) v nr 0)) := fun h => c (e.mpr h)
    simp only [if_neg c, if_neg c2]
    exact hR
set_option maxRecDepth 100000 in
theorem lrF_breaks {na nr na2 nr2 ln ln2 nt F9 : Nat} {fi : Nat → Int32} {fl : Nat → Int64} {ai : Nat → Nat → Int32} {al : Nat → Nat → Int64} {gi : Nat → Int32} {gl : Nat → Int64} {bi : Nat → Nat → Int32} {bl : Nat → Nat → Int64} (x : Int32) (hk : ac_K na nr fi ai) (hk2 : rc_K na2 nr2 gi bi bl) (hA : lw_RA fi fl ai al gi gl bi bl) (hD : lw_RD fi fl ai al gi gl bi bl) (hR : lw_RF fi fl ai al gi gl bi bl) (hX : ln ≤ 10 ∧ fi 5 = nI ln ∧ ln2 ≤ 10 ∧ (gi 2 = nI ln2 ∨ gi 2 = -1) ∧ nt ≤ 10 ∧ gi 5 = nI nt ∧ 1048576 ≤ F9) : lw_RF (upd (upd fi 1 (if ac_brkOk (fi 0) (fi 1) x then (fi 1) ||| ((1 : Int32) <<< (x &&& 31)) else (fi 1))) 4 (if ac_brkOk (fi 0) (fi 1) x then 0 else (fi 4))) fl ai al (upd gi 3 (if rc_brkOk (gi 0) (bi 5) x then 0 else (gi 3))) gl (va_up bi 5 (if rc_brkOk (gi 0) (bi 5) x then upd (bi 5) x.toNatClampNeg 1 else (bi 5))) bl := by
  have e : ac_brkOk (fi 0) (fi 1) x ↔ (rc_brkOk (gi 0) (bi 5) x) := (by rw [hA.1.1]; exact lw_brkOk hk.1 hk.2.1 hA.2.2.2.1 x)
  by_cases c : ac_brkOk (fi 0) (fi 1) x
  · have c2 := e.mp c
    simp only [if_pos c, if_pos c2]
    exact lw_stale _
  · have c2 : ¬ (rc_brkOk (gi 0) (bi 5) x) := fun h => c (e.mpr h)
    simp only [if_neg c, if_neg c2]
    exact hR
set_option maxRecDepth 100000 in
theorem lrF_sure {na nr na2 nr2 ln ln2 nt F9 : Nat} {fi : Nat → Int32} {fl : Nat → Int64} {ai : Nat → Nat → Int32} {al : Nat → Nat → Int64} {gi : Nat → Int32} {gl : Nat → Int64} {bi : Nat → Nat → Int32} {bl : Nat → Nat → Int64} (x : Int32) (u : Int64) (v : Int64) (hk : ac_K na nr fi ai) (hk2 : rc_K na2 nr2 gi bi bl) (hA : lw_RA fi fl ai al gi gl bi bl) (hD : lw_RD fi fl ai al gi gl bi bl) (hR : lw_RF fi fl ai al gi gl bi bl) (hX : ln ≤ 10 ∧ fi 5 = nI ln ∧ ln2 ≤ 10 ∧ (gi 2 = nI ln2 ∨ gi 2 = -1) ∧ nt ≤ 10 ∧ gi 5 = nI nt ∧ 1048576 ≤ F9) : lw_RF (upd fi 4 (if ac_surOk x u v then 0 else (fi 4))) fl ai (va_up al 13 (if ac_surOk x u v then vp_updL (al 13) x.toNatClampNeg (27720 / v * u) else (al 13))) (upd gi 3 (if ac_surOk x u v then 0 else (gi 3))) gl (va_up (va_up bi 10 (if ac_surOk x u v then upd (bi 10) x.toNatClampNeg u.toInt32 else (bi 10))) 11 (if ac_surOk x u v then upd (bi 11) x.toNatClampNeg v.toInt32 else (bi 11))) bl := by
  have e : ac_surOk x u v ↔ (ac_surOk x u v) := Iff.rfl
  by_cases c : ac_surOk x u v
  · have c2 := e.mp c
    simp only [if_pos c, if_pos c2]
    exact lw_stale _
  · have c2 : ¬ (ac_surOk x u v) := fun h => c (e.mpr h)
    simp only [if_neg c, if_neg c2]
    exact hR
set_option maxRecDepth 100000 in
theorem lrF_run {na nr na2 nr2 ln ln2 nt F9 : Nat} {fi : Nat → Int32} {fl : Nat → Int64} {ai : Nat → Nat → Int32} {al : Nat → Nat → Int64} {gi : Nat → Int32} {gl : Nat → Int64} {bi : Nat → Nat → Int32} {bl : Nat → Nat → Int64} (z : Int64) (hk : ac_K na nr fi ai) (hk2 : rc_K na2 nr2 gi bi bl) (hA : lw_RA fi fl ai al gi gl bi bl) (hD : lw_RD fi fl ai al gi gl bi bl) (hR : lw_RF fi fl ai al gi gl bi bl) (hX : ln ≤ 10 ∧ fi 5 = nI ln ∧ ln2 ≤ 10 ∧ (gi 2 = nI ln2 ∨ gi 2 = -1) ∧ nt ≤ 10 ∧ gi 5 = nI nt ∧ 1048576 ≤ F9) : lw_RF (upd (upd (upd (upd (upd fi 3 (if ac_count (ai 9) na (2 ^ na - 1) ≤ z then 1 else (fi 3))) 4 (if ac_count (ai 9) na (2 ^ na - 1) ≤ z then 1 else (fi 4))) 5 (if ac_count (ai 9) na (2 ^ na - 1) ≤ z then (nI (ac_rk fi ai (va_up (va_up (va_up al 16 (ac_vals (al 12) (al 13) (al 16) 12)) 17 (ac_rs ai (va_up al 16 (ac_vals (al 12) (al 13) (al 16) 12)) na)) 18 (ac_rd fi ai (va_up al 16 (ac_vals (al 12) (al 13) (al 16) 12)) na nr)) na nr).2.1) else (fi 5))) 6 (if ac_count (ai 9) na (2 ^ na - 1) ≤ z then (nI (ac_rk fi ai (va_up (va_up (va_up al 16 (ac_vals (al 12) (al 13) (al 16) 12)) 17 (ac_rs ai (va_up al 16 (ac_vals (al 12) (al 13) (al 16) 12)) na)) 18 (ac_rd fi ai (va_up al 16 (ac_vals (al 12) (al 13) (al 16) 12)) na nr)) na nr).2.2) else (fi 6))) 7 (if ac_count (ai 9) na (2 ^ na - 1) ≤ z then (ac_freed (ai 5) (nI (ac_rk fi ai (va_up (va_up (va_up al 16 (ac_vals (al 12) (al 13) (al 16) 12)) 17 (ac_rs ai (va_up al 16 (ac_vals (al 12) (al 13) (al 16) 12)) na)) 18 (ac_rd fi ai (va_up al 16 (ac_vals (al 12) (al 13) (al 16) 12)) na nr)) na nr).2.2) na) else (fi 7))) (vp_updL fl 0 (if ac_count (ai 9) na (2 ^ na - 1) ≤ z then (ac_rg fi ai (va_up al 16 (ac_vals (al 12) (al 13) (al 16) 12)) na nr) else (fl 0))) (va_up ai 19 (if ac_count (ai 9) na (2 ^ na - 1) ≤ z then ((ac_rk fi ai (va_up (va_up (va_up al 16 (ac_vals (al 12) (al 13) (al 16) 12)) 17 (ac_rs ai (va_up al 16 (ac_vals (al 12) (al 13) (al 16) 12)) na)) 18 (ac_rd fi ai (va_up al 16 (ac_vals (al 12) (al 13) (al 16) 12)) na nr)) na nr).1) else (ai 19))) (va_up (va_up (va_up (va_up al 16 (if ac_count (ai 9) na (2 ^ na - 1) ≤ z then (ac_vals (al 12) (al 13) (al 16) 12) else (al 16))) 17 (if ac_count (ai 9) na (2 ^ na - 1) ≤ z then (ac_rs ai (va_up al 16 (ac_vals (al 12) (al 13) (al 16) 12)) na) else (al 17))) 18 (if ac_count (ai 9) na (2 ^ na - 1) ≤ z then (ac_rd fi ai (va_up al 16 (ac_vals (al 12) (al 13) (al 16) 12)) na nr) else (al 18))) 20 (if ac_count (ai 9) na (2 ^ na - 1) ≤ z then (ac_rb fi ai (va_up (va_up (va_up al 16 (ac_vals (al 12) (al 13) (al 16) 12)) 17 (ac_rs ai (va_up al 16 (ac_vals (al 12) (al 13) (al 16) 12)) na)) 18 (ac_rd fi ai (va_up al 16 (ac_vals (al 12) (al 13) (al 16) 12)) na nr)) na (nI (ac_rk fi ai (va_up (va_up (va_up al 16 (ac_vals (al 12) (al 13) (al 16) 12)) 17 (ac_rs ai (va_up al 16 (ac_vals (al 12) (al 13) (al 16) 12)) na)) 18 (ac_rd fi ai (va_up al 16 (ac_vals (al 12) (al 13) (al 16) 12)) na nr)) na nr).2.2)) else (al 20))) (upd (upd (upd (upd gi 2 (if rc_runOk (rc_st (bi 6) na2 (2 ^ na2 - 1)) z then nI (rc_runQ bi bl (gi 7) (gi 8) na2 nr2 F9).2.1 else (gi 2))) 3 (if rc_runOk (rc_st (bi 6) na2 (2 ^ na2 - 1)) z then 1 else (gi 3))) 4 (if rc_runOk (rc_st (bi 6) na2 (2 ^ na2 - 1)) z then rc_rest (bi 1) (nI (rc_runQ bi bl (gi 7) (gi 8) na2 nr2 F9).1) na2 else (gi 4))) 5 (if rc_runOk (rc_st (bi 6) na2 (2 ^ na2 - 1)) z then (gi 0) else (gi 5))) (vp_updL gl 0 (if rc_runOk (rc_st (bi 6) na2 (2 ^ na2 - 1)) z then (rc_bwQ bi bl (gi 7) (gi 8) na2 nr2).1 else (gl 0))) (va_up (va_up bi 14 (if rc_runOk (rc_st (bi 6) na2 (2 ^ na2 - 1)) z then (rc_runQ bi bl (gi 7) (gi 8) na2 nr2 F9).2.2.1 else (bi 14))) 17 (if rc_runOk (rc_st (bi 6) na2 (2 ^ na2 - 1)) z then rc_bwN bi na2 else (bi 17))) (va_up (va_up (va_up bl 15 (if rc_runOk (rc_st (bi 6) na2 (2 ^ na2 - 1)) z then rc_bro (rc_brings (bi 1) (bi 5) (bi 10) (bi 11) (bl 9) (gi 7) (gi 8) na2 (nI (rc_runQ bi bl (gi 7) (gi 8) na2 nr2 F9).1)) (bl 15) 12 else (bl 15))) 18 (if rc_runOk (rc_st (bi 6) na2 (2 ^ na2 - 1)) z then (rc_runQ bi bl (gi 7) (gi 8) na2 nr2 F9).2.2.2 else (bl 18))) 19 (if rc_runOk (rc_st (bi 6) na2 (2 ^ na2 - 1)) z then rc_bwV bi bl (gi 7) (gi 8) na2 nr2 else (bl 19))) := by
  obtain rfl : na = na2 := (lw_na hk2.1.1 (by have := hk2.1.2.1; omega) hk.1 (by have := hk.2.1; omega) hA.1.1).symm
  have ecl : (fi 0).toNatClampNeg = na := by rw [hk.1]; exact nI_clamp (by have := hk.2.1; omega)
  have hDn : nd_Rel (ai 9) (bi 6) na := by rw [← ecl]; exact hD
  have e : ac_count (ai 9) na (2 ^ na - 1) ≤ z ↔ (rc_runOk (rc_st (bi 6) na (2 ^ na - 1)) z) := (by unfold rc_runOk; rw [states_ok hk.2.1 hDn _ (Nat.le_refl _)])
  by_cases c : ac_count (ai 9) na (2 ^ na - 1) ≤ z
  · have c2 := e.mp c
    simp only [if_pos c, if_pos c2]
    exact rfl
  · have c2 : ¬ (rc_runOk (rc_st (bi 6) na (2 ^ na - 1)) z) := fun h => c (e.mpr h)
    simp only [if_neg c, if_neg c2]
    exact hR
set_option maxRecDepth 100000 in
theorem lrF_test {na nr na2 nr2 ln ln2 nt F9 : Nat} {fi : Nat → Int32} {fl : Nat → Int64} {ai : Nat → Nat → Int32} {al : Nat → Nat → Int64} {gi : Nat → Int32} {gl : Nat → Int64} {bi : Nat → Nat → Int32} {bl : Nat → Nat → Int64} (x : Int32) (z : Int64) (hk : ac_K na nr fi ai) (hk2 : rc_K na2 nr2 gi bi bl) (hA : lw_RA fi fl ai al gi gl bi bl) (hD : lw_RD fi fl ai al gi gl bi bl) (hR : lw_RF fi fl ai al gi gl bi bl) (hX : ln ≤ 10 ∧ fi 5 = nI ln ∧ ln2 ≤ 10 ∧ (gi 2 = nI ln2 ∨ gi 2 = -1) ∧ nt ≤ 10 ∧ gi 5 = nI nt ∧ 1048576 ≤ F9) : lw_RF fi fl ai (va_up (va_up (va_up al 16 (if ac_tstOk x z then (vp_updL (vp_updL (ac_vals (al 12) (al 13) (al 16) 12) x.toNatClampNeg ((al 12) x.toNatClampNeg * 27720)) x.toNatClampNeg ((al 12) x.toNatClampNeg * 0)) else (al 16))) 17 (if ac_tstOk x z then (ac_rs ai (va_up (va_up (va_up al 16 (vp_updL (vp_updL (ac_vals (al 12) (al 13) (al 16) 12) x.toNatClampNeg ((al 12) x.toNatClampNeg * 27720)) x.toNatClampNeg ((al 12) x.toNatClampNeg * 0))) 17 (ac_rs ai (va_up (va_up (va_up al 16 (vp_updL (ac_vals (al 12) (al 13) (al 16) 12) x.toNatClampNeg ((al 12) x.toNatClampNeg * 27720))) 17 (ac_rs ai (va_up al 16 (ac_vals (al 12) (al 13) (al 16) 12)) na)) 18 (ac_rd fi ai (va_up al 16 (ac_vals (al 12) (al 13) (al 16) 12)) na nr)) na)) 18 (ac_rd fi ai (va_up (va_up (va_up al 16 (vp_updL (ac_vals (al 12) (al 13) (al 16) 12) x.toNatClampNeg ((al 12) x.toNatClampNeg * 27720))) 17 (ac_rs ai (va_up al 16 (ac_vals (al 12) (al 13) (al 16) 12)) na)) 18 (ac_rd fi ai (va_up al 16 (ac_vals (al 12) (al 13) (al 16) 12)) na nr)) na nr)) na) else (al 17))) 18 (if ac_tstOk x z then (ac_rd fi ai (va_up (va_up (va_up al 16 (vp_updL (vp_updL (ac_vals (al 12) (al 13) (al 16) 12) x.toNatClampNeg ((al 12) x.toNatClampNeg * 27720)) x.toNatClampNeg ((al 12) x.toNatClampNeg * 0))) 17 (ac_rs ai (va_up (va_up (va_up al 16 (vp_updL (ac_vals (al 12) (al 13) (al 16) 12) x.toNatClampNeg ((al 12) x.toNatClampNeg * 27720))) 17 (ac_rs ai (va_up al 16 (ac_vals (al 12) (al 13) (al 16) 12)) na)) 18 (ac_rd fi ai (va_up al 16 (ac_vals (al 12) (al 13) (al 16) 12)) na nr)) na)) 18 (ac_rd fi ai (va_up (va_up (va_up al 16 (vp_updL (ac_vals (al 12) (al 13) (al 16) 12) x.toNatClampNeg ((al 12) x.toNatClampNeg * 27720))) 17 (ac_rs ai (va_up al 16 (ac_vals (al 12) (al 13) (al 16) 12)) na)) 18 (ac_rd fi ai (va_up al 16 (ac_vals (al 12) (al 13) (al 16) 12)) na nr)) na nr)) na nr) else (al 18))) (upd (upd gi 7 (if ac_tstOk x z then (-1) else (gi 7))) 8 (if ac_tstOk x z then 0 else (gi 8))) gl (va_up bi 17 (if ac_tstOk x z then (rc_bwA (rc_bwA (rc_bwA bi na2) na2) na2) 17 else (bi 17))) (va_up (va_up bl 18 (if ac_tstOk x z then (rc_bwL (rc_bwA (rc_bwA bi na2) na2) (rc_bwL (rc_bwA bi na2) (rc_bwL bi bl (-1) 0 na2 nr2) x 1 na2 nr2) x 0 na2 nr2) 18 else (bl 18))) 19 (if ac_tstOk x z then (rc_bwL (rc_bwA (rc_bwA bi na2) na2) (rc_bwL (rc_bwA bi na2) (rc_bwL bi bl (-1) 0 na2 nr2) x 1 na2 nr2) x 0 na2 nr2) 19 else (bl 19))) := by
  exact hR
set_option maxRecDepth 100000 in
theorem lrF_stations {na nr na2 nr2 ln ln2 nt F9 : Nat} {fi : Nat → Int32} {fl : Nat → Int64} {ai : Nat → Nat → Int32} {al : Nat → Nat → Int64} {gi : Nat → Int32} {gl : Nat → Int64} {bi : Nat → Nat → Int32} {bl : Nat → Nat → Int64} (x : Int32) (hk : ac_K na nr fi ai) (hk2 : rc_K na2 nr2 gi bi bl) (hA : lw_RA fi fl ai al gi gl bi bl) (hD : lw_RD fi fl ai al gi gl bi bl) (hR : lw_RF fi fl ai al gi gl bi bl) (hX : ln ≤ 10 ∧ fi 5 = nI ln ∧ ln2 ≤ 10 ∧ (gi 2 = nI ln2 ∨ gi 2 = -1) ∧ nt ≤ 10 ∧ gi 5 = nI nt ∧ 1048576 ≤ F9) : lw_RF (upd (upd fi 8 (if ac_stOk (fi 3) x then (fi 6) else (fi 8))) 9 (if ac_stOk (fi 3) x then (nI x.toNatClampNeg) else (fi 9))) (vp_updL (vp_updL fl 1 (if ac_stOk (fi 3) x then ((ac_try (al 8) (ai 9) (fi 6) (nI x.toNatClampNeg) (ac_least (al 8) (fi 6) (nI x.toNatClampNeg) na) na na 0 0 ((ai 21), (ai 22), (ac_fillL 0 (al 23) 4), (ac_tot (al 8) (fi 6) na + 1))).2.2.2) else (fl 1))) 2 (if ac_stOk (fi 3) x then (ac_least (al 8) (fi 6) (nI x.toNatClampNeg) na) else (fl 2))) (va_up (va_up ai 21 (if ac_stOk (fi 3) x then ((ac_try (al 8) (ai 9) (fi 6) (nI x.toNatClampNeg) (ac_least (al 8) (fi 6) (nI x.toNatClampNeg) na) na na 0 0 ((ai 21), (ai 22), (ac_fillL 0 (al 23) 4), (ac_tot (al 8) (fi 6) na + 1))).1) else (ai 21))) 22 (if ac_stOk (fi 3) x then ((ac_try (al 8) (ai 9) (fi 6) (nI x.toNatClampNeg) (ac_least (al 8) (fi 6) (nI x.toNatClampNeg) na) na na 0 0 ((ai 21), (ai 22), (ac_fillL 0 (al 23) 4), (ac_tot (al 8) (fi 6) na + 1))).2.1) else (ai 22))) (va_up al 23 (if ac_stOk (fi 3) x then ((ac_try (al 8) (ai 9) (fi 6) (nI x.toNatClampNeg) (ac_least (al 8) (fi 6) (nI x.toNatClampNeg) na) na na 0 0 ((ai 21), (ai 22), (ac_fillL 0 (al 23) 4), (ac_tot (al 8) (fi 6) na + 1))).2.2.1) else (al 23))) (upd gi 6 (if rc_stOk (gi 2) x then 1 else (gi 6))) gl (va_up (va_up (va_up bi 16 (if rc_stOk (gi 2) x then (rc_sR bi (bl 4) (gi 2) na2 (x.toNatClampNeg) F9).2.2 else (bi 16))) 20 (if rc_stOk (gi 2) x then (rc_sR bi (bl 4) (gi 2) na2 (x.toNatClampNeg) F9).2.1 else (bi 20))) 21 (if rc_stOk (gi 2) x then rc_sB bi na2 else (bi 21))) bl := by
  exact hR
-- ===== what a set of acts is worth: class and reference alike =====
abbrev nd_fr (fr : Nat → Int32) (n : Nat) : Prop := ∀ a, a < n → fr a = -1 ∨ ∃ p, p < 12 ∧ fr a = nI p
theorem nd_m1 {p : Nat} (hp : p < 12) : ¬ nI p = -1 := by
  intro z
  have : (nI p).toInt = (-1 : Int32).toInt := by rw [z]
  rw [nI_toInt (by omega), show (-1 : Int32).toInt = -1 by decide +kernel] at this
  omega
theorem freed_bt {fr : Nat → Int32} {n : Nat} (hn : n ≤ 10) (hfr : nd_fr fr n) (x : Int32) {p : Nat} (hp : p < 32) : ∀ k, k ≤ n → (bt (ac_freed fr x k) p = true ↔ p < 12 ∧ ∃ a, a < k ∧ bt x a = true ∧ fr a = nI p)
  | 0, _ => by
    show bt 0 p = true ↔ _
    rw [b_0]
    exact ⟨fun h => absurd h (by decide), fun ⟨_, a, ha, _⟩ => by omega⟩
  | k + 1, hk => by
    have ih := freed_bt hn hfr x hp k (by omega)
    rw [ac_freed]
    by_cases c : ac_has x (nI k) = 0
    · rw [if_pos c, ih]
      rw [ac_has_bt x (by omega)] at c
      refine ⟨fun ⟨h0, a, h1, h2⟩ => ⟨h0, a, by omega, h2⟩, fun ⟨h0, a, h1, h2, h3⟩ => ⟨h0, a, ?_, h2, h3⟩⟩
      by_cases e : a = k
      · rw [e, c] at h2; cases h2
      · omega
    · rw [if_neg c]
      rw [ac_has_t x (by omega)] at c
      by_cases d : fr k = -1
      · rw [if_pos d, ih]
        refine ⟨fun ⟨h0, a, h1, h2⟩ => ⟨h0, a, by omega, h2⟩, fun ⟨h0, a, h1, h2, h3⟩ => ⟨h0, a, ?_, h2, h3⟩⟩
        by_cases e : a = k
        · rw [e, d] at h3; exact absurd h3.symm (nd_m1 h0)
        · omega
      · rw [if_neg d]
        rcases hfr k (by omega) with g | ⟨q, hq, g⟩
        · exact absurd g d
        · rw [g, b_or, b_bit (by omega) hp, Bool.or_eq_true, ih, decide_eq_true_eq]
          constructor
          · rintro (⟨h0, a, h1, h2⟩ | h)
            · exact ⟨h0, a, by omega, h2⟩
            · exact ⟨by omega, k, by omega, c, by rw [g, h]⟩
          · rintro ⟨h0, a, h1, h2, h3⟩
            by_cases e : a = k
            · rw [e, g, nI_eq (by omega) (by omega)] at h3
              exact Or.inr h3.symm
            · exact Or.inl ⟨h0, a, by omega, h2, h3⟩
theorem frs_ok (fr : Nat → Int32) (x pt : Int32) {k : Nat} (hk : k < 10) : ¬ rc_frs fr x pt k = 0 ↔ bt x k = true ∧ fr k = pt := by
  unfold rc_frs
  by_cases c : rc_has x (nI k) = 0
  · rw [if_pos c]
    rw [rc_has_bt x (by omega)] at c
    exact ⟨fun h => absurd rfl h, fun h => by rw [c] at h; cases h.1⟩
  · rw [if_neg c]
    rw [rc_has_t x (by omega)] at c
    by_cases d : fr k = pt
    · rw [if_pos d]; exact ⟨fun _ => ⟨c, d⟩, fun _ => by decide⟩
    · rw [if_neg d]; exact ⟨fun h => absurd rfl h, fun h => absurd h.2 d⟩
theorem fre_ok (fr : Nat → Int32) (x pt : Int32) : ∀ k, k ≤ 10 → (¬ rc_fre fr x pt k = 0 ↔ ∃ a, a < k ∧ bt x a = true ∧ fr a = pt)
  | 0, _ => ⟨fun h => absurd rfl h, fun ⟨a, ha, _⟩ => by omega⟩
  | k + 1, hk => by
    have ih := fre_ok fr x pt k (by omega)
    have hs := frs_ok fr x pt (show k < 10 by omega)
    rw [rc_fre]
    by_cases c : rc_fre fr x pt k = 0
    · rw [if_pos c]
      by_cases d : rc_frs fr x pt k = 0
      · rw [if_pos d]
        refine ⟨fun h => absurd rfl h, fun ⟨a, h1, h2⟩ => ?_⟩
        by_cases e : a = k
        · subst e; exact absurd d (hs.mpr h2)
        · exact absurd c (ih.mpr ⟨a, by omega, h2⟩)
      · rw [if_neg d]; exact ⟨fun _ => ⟨k, by omega, hs.mp d⟩, fun _ => by decide⟩
    · rw [if_neg c]
      obtain ⟨a, h1, h2⟩ := ih.mp c
      exact ⟨fun _ => ⟨a, by omega, h2⟩, fun _ => by decide⟩
theorem who_ok (fr br : Nat → Int32) (x pt : Int32) : ∀ k, k ≤ 10 → (¬ rc_who fr br x pt k = 0 ↔ ∀ a, a < k → bt x a = true → fr a = pt → br a = 0)
  | 0, _ => ⟨fun _ a ha => by omega, fun _ => by show ¬ (1 : Int32) = 0; decide⟩
  | k + 1, hk => by
    have ih := who_ok fr br x pt k (by omega)
    have hs := frs_ok fr x pt (show k < 10 by omega)
    rw [rc_who]
    by_cases c : rc_who fr br x pt k = 0
    · rw [if_pos c]
      exact ⟨fun h => absurd rfl h, fun h => absurd c (ih.mpr (fun a ha => h a (by omega)))⟩
    · rw [if_neg c]
      have g := ih.mp c
      by_cases d : rc_frs fr x pt k = 0
      · rw [if_pos d]
        refine ⟨fun _ a ha h1 h2 => ?_, fun _ => by decide⟩
        by_cases e : a = k
        · subst e; exact absurd d (hs.mpr ⟨h1, h2⟩)
        · exact g a (by omega) h1 h2
      · rw [if_neg d]
        have hd := hs.mp d
        by_cases b : br k = 0
        · rw [if_pos b]
          refine ⟨fun _ a ha h1 h2 => ?_, fun _ => by decide⟩
          by_cases e : a = k
          · rw [e]; exact b
          · exact g a (by omega) h1 h2
        · rw [if_neg b]; exact ⟨fun h => absurd rfl h, fun h => absurd (h k (by omega) hd.1 hd.2) b⟩
/-- free and whole -/
theorem whole_ok {fr br : Nat → Int32} {brk : Int32} {n : Nat} (hn : n ≤ 10) (hfr : nd_fr fr n) (hbr : ∀ a, a < 10 → (bt brk a = false ↔ br a = 0)) (x : Int32) {p : Nat} (hp : p < 12) :
    ac_has (ac_whole fr brk n x) (nI p) = 0 ↔ (rc_fre fr x (nI p) n = 0 ∨ rc_who fr br x (nI p) n = 0) := by
  have e : bt (ac_whole fr brk n x) p = true ↔ (¬ rc_fre fr x (nI p) n = 0 ∧ ¬ rc_who fr br x (nI p) n = 0) := by
    unfold ac_whole
    rw [b_and, b_not _ (by omega), Bool.and_eq_true, Bool.not_eq_true', freed_bt hn hfr x (by omega) n (Nat.le_refl n), fre_ok fr x (nI p) n hn, who_ok fr br x (nI p) n hn]
    have e2 := freed_bt hn hfr (x &&& brk) (show p < 32 by omega) n (Nat.le_refl n)
    constructor
    · rintro ⟨⟨_, h1⟩, h2⟩
      refine ⟨h1, fun a ha h3 h4 => (hbr a (by omega)).mp (nd_nt (fun z => ?_))⟩
      rw [e2.mpr ⟨hp, a, ha, by rw [b_and, h3, z]; rfl, h4⟩] at h2
      cases h2
    · rintro ⟨h1, h2⟩
      refine ⟨⟨hp, h1⟩, nd_nt (fun z => ?_)⟩
      obtain ⟨_, a, ha, h3, h4⟩ := e2.mp z
      rw [b_and, Bool.and_eq_true] at h3
      rw [(hbr a (by omega)).mpr (h2 a ha h3.1 h4)] at h3
      cases h3.2
  rw [ac_has_bt _ (by omega)]
  constructor
  · intro h
    refine Classical.byContradiction (fun z => ?_)
    rw [e.mpr ⟨fun w => z (Or.inl w), fun w => z (Or.inr w)⟩] at h
    cases h
  · rintro h
    refine nd_nt (fun z => ?_)
    have := e.mp z
    exact h.elim this.1 this.2
theorem b_sub {x y : Int32} (h : ∀ i, i < 32 → bt y i = true → bt x i = true) : x - y = x &&& (y ^^^ (-1)) := by
  apply Int32.toBitVec_inj.mp
  rw [Int32.toBitVec_sub]
  have hz : (x &&& (y ^^^ (-1))).toBitVec &&& y.toBitVec = 0#32 := by
    have : (x &&& (y ^^^ (-1))) &&& y = 0 := by
      refine b_ext (fun i hi => ?_)
      rw [b_and, b_and, b_not y hi, b_0]
      cases bt x i <;> cases bt y i <;> rfl
    have h2 := congrArg Int32.toBitVec this
    rw [Int32.toBitVec_and] at h2
    exact h2
  have ho := BitVec.add_eq_or_of_and_eq_zero _ _ hz
  have hx : (x &&& (y ^^^ (-1))) ||| y = x := by
    refine b_ext (fun i hi => ?_)
    rw [b_or, b_and, b_not y hi]
    cases e : bt y i with
    | false => cases bt x i <;> rfl
    | true => rw [h i hi e]; rfl
  have hx2 : (x &&& (y ^^^ (-1))).toBitVec ||| y.toBitVec = x.toBitVec := by rw [← Int32.toBitVec_or, hx]
  rw [hx2] at ho
  rw [← ho, BitVec.add_sub_cancel]
theorem b_4095 : ∀ i, i < 32 → bt 4095 i = decide (i < 12) := by decide +kernel
theorem nd_fr_neg {fr : Nat → Int32} {n k : Nat} (hfr : nd_fr fr n) (hk : k < n) : fr k < 0 ↔ fr k = -1 := by
  rcases hfr k hk with g | ⟨q, hq, g⟩
  · rw [g]; exact ⟨fun _ => rfl, fun _ => by decide +kernel⟩
  · rw [g]; exact ⟨fun z => absurd z (nI_pos (by omega)), fun z => absurd z (nd_m1 hq)⟩
theorem rest_bt {fr : Nat → Int32} {n : Nat} (hn : n ≤ 10) (hfr : nd_fr fr n) (x : Int32) : ∀ k, k ≤ n → ∀ i, i < 32 → bt (rc_rest fr x k) i = (decide (i < 12) && !bt (ac_freed fr x k) i)
  | 0, _, i, hi => by
    show bt 4095 i = (decide (i < 12) && !bt 0 i)
    rw [b_4095 i hi, b_0]; simp
  | k + 1, hk, i, hi => by
    have ih := rest_bt hn hfr x k (by omega)
    have hneg := nd_fr_neg hfr (show k < n by omega)
    rw [rc_rest, ac_freed]
    by_cases c : rc_has x (nI k) = 0
    · have c2 : ac_has x (nI k) = 0 := by rw [ac_has_bt x (by omega)]; exact (rc_has_bt x (by omega)).mp c
      rw [if_pos c, if_pos c2]; exact ih i hi
    · have c2 : ¬ ac_has x (nI k) = 0 := by rw [ac_has_t x (by omega)]; exact (rc_has_t x (by omega)).mp c
      rw [if_neg c, if_neg c2]
      by_cases d : fr k = -1
      · rw [if_pos d, if_pos (hneg.mpr d)]; exact ih i hi
      · rw [if_neg d, if_neg (fun z => d (hneg.mp z))]
        rcases hfr k (by omega) with g | ⟨q, hq, g⟩
        · exact absurd g d
        · rw [g, b_or, b_bit (by omega) hi]
          by_cases c3 : rc_has (rc_rest fr x k) (nI q) = 0
          · rw [if_pos c3, ih i hi]
            rw [rc_has_bt _ (by omega), ih q (by omega)] at c3
            by_cases e : i = q
            · subst e
              rw [decide_eq_true hq] at c3
              rw [decide_eq_true hq, decide_eq_true rfl]
              cases w : bt (ac_freed fr x k) i with
              | false => rw [w] at c3; cases c3
              | true => rfl
            · rw [decide_eq_false e, Bool.or_false]
          · rw [if_neg c3]
            rw [rc_has_t _ (by omega)] at c3
            rw [b_sub (fun j hj h => by rw [b_bit (by omega) hj, decide_eq_true_eq] at h; rw [h]; exact c3), b_and, b_not _ hi, b_bit (by omega) hi, ih i hi]
            by_cases e : i = q
            · rw [decide_eq_true e]; simp
            · rw [decide_eq_false e]; simp
theorem rest_ok {fr : Nat → Int32} {n : Nat} (hn : n ≤ 10) (hfr : nd_fr fr n) (x : Int32) : rc_rest fr x n = 4095 &&& (ac_freed fr x n ^^^ (-1)) := by
  refine b_ext (fun i hi => ?_)
  rw [rest_bt hn hfr x n (Nat.le_refl n) i hi, b_and, b_4095 i hi, b_not _ hi]
theorem place_ok (rp : Nat → Int32) (x : Int32) : ∀ n k, (∀ i, k ≤ i → i < ac_place rp x n k → ¬ rp i = x) ∧ (ac_place rp x n k < k + n → rp (ac_place rp x n k) = x)
  | 0, k => ⟨fun i h1 h2 => by rw [ac_place] at h2; omega, fun h => by rw [ac_place] at h; omega⟩
  | n + 1, k => by
    rw [ac_place]
    by_cases c : rp k = x
    · rw [if_pos c]; exact ⟨fun i h1 h2 => by omega, fun _ => c⟩
    · rw [if_neg c]
      obtain ⟨h1, h2⟩ := place_ok rp x n (k + 1)
      refine ⟨fun i h3 h4 => ?_, fun h => h2 (by omega)⟩
      by_cases e : i = k
      · rw [e]; exact c
      · exact h1 i (by omega) h4
abbrev nd_rp (rp : Nat → Int32) (nr : Nat) : Prop := ∀ i j, i < j → j < nr → ¬ rp i = rp j
theorem vr_ok {rp : Nat → Int32} {rwo : Nat → Int64} {nr : Nat} (hrp : nd_rp rp nr) (x : Int32) (v0 : Int64) : ∀ k, k ≤ nr → rc_vr rp rwo x v0 k = v0 + (if ac_place rp x nr 0 < k then 27720 * rwo (ac_place rp x nr 0) else 0)
  | 0, _ => by rw [if_neg (by omega)]; exact (Int64.add_zero v0).symm
  | k + 1, hk => by
    obtain ⟨h1, h2⟩ := place_ok rp x nr 0
    rw [rc_vr, vr_ok hrp x v0 k (by omega)]
    generalize hP : ac_place rp x nr 0 = P at h1 h2 ⊢
    by_cases c : rp k = x
    · have e : P = k := by
        rcases Nat.lt_trichotomy P k with z | z | z
        · exact absurd ((h2 (by omega)).trans c.symm) (hrp P k z (by omega))
        · exact z
        · exact absurd c (h1 k (by omega) z)
      rw [if_pos c, e, if_neg (by omega), if_pos (by omega), Int64.add_zero]
    · rw [if_neg c, Int64.add_zero]
      by_cases d : P < k
      · rw [if_pos d, if_pos (by omega)]
      · rw [if_neg d]
        by_cases e : P = k
        · rw [← e] at c; exact absurd (h2 (by omega)) c
        · rw [if_neg (by omega)]
theorem endl_ok {va brg : Nat → Int64} {wh : Int32} (e0 : Int64) (h : ∀ p, p < 12 → brg p = if ac_has wh (nI p) = 0 then 0 else va p) : ∀ k, k ≤ 12 → ac_endl va wh e0 k = rc_vs brg k + e0
  | 0, _ => (Int64.zero_add e0).symm
  | k + 1, hk => by
    rw [ac_endl, rc_vs, endl_ok e0 h k (by omega), h k (by omega)]
    by_cases c : ac_has wh (nI k) = 0
    · rw [if_pos c, if_pos c, Int64.add_zero]
    · rw [if_neg c, if_neg c, Int64.add_assoc, Int64.add_assoc, Int64.add_comm e0]
/-- the parts' values as one of the three searches takes them -/
abbrev nd_va (va wo : Nat → Int64) (ab be : Nat → Int32) (tst tas : Int32) : Prop := ∀ p, p < 12 → va p = if nI p = tst then (if tas = 1 then 27720 * wo p else 0) else 27720 * wo p / (be p).toInt64 * (ab p).toInt64
theorem brings_ok {fr br ab be : Nat → Int32} {brk : Int32} {wo va : Nat → Int64} {tst tas : Int32} {n : Nat} (hn : n ≤ 10) (hfr : nd_fr fr n) (hbr : ∀ a, a < 10 → (bt brk a = false ↔ br a = 0)) (hva : nd_va va wo ab be tst tas) (x : Int32) {p : Nat} (hp : p < 12) :
    rc_brings fr br ab be wo tst tas n x p = if ac_has (ac_whole fr brk n x) (nI p) = 0 then 0 else va p := by
  have e := whole_ok hn hfr hbr x hp
  unfold rc_brings
  by_cases c1 : rc_fre fr x (nI p) n = 0
  · rw [if_pos c1, if_pos (e.mpr (Or.inl c1))]
  · rw [if_neg c1]
    by_cases c2 : rc_who fr br x (nI p) n = 0
    · rw [if_pos c2, if_pos (e.mpr (Or.inr c2))]
    · rw [if_neg c2, if_neg (fun z => (e.mp z).elim c1 c2), hva p hp]
theorem end_ok {fr br ab be rp : Nat → Int32} {brk : Int32} {wo rwo va : Nat → Int64} {tst tas : Int32} {n nr : Nat} (hn : n ≤ 10) (hfr : nd_fr fr n) (hbr : ∀ a, a < 10 → (bt brk a = false ↔ br a = 0)) (hva : nd_va va wo ab be tst tas) (hrp : nd_rp rp nr) (x : Int32) :
    ac_end fr rp rwo va brk n nr x = rc_val fr br ab be rp wo rwo tst tas n nr x := by
  unfold ac_end rc_val
  rw [endl_ok _ (fun p hp => brings_ok hn hfr hbr hva x hp) 12 (Nat.le_refl _), rest_ok hn hfr x, vr_ok hrp _ _ nr (Nat.le_refl nr)]
  unfold ac_restW
  congr 1
  split
  · exact Int64.mul_comm _ _
  · decide +kernel
-- ===== the search: the class goes back from the ends, the reference forth =====
theorem ni_at (nds : Nat → Int32) {a : Nat} (f : Nat → Int32) : ∀ B, B ≤ 10 → (∀ k, ¬ k = a → rc_ni nds a f B k = f k) ∧ ∀ b, b < 32 → (bt (rc_ni nds a f B a) b = true ↔ b < B ∧ ¬ nds (10 * a + b) = 0)
  | 0, _ => ⟨fun k hk => if_neg hk, fun b _ => by
      rw [show rc_ni nds a f 0 a = 0 from if_pos rfl, b_0]
      exact ⟨fun h => absurd h (by decide), fun h => by omega⟩⟩
  | B + 1, hB => by
    obtain ⟨h1, h2⟩ := ni_at nds (a := a) f B (by omega)
    rw [rc_ni]
    by_cases c : nds (10 * a + B) = 0
    · rw [if_pos c]
      refine ⟨fun k hk => (if_neg hk).trans (h1 k hk), fun b hb => ?_⟩
      rw [show upd (rc_ni nds a f B) a (rc_ni nds a f B a) a = rc_ni nds a f B a from if_pos rfl, h2 b hb]
      refine ⟨fun h => ⟨by omega, h.2⟩, fun h => ⟨?_, h.2⟩⟩
      rcases Nat.lt_or_ge b B with z | z
      · exact z
      · rw [show b = B by omega] at h; exact absurd c h.2
    · rw [if_neg c]
      refine ⟨fun k hk => (if_neg hk).trans (h1 k hk), fun b hb => ?_⟩
      rw [show upd (rc_ni nds a f B) a (rc_ni nds a f B a ||| ((1 : Int32) <<< (nI B &&& 31))) a = rc_ni nds a f B a ||| ((1 : Int32) <<< (nI B &&& 31)) from if_pos rfl, b_or, b_bit (by omega) hb, Bool.or_eq_true, h2 b hb, decide_eq_true_eq]
      constructor
      · rintro (h | h)
        · exact ⟨by omega, h.2⟩
        · rw [h]; exact ⟨by omega, c⟩
      · rintro ⟨h3, h4⟩
        rcases Nat.lt_or_ge b B with z | z
        · exact Or.inl ⟨z, h4⟩
        · exact Or.inr (by omega)
theorem no_at (nds : Nat → Int32) {n : Nat} (hn : n ≤ 10) (f : Nat → Int32) : ∀ A, A ≤ n → ∀ a, a < A → ∀ b, b < 32 → (bt (rc_no nds n f A a) b = true ↔ b < n ∧ ¬ nds (10 * a + b) = 0)
  | 0, _, a, h => by omega
  | A + 1, hA, a, ha => by
    intro b hb
    obtain ⟨h1, h2⟩ := ni_at nds (a := A) (rc_no nds n f A) n hn
    rw [rc_no]
    by_cases e : a = A
    · subst e; exact h2 b hb
    · rw [h1 a e]; exact no_at nds hn f A (by omega) a (by omega) b hb
abbrev nd_nd (nd nds : Nat → Int32) (n : Nat) : Prop := ∀ a, a < n → ∀ b, b < 32 → (bt (nd a) b = true ↔ b < n ∧ ¬ nds (10 * a + b) = 0)
theorem and_self_iff (x y : Int32) : (x &&& y) = x ↔ ∀ i, i < 32 → bt x i = true → bt y i = true := by
  constructor
  · intro h i _ hx
    have := congrArg (fun z => bt z i) h
    simp only [b_and, hx, Bool.true_and] at this
    exact this
  · intro h
    refine b_ext (fun i hi => ?_)
    rw [b_and]
    cases e : bt x i with
    | false => rfl
    | true => rw [h i hi e]; rfl
theorem cd_ok {nd nds : Nat → Int32} {n : Nat} (hn : n ≤ 10) (hnd : nd_nd nd nds n) {s b : Nat} (hb : b < n) : rc_cd nd s b ↔ bt (nI s) b = false ∧ ∀ c, c < n → ¬ nds (10 * b + c) = 0 → bt (nI s) c = true := by
  unfold rc_cd rc_can
  by_cases c1 : rc_has (nI s) (nI b) = 0
  · rw [if_pos c1]
    rw [rc_has_bt _ (by omega)] at c1
    by_cases c2 : (nd b &&& nI s) = nd b
    · rw [if_pos c2]
      rw [and_self_iff] at c2
      exact ⟨fun _ => ⟨c1, fun c hc h => c2 c (by omega) ((hnd b hb c (by omega)).mpr ⟨hc, h⟩)⟩, fun _ => by decide⟩
    · rw [if_neg c2]
      refine ⟨fun h => absurd rfl h, fun h => absurd ?_ c2⟩
      rw [and_self_iff]
      intro i hi g
      have := (hnd b hb i hi).mp g
      exact h.2 i this.1 this.2
  · rw [if_neg c1]
    rw [rc_has_t _ (by omega)] at c1
    exact ⟨fun h => absurd rfl h, fun h => by rw [h.1] at c1; cases c1⟩
theorem nexts_bt (ne : Nat → Int32) (x : Int32) {b : Nat} (hb : b < 32) : ∀ k, k ≤ 10 → (bt (ac_nexts ne x k) b = true ↔ b < k ∧ bt x b = false ∧ ∀ c, c < 32 → bt (ne b) c = true → bt x c = true)
  | 0, _ => by
    show bt 0 b = true ↔ _
    rw [b_0]
    exact ⟨fun h => absurd h (by decide), fun h => by omega⟩
  | k + 1, hk => by
    have ih := nexts_bt ne x hb k (by omega)
    have hsub : (ne k &&& (x ^^^ (-1))) = 0 ↔ ∀ c, c < 32 → bt (ne k) c = true → bt x c = true := by
      rw [b_zero]
      constructor
      · intro h c hc g
        have := h c hc
        rw [b_and, b_not x hc, g] at this
        cases w : bt x c with
        | true => rfl
        | false => rw [w] at this; cases this
      · intro h c hc
        rw [b_and, b_not x hc]
        cases w : bt (ne k) c with
        | false => rfl
        | true => rw [h c hc w]; rfl
    have low : ¬ (b = k ∧ bt x k = false ∧ ∀ c, c < 32 → bt (ne k) c = true → bt x c = true) → (bt (ac_nexts ne x k) b = true ↔ b < k + 1 ∧ bt x b = false ∧ ∀ c, c < 32 → bt (ne b) c = true → bt x c = true) := by
      intro hq
      rw [ih]
      refine ⟨fun h => ⟨by omega, h.2⟩, fun h => ⟨?_, h.2⟩⟩
      rcases Nat.lt_or_ge b k with z | z
      · exact z
      · have e : b = k := by omega
        rw [e] at h; exact absurd ⟨e, h.2⟩ hq
    rw [ac_nexts]
    by_cases c1 : ac_has x (nI k) = 0
    · rw [if_pos c1]
      rw [ac_has_bt x (by omega)] at c1
      by_cases c2 : (ne k &&& (x ^^^ (-1))) = 0
      · rw [if_pos c2]
        rw [hsub] at c2
        rw [b_or, b_bit (by omega) hb, Bool.or_eq_true, ih, decide_eq_true_eq]
        constructor
        · rintro (h | h)
          · exact ⟨by omega, h.2⟩
          · subst h; exact ⟨by omega, c1, c2⟩
        · rintro ⟨h1, h2⟩
          rcases Nat.lt_or_ge b k with z | z
          · exact Or.inl ⟨z, h2⟩
          · exact Or.inr (by omega)
      · rw [if_neg c2]
        rw [hsub] at c2
        exact low (fun h => c2 h.2.2)
    · rw [if_neg c1]
      rw [ac_has_t x (by omega)] at c1
      exact low (fun h => by rw [h.2.1] at c1; cases c1)
/-- behind a closed set both have the same next acts -/
theorem nexts_ok {ne nds nd : Nat → Int32} {n : Nat} (hn : n ≤ 10) (h : nd_Rel ne nds n) (hnd : nd_nd nd nds n) {s : Nat} (hc : nd_cl nds n (nI s)) {b : Nat} (hb : b < n) : ¬ ac_has (ac_nexts ne (nI s) n) (nI b) = 0 ↔ rc_cd nd s b := by
  rw [ac_has_t _ (by omega), nexts_bt ne (nI s) (by omega) n hn, cd_ok hn hnd hb]
  constructor
  · rintro ⟨_, h1, h2⟩
    exact ⟨h1, fun c hc9 h3 => h2 c (by omega) ((h.1 b c (by omega) (by omega)).mpr (nd_T_1 ⟨by omega, by omega, h3⟩))⟩
  · rintro ⟨h1, h2⟩
    refine ⟨hb, h1, fun c hc9 h3 => ?_⟩
    have hc10 : c < 10 := by
      rcases Nat.lt_or_ge c 10 with z | z
      · exact z
      · rw [h.2.1 b c (by omega) z hc9] at h3; cases h3
    obtain ⟨d, k1, k2⟩ := nd_T_first ((h.1 b c (by omega) hc10).mp h3)
    have l := h.2.2.2 b d k1.1 k1.2.1 k1.2.2
    exact nd_cl_T hn h hc (h2 d l.2 k1.2.2) k2
theorem b_or2 (s : Nat) {b i : Nat} (hb : b < 31) (hi : i < 32) : bt (nI (s ||| 2 ^ b)) i = (bt (nI s) i || decide (i = b)) := by
  rw [← am_or, b_or, ← am_shl1 b hb, b_bit (by omega) hi]
theorem cl_add {nds nd : Nat → Int32} {n : Nat} (hn : n ≤ 10) (hnd : nd_nd nd nds n) {s b : Nat} (hb : b < n) (hc : nd_cl nds n (nI s)) (hcd : rc_cd nd s b) : nd_cl nds n (nI (s ||| 2 ^ b)) := by
  intro x y hx hy h1 h2
  rw [b_or2 s (by omega) (by omega), Bool.or_eq_true, decide_eq_true_eq] at h1 ⊢
  rcases h1 with h1 | h1
  · exact Or.inl (hc x y hx hy h1 h2)
  · subst h1; exact Or.inl (((cd_ok hn hnd hb).mp hcd).2 y hy h2)
theorem last_add {ne nds nd : Nat → Int32} {n : Nat} (hn : n ≤ 10) (h : nd_Rel ne nds n) (hnd : nd_nd nd nds n) {s b : Nat} (hs : s < 2 ^ n) (hb : b < n) (hc : nd_cl nds n (nI s)) (hcd : rc_cd nd s b) : bt (ac_lasts ne n (nI (s ||| 2 ^ b))) b = true := by
  have g := (cd_ok hn hnd hb).mp hcd
  rw [lasts_bt hn h (nI_out (rc_or_lt hs hb)) (cl_add hn hnd hb hc hcd) (by omega)]
  refine ⟨hb, by rw [b_or2 s (by omega) (by omega), decide_eq_true rfl, Bool.or_true], fun a ha h1 => Classical.byContradiction (fun z => ?_)⟩
  rw [b_or2 s (by omega) (by omega), Bool.or_eq_true, decide_eq_true_eq] at h1
  rcases h1 with h1 | h1
  · rw [hc a b ha hb h1 z] at g; cases g.1
  · subst h1; exact h.2.2.1 a (nd_T_1 ⟨by omega, by omega, z⟩)
theorem cl_0 (nds : Nat → Int32) (n : Nat) (hn : n ≤ 10) : nd_cl nds n (nI 0) := by
  intro x y hx hy h
  rw [show nI 0 = 0 from rfl, b_0] at h
  cases h
-- the best over all rows, from behind
theorem R_shift {cd : Nat → Nat → Prop} {sp : Nat → Nat → Int} {n s0 j : Nat} {z d : Int} : ∀ k s e c, rc_R cd sp n s0 j z k s e c → rc_R cd sp n s0 j (z + d) k s e (c + d)
  | 0, s, e, c, ⟨h1, h2, h3, h4⟩ => ⟨h1, h2, h3, by rw [h4]; omega⟩
  | k + 1, s, e, c, ⟨s', e', c', h, h1, h2, h3, h4⟩ => ⟨s', e', c' + d, R_shift k s' e' c' h, h1, h2, h3, by rw [h4]; omega⟩
theorem isB_shift {cd : Nat → Nat → Prop} {sp : Nat → Nat → Int} {va : Nat → Int} {n s0 j : Nat} {z v d : Int} (h : rc_isB cd sp va n s0 j z v) : rc_isB cd sp va n s0 j (z + d) (v - d) := by
  obtain ⟨h1, h2, h3⟩ := h
  refine ⟨?_, by omega, fun k s e c hR => ?_⟩
  · rcases h1 with h1 | ⟨k, s, e, c, hR, h1⟩
    · left; omega
    · right; exact ⟨k, s, e, c + d, R_shift k s e c hR, by omega⟩
  · have := R_shift (d := -d) k s e c hR
    rw [show z + d + -d = z by omega] at this
    have := h3 k s e _ this
    omega
theorem isB_of {cd : Nat → Nat → Prop} {sp : Nat → Nat → Int} {va : Nat → Int} {n s0 j : Nat} {v : Int} {w : Nat → Int} (hw : ∀ a, a < n → cd s0 a → rc_isB cd sp va n (s0 ||| 2 ^ a) (a + 1) 0 (w a))
    (h1 : v = va s0 ∨ ∃ a, a < n ∧ cd s0 a ∧ v = w a - sp j a) (h2 : va s0 ≤ v) (h3 : ∀ a, a < n → cd s0 a → w a - sp j a ≤ v) : rc_isB cd sp va n s0 j 0 v := by
  have hz : ∀ a, a < n → cd s0 a → rc_isB cd sp va n (s0 ||| 2 ^ a) (a + 1) (0 + sp j a) (w a - sp j a) := fun a ha hc => isB_shift (hw a ha hc)
  refine ⟨?_, by omega, fun k s e c hR => ?_⟩
  · rcases h1 with h1 | ⟨a, ha, hc, h1⟩
    · left; omega
    · right
      rcases (hz a ha hc).1 with g | ⟨k, s, e, c, hR, g⟩
      · exact ⟨0, s0 ||| 2 ^ a, a, 0 + sp j a, ⟨ha, hc, rfl, rfl⟩, by omega⟩
      · exact ⟨k + 1, s, e, c, rc_R_cons ha hc k s e c hR, by omega⟩
  · obtain ⟨a, ha, hc, g⟩ := rc_R_first k s e c hR
    have := h3 a ha hc
    rcases g with ⟨r1, r2, r3, r4⟩ | ⟨k', r1, r2⟩
    · have := (hz a ha hc).2.1
      rw [r1, r3]; omega
    · have := (hz a ha hc).2.2 k' s e c r2
      omega
theorem ac_max_toInt (x y : Int64) : (ac_max x y).toInt = if y.toInt < x.toInt then x.toInt else y.toInt := by
  unfold ac_max
  by_cases c : y < x
  · rw [if_pos c, if_pos (Int64.lt_iff_toInt_lt.mp c)]
  · rw [if_neg c, if_neg (fun z => c (Int64.lt_iff_toInt_lt.mpr z))]
abbrev rc_B (nd : Nat → Int32) (sR : Nat → Nat → Int64) (vR : Nat → Int64) (n s j : Nat) (z v : Int) : Prop := rc_isB (rc_cd nd) (rc_sp sR) (fun s => (vR s).toInt) n s j z v
theorem isB_rng {nd : Nat → Int32} {sR : Nat → Nat → Int64} {vR : Nat → Int64} {n s j : Nat} {v : Int} (hn : n ≤ 10) (hsp : rc_spOk sR n) (hvr : rc_vaOk vR n) (hs : s < 2 ^ n) (hj : j ≤ n) (h : rc_B nd sR vR n s j 0 v) : -1000100000000000000 ≤ v ∧ v ≤ 1000000000000000000 := by
  have hp := am_p2 hn
  rcases h.1 with e | ⟨k, s', e', c, hR, e⟩
  · have := hvr s hs
    simp only at e
    omega
  · have b := rc_R_bd hn hsp hs hj (Int.le_refl 0) (by omega) k s' e' c hR
    have := hvr s' b.2.1
    simp only at e
    omega
theorem mfrom_ok {nd : Nat → Int32} {sR : Nat → Nat → Int64} {vR : Nat → Int64} {n s j : Nat} (hn : n ≤ 10) (hsp : rc_spOk sR n) (hvr : rc_vaOk vR n) (hs : s < 2 ^ n) (hj : j ≤ n) {mo stp : Nat → Int64} {nx : Int32} {ed : Int64}
    (hnx : ∀ b, b < n → (¬ ac_has nx (nI b) = 0 ↔ rc_cd nd s b)) (hw : ∀ b, b < n → rc_cd nd s b → rc_B nd sR vR n (s ||| 2 ^ b) (b + 1) 0 (mo ((s ||| 2 ^ b) * 10 + b)).toInt) (hst : ∀ b, b < n → stp (ac_pl j b) = sR j b) (hed : ed = vR s) :
    rc_B nd sR vR n s j 0 (ac_mfrom mo stp j s nx ed n).toInt := by
  have key : ∀ k, k ≤ n → (((ac_mfrom mo stp j s nx ed k).toInt = (vR s).toInt ∨ ∃ a, a < k ∧ rc_cd nd s a ∧ (ac_mfrom mo stp j s nx ed k).toInt = (mo ((s ||| 2 ^ a) * 10 + a)).toInt - rc_sp sR j a) ∧ (vR s).toInt ≤ (ac_mfrom mo stp j s nx ed k).toInt ∧ ∀ a, a < k → rc_cd nd s a → (mo ((s ||| 2 ^ a) * 10 + a)).toInt - rc_sp sR j a ≤ (ac_mfrom mo stp j s nx ed k).toInt) := by
    intro k
    induction k with
    | zero =>
      intro _
      rw [ac_mfrom, hed]
      exact ⟨Or.inl rfl, Int.le_refl _, fun a ha => by omega⟩
    | succ k ih =>
      intro hk
      obtain ⟨h1, h2, h3⟩ := ih (by omega)
      rw [ac_mfrom]
      by_cases c : ac_has nx (nI k) = 0
      · rw [if_pos c]
        refine ⟨h1.imp id (fun ⟨a, g1, g2⟩ => ⟨a, by omega, g2⟩), h2, fun a ha g => ?_⟩
        by_cases e : a = k
        · subst e; exact absurd c ((hnx a (by omega)).mpr g)
        · exact h3 a (by omega) g
      · rw [if_neg c]
        have g := (hnx k (by omega)).mp c
        have r := isB_rng hn hsp hvr (rc_or_lt hs (show k < n by omega)) (by omega) (hw k (by omega) g)
        have q := hsp j k hj (by omega)
        have em : (ac_mby mo stp j s k).toInt = (mo ((s ||| 2 ^ k) * 10 + k)).toInt - rc_sp sR j k := by
          unfold ac_mby
          rw [hst k (by omega)]
          exact i64_sub (by omega) (by omega)
        rw [ac_max_toInt, em]
        by_cases d : (mo ((s ||| 2 ^ k) * 10 + k)).toInt - rc_sp sR j k < (ac_mfrom mo stp j s nx ed k).toInt
        · rw [if_pos d]
          refine ⟨h1.imp id (fun ⟨a, g1, g2⟩ => ⟨a, by omega, g2⟩), h2, fun a ha g => ?_⟩
          by_cases e : a = k
          · subst e; omega
          · exact h3 a (by omega) g
        · rw [if_neg d]
          refine ⟨Or.inr ⟨k, by omega, g, rfl⟩, by omega, fun a ha g => ?_⟩
          by_cases e : a = k
          · subst e; exact Int.le_refl _
          · have := h3 a (by omega) g; omega
  obtain ⟨h1, h2, h3⟩ := key n (Nat.le_refl n)
  exact isB_of hw h1 h2 h3
theorem mfrom_congr {mo mo2 stp : Nat → Int64} {j s : Nat} {nx : Int32} {ed : Int64} : ∀ n, (∀ b, b < n → ¬ ac_has nx (nI b) = 0 → mo ((s ||| 2 ^ b) * 10 + b) = mo2 ((s ||| 2 ^ b) * 10 + b)) → ac_mfrom mo stp j s nx ed n = ac_mfrom mo2 stp j s nx ed n
  | 0, _ => rfl
  | n + 1, h => by
    rw [ac_mfrom, ac_mfrom, mfrom_congr n (fun b hb => h b (by omega))]
    by_cases c : ac_has nx (nI n) = 0
    · rw [if_pos c, if_pos c]
    · rw [if_neg c, if_neg c]
      unfold ac_mby
      rw [h n (by omega) c]
theorem sml_at {stp : Nat → Int64} {s : Nat} {la nx : Int32} {ed : Int64} {n : Nat} (hn : n ≤ 10) (hnx : ∀ b, b < n → ¬ ac_has nx (nI b) = 0 → s < s ||| 2 ^ b) (mo : Nat → Int64) : ∀ K, K ≤ n →
    (∀ i, (i < s * 10 ∨ s * 10 + 10 ≤ i) → ac_sml stp s la nx ed n mo K i = mo i) ∧ ∀ k, k < K → ¬ ac_has la (nI k) = 0 → ac_sml stp s la nx ed n mo K (s * 10 + k) = ac_mfrom mo stp (k + 1) s nx ed n
  | 0, _ => ⟨fun _ _ => rfl, fun k hk => by omega⟩
  | K + 1, hK => by
    obtain ⟨h1, h2⟩ := sml_at hn hnx mo K (by omega)
    have hc : ac_mfrom (ac_sml stp s la nx ed n mo K) stp (K + 1) s nx ed n = ac_mfrom mo stp (K + 1) s nx ed n := mfrom_congr n (fun b hb g => h1 _ (by have := hnx b hb g; omega))
    rw [ac_sml]
    by_cases c : ac_has la (nI K) = 0
    · rw [if_pos c]
      refine ⟨h1, fun k hk g => ?_⟩
      by_cases e : k = K
      · subst e; exact absurd c g
      · exact h2 k (by omega) g
    · rw [if_neg c, hc]
      refine ⟨fun i hi => by rw [am_updL_n (by omega)]; exact h1 i hi, fun k hk g => ?_⟩
      by_cases e : k = K
      · subst e; exact am_updL_s
      · rw [am_updL_n (by omega)]; exact h2 k (by omega) g
section SEARCH
variable {ne nds nd fr rp : Nat → Int32} {sR : Nat → Nat → Int64} {vR rc va stp : Nat → Int64} {brk : Int32} {n nr : Nat}
/-- what the search needs: class's and reference's pieces are the same -/
def nd_S (ne nds nd fr rp : Nat → Int32) (sR : Nat → Nat → Int64) (vR rc va stp : Nat → Int64) (brk : Int32) (n nr : Nat) : Prop :=
  n ≤ 10 ∧ nd_Rel ne nds n ∧ nd_nd nd nds n ∧ rc_spOk sR n ∧ rc_vaOk vR n ∧ (∀ j b, j ≤ n → b < n → stp (ac_pl j b) = sR j b) ∧ ∀ s, s < 2 ^ n → ac_end fr rp rc va brk n nr (nI s) = vR s
theorem down_ok (H : nd_S ne nds nd fr rp sR vR rc va stp brk n nr) : ∀ S (mo : Nat → Int64), S < 2 ^ n → (∀ s, S < s → s < 2 ^ n → nd_cl nds n (nI s) → ∀ k, k < n → bt (ac_lasts ne n (nI s)) k = true → rc_B nd sR vR n s (k + 1) 0 (mo (s * 10 + k)).toInt) →
    ∀ s, 0 < s → s < 2 ^ n → nd_cl nds n (nI s) → ∀ k, k < n → bt (ac_lasts ne n (nI s)) k = true → rc_B nd sR vR n s (k + 1) 0 (ac_down fr rp ne rc va stp brk n nr S mo (s * 10 + k)).toInt := by
  obtain ⟨hn, hr, hnd, hsp, hvr, hst, hed⟩ := H
  have hp := am_p2 hn
  intro S
  induction S with
  | zero => intro mo _ h s h0; exact h s h0
  | succ S ih =>
    intro mo hS h
    rw [ac_down]
    refine ih _ (by omega) (fun s h1 h2 h3 k hk hl => ?_)
    have hgt : ∀ s, s < 2 ^ n → nd_cl nds n (nI s) → ∀ b, b < n → ¬ ac_has (ac_nexts ne (nI s) n) (nI b) = 0 → s < s ||| 2 ^ b := fun s hs hc b hb g => rc_cd_gt (by omega) (by omega) ((nexts_ok hn hr hnd hc hb).mp g)
    unfold ac_setMost
    by_cases c : ac_lasts ne n (nI (S + 1)) = 0
    · rw [if_pos c]
      by_cases e : s = S + 1
      · subst e; rw [c, b_0] at hl; cases hl
      · exact h s (by omega) h2 h3 k hk hl
    · rw [if_neg c]
      have hcl : nd_cl nds n (nI (S + 1)) := Classical.byContradiction (fun z => c (lasts_0 hn hr (nI_out hS) z))
      obtain ⟨g1, g2⟩ := sml_at (stp := stp) (la := ac_lasts ne n (nI (S + 1))) (ed := ac_end fr rp rc va brk n nr (nI (S + 1))) hn (hgt (S + 1) hS hcl) mo n (Nat.le_refl n)
      by_cases e : s = S + 1
      · subst e
        rw [g2 k hk (by rw [ac_has_t _ (by omega)]; exact hl)]
        refine mfrom_ok hn hsp hvr h2 (by omega) (fun b hb => nexts_ok hn hr hnd hcl hb) (fun b hb hcd => ?_) (fun b hb => hst (k + 1) b (by omega) hb) (hed _ h2)
        exact h _ (rc_cd_gt (by omega) (by omega) hcd) (rc_or_lt h2 hb) (cl_add hn hnd hb hcl hcd) b hb (last_add hn hr hnd h2 hb hcl hcd)
      · rw [g1 _ (by omega)]
        exact h s (by omega) h2 h3 k hk hl
/-- the greatest gain behind a closed set -/
theorem most_ok (H : nd_S ne nds nd fr rp sR vR rc va stp brk n nr) (mo : Nat → Int64) {s j : Nat} (hs : s < 2 ^ n) (hj : j ≤ n) (hc : nd_cl nds n (nI s)) :
    (∀ b, b < n → rc_cd nd s b → rc_B nd sR vR n (s ||| 2 ^ b) (b + 1) 0 (ac_down fr rp ne rc va stp brk n nr (2 ^ n - 1) mo ((s ||| 2 ^ b) * 10 + b)).toInt) ∧
    rc_B nd sR vR n s j 0 (ac_mfrom (ac_down fr rp ne rc va stp brk n nr (2 ^ n - 1) mo) stp j s (ac_nexts ne (nI s) n) (ac_end fr rp rc va brk n nr (nI s)) n).toInt := by
  have hD := down_ok H (2 ^ n - 1) mo (by have := am_p2 H.1; omega) (fun s h1 h2 => by omega)
  obtain ⟨hn, hr, hnd, hsp, hvr, hst, hed⟩ := H
  have hp := am_p2 hn
  have hw : ∀ b, b < n → rc_cd nd s b → rc_B nd sR vR n (s ||| 2 ^ b) (b + 1) 0 (ac_down fr rp ne rc va stp brk n nr (2 ^ n - 1) mo ((s ||| 2 ^ b) * 10 + b)).toInt := fun b hb hcd =>
    hD _ (by have := rc_cd_gt (show s < 1024 by omega) (show b < 10 by omega) hcd; omega) (rc_or_lt hs hb) (cl_add hn hnd hb hc hcd) b hb (last_add hn hr hnd hs hb hc hcd)
  exact ⟨hw, mfrom_ok hn hsp hvr hs hj (fun b hb => nexts_ok hn hr hnd hc hb) hw (fun b hb => hst j b hj hb) (hed s hs)⟩
/-- greatestGain: what bestFrom answers -/
theorem gain_ok (H : nd_S ne nds nd fr rp sR vR rc va stp brk n nr) (mo f : Nat → Int64) :
    ac_mfrom (ac_down fr rp ne rc va stp brk n nr (2 ^ n - 1) mo) stp 0 0 (ac_nexts ne 0 n) (ac_end fr rp rc va brk n nr 0) n = (rc_best nd sR vR n 0 0 0 f).1 := by
  have hp := am_p2 H.1
  have h1 := (most_ok H mo (s := 0) (j := 0) (by omega) (by omega) (cl_0 nds n H.1)).2
  have e0 : (0 : Int64).toInt = 0 := by decide +kernel
  have h2 := rc_best_ok (nd := nd) (z := 0) (s0 := 0) (j := 0) H.1 H.2.2.2.1 H.2.2.2.2.1 (by omega) (by omega) (by rw [e0]; omega) (by rw [e0]; omega) f
  rw [e0] at h2
  exact Int64.toInt_inj.mp (rc_isB_uniq h1 h2)
/-- the next act of the row -/
theorem next_ok (H : nd_S ne nds nd fr rp sR vR rc va stp brk n nr) (mo : Nat → Int64) {s j : Nat} (hs : s < 2 ^ n) (hj : j ≤ n) (hc : nd_cl nds n (nI s)) {z v : Int64} (hz0 : 0 ≤ z.toInt) (hz1 : z.toInt ≤ 83160000000 * (s : Int)) (hv : rc_B nd sR vR n s j z.toInt v.toInt) :
    (ac_bn fr rp ne rc va stp (ac_down fr rp ne rc va stp brk n nr (2 ^ n - 1) mo) brk n nr s j = 0 ↔ vR s - z = v) ∧
    (¬ vR s - z = v → ∀ L, (rc_ra nd sR vR n s j z v n 0 L).1 + 1 = ac_bn fr rp ne rc va stp (ac_down fr rp ne rc va stp brk n nr (2 ^ n - 1) mo) brk n nr s j ∧ (rc_ra nd sR vR n s j z v n 0 L).1 < n ∧ rc_cd nd s (rc_ra nd sR vR n s j z v n 0 L).1 ∧
      rc_B nd sR vR n (s ||| 2 ^ (rc_ra nd sR vR n s j z v n 0 L).1) ((rc_ra nd sR vR n s j z v n 0 L).1 + 1) (z + sR j (rc_ra nd sR vR n s j z v n 0 L).1).toInt v.toInt) := by
  have hp := am_p2 H.1
  obtain ⟨hw, hB⟩ := most_ok H mo hs hj hc
  obtain ⟨hn, hr, hnd, hsp, hvr, hst, hed⟩ := H
  generalize ac_down fr rp ne rc va stp brk n nr (2 ^ n - 1) mo = M at hw hB ⊢
  have hBz := isB_shift (d := z.toInt) hB
  rw [Int.zero_add] at hBz
  have eV := rc_isB_uniq hBz hv
  have hrs := hvr s hs
  have hsub : (vR s - z).toInt = (vR s).toInt - z.toInt := i64_sub (by omega) (by omega)
  have hrng := isB_rng hn hsp hvr hs hj hB
  unfold ac_bn
  rw [hed s hs] at hB eV hrng ⊢
  generalize hbest : ac_mfrom M stp j s (ac_nexts ne (nI s) n) (vR s) n = best at hB eV hrng ⊢
  have hstop : best = vR s ↔ vR s - z = v := by
    rw [← Int64.toInt_inj, ← Int64.toInt_inj, hsub]; omega
  have hgood : ∀ b, b < n → rc_cd nd s b → ∀ L, (ac_mby M stp j s b = best ↔ (rc_best nd sR vR n (s ||| 2 ^ b) (b + 1) (z + sR j b) L).1 = v) := by
    intro b hb hcd L
    have q := hsp j b hj hb
    have r := isB_rng hn hsp hvr (rc_or_lt hs hb) (by omega) (hw b hb hcd)
    have em : (ac_mby M stp j s b).toInt = (M ((s ||| 2 ^ b) * 10 + b)).toInt - (sR j b).toInt := by
      unfold ac_mby
      rw [hst j b hj hb]
      exact i64_sub (by omega) (by omega)
    have hgt := rc_cd_gt (show s < 1024 by omega) (show b < 10 by omega) hcd
    have hadd : (z + sR j b).toInt = z.toInt + (sR j b).toInt := i64_add (by omega) (by omega)
    have hb2 := rc_best_ok (nd := nd) (z := z + sR j b) (j := b + 1) hn hsp hvr (rc_or_lt hs hb) (by omega) (by rw [hadd]; omega) (by rw [hadd]; omega) L
    have hb3 := isB_shift (d := (z + sR j b).toInt) (hw b hb hcd)
    rw [Int.zero_add] at hb3
    have e2 := rc_isB_uniq hb2 hb3
    rw [← Int64.toInt_inj, ← Int64.toInt_inj, em, e2, hadd]
    omega
  have hex : ¬ vR s - z = v → ∃ a, a < n ∧ rc_cd nd s a ∧ ac_mby M stp j s a = best := by
    intro hne
    obtain ⟨a, ha, hcd, hb⟩ := rc_isB_step hv (fun y => hne (Int64.toInt_inj.mp (hsub.trans y)))
    refine ⟨a, ha, hcd, (hgood a ha hcd (fun _ => 0)).mpr ?_⟩
    have q := hsp j a hj ha
    have hgt := rc_cd_gt (show s < 1024 by omega) (show a < 10 by omega) hcd
    have hadd : (z + sR j a).toInt = z.toInt + (sR j a).toInt := i64_add (by omega) (by omega)
    have hb2 := rc_best_ok (nd := nd) (z := z + sR j a) (j := a + 1) hn hsp hvr (rc_or_lt hs ha) (by omega) (by rw [hadd]; omega) (by rw [hadd]; omega) (fun _ => 0)
    rw [hadd] at hb2
    exact Int64.toInt_inj.mp (rc_isB_uniq hb2 hb)
  have srch : ∀ m k, k + m = n → (∃ a, k ≤ a ∧ a < n ∧ rc_cd nd s a ∧ ac_mby M stp j s a = best) → ∀ L, (rc_ra nd sR vR n s j z v m k L).1 + 1 = ac_bnl M stp j s (ac_nexts ne (nI s) n) best m k ∧ (rc_ra nd sR vR n s j z v m k L).1 < n ∧ rc_cd nd s (rc_ra nd sR vR n s j z v m k L).1 ∧ ac_mby M stp j s (rc_ra nd sR vR n s j z v m k L).1 = best := by
    intro m
    induction m with
    | zero => intro k hk ⟨a, h1, h2, _⟩; omega
    | succ m ih =>
      intro k hk ⟨a, h1, h2, h3, h4⟩ L
      have hnx := nexts_ok hn hr hnd hc (show k < n by omega)
      rw [rc_ra, ac_bnl]
      by_cases c1 : rc_can nd (nI s) k = 0
      · have c2 : ac_has (ac_nexts ne (nI s) n) (nI k) = 0 := Classical.byContradiction (fun y => hnx.mp y c1)
        rw [if_pos c1, if_pos c2]
        refine ih (k + 1) (by omega) ⟨a, ?_, h2, h3, h4⟩ L
        rcases Nat.lt_or_ge k a with y | y
        · exact y
        · rw [show a = k by omega] at h3; exact absurd c1 h3
      · have c2 : ¬ ac_has (ac_nexts ne (nI s) n) (nI k) = 0 := hnx.mpr c1
        rw [if_neg c1, if_neg c2]
        have hg := hgood k (by omega) c1 L
        by_cases c3 : ac_mby M stp j s k = best
        · rw [if_pos c3, if_pos (hg.mp c3)]
          exact ⟨rfl, by show k < n; omega, c1, c3⟩
        · rw [if_neg c3, if_neg (fun y => c3 (hg.mpr y))]
          refine ih (k + 1) (by omega) ⟨a, ?_, h2, h3, h4⟩ _
          rcases Nat.lt_or_ge k a with y | y
          · exact y
          · rw [show a = k by omega] at h4; exact absurd h4 c3
  have hne0 : ¬ vR s - z = v → ∀ L, _ := fun hne => srch n 0 (by omega) (by obtain ⟨a, h1, h2, h3⟩ := hex hne; exact ⟨a, by omega, h1, h2, h3⟩)
  refine ⟨?_, fun hne L => ?_⟩
  · by_cases c : best = vR s
    · rw [if_pos c]; exact ⟨fun _ => hstop.mp c, fun _ => rfl⟩
    · rw [if_neg c]
      have := hne0 (fun y => c (hstop.mpr y)) (fun _ => 0)
      exact ⟨fun y => by omega, fun y => absurd (hstop.mpr y) c⟩
  · rw [if_neg (fun y => hne (hstop.mp y))]
    obtain ⟨g1, g2, g3, g4⟩ := hne0 hne L
    refine ⟨g1, g2, g3, ?_⟩
    generalize (rc_ra nd sR vR n s j z v n 0 L).1 = a at g2 g3 g4
    have hb := (hgood a g2 g3 (fun _ => 0)).mp g4
    have q := hsp j a hj g2
    have hgt := rc_cd_gt (show s < 1024 by omega) (show a < 10 by omega) g3
    have hadd : (z + sR j a).toInt = z.toInt + (sR j a).toInt := i64_add (by omega) (by omega)
    have hb2 := rc_best_ok (nd := nd) (z := z + sR j a) (j := a + 1) hn hsp hvr (rc_or_lt hs g2) (by omega) (by rw [hadd]; omega) (by rw [hadd]; omega) (fun _ => 0)
    rw [hb] at hb2
    exact hb2
/-- the row, its length and its set -/
theorem row_ok (H : nd_S ne nds nd fr rp sR vR rc va stp brk n nr) (mo : Nat → Int64) {v : Int64} : ∀ m f s j (z : Int64) len (row : Nat → Int32) (L : Nat → Int64), 10 ≤ rc_pc s + m → m ≤ f → s < 2 ^ n → j ≤ n → nd_cl nds n (nI s) → 0 ≤ z.toInt → z.toInt ≤ 83160000000 * (s : Int) → rc_B nd sR vR n s j z.toInt v.toInt →
    ac_kr (ac_bn fr rp ne rc va stp (ac_down fr rp ne rc va stp brk n nr (2 ^ n - 1) mo) brk n nr) m row len s (ac_bn fr rp ne rc va stp (ac_down fr rp ne rc va stp brk n nr (2 ^ n - 1) mo) brk n nr s j) = ((rc_rn nd sR vR n v f s j z len row L).2.2.1, (rc_rn nd sR vR n v f s j z len row L).2.1, (rc_rn nd sR vR n v f s j z len row L).1) := by
  have hp := am_p2 H.1
  have hn := H.1
  have hsp := H.2.2.2.1
  intro m
  induction m with
  | zero =>
    intro f s j z len row L h1 h2 hs hj hc hz0 hz1 hv
    have hstop : vR s - z = v := Classical.byContradiction (fun hne => by
      obtain ⟨-, g⟩ := next_ok H mo hs hj hc hz0 hz1 hv
      obtain ⟨-, g2, g3, -⟩ := g hne L
      have := rc_pc_add (show s < 1024 by omega) (show (rc_ra nd sR vR n s j z v n 0 L).1 < 10 by omega) g3
      have := rc_pc_le (s ||| 2 ^ (rc_ra nd sR vR n s j z v n 0 L).1)
      omega)
    rw [rc_rn_0 hstop, ((next_ok H mo hs hj hc hz0 hz1 hv).1).mpr hstop, ac_kr_0]
  | succ m ih =>
    intro f s j z len row L h1 h2 hs hj hc hz0 hz1 hv
    obtain ⟨g0, g⟩ := next_ok H mo hs hj hc hz0 hz1 hv
    by_cases hstop : vR s - z = v
    · rw [rc_rn_0 hstop, g0.mpr hstop, ac_kr_0]
    · obtain ⟨r1, r2, r3, r4⟩ := g hstop L
      rw [rc_rn_S (a := (rc_ra nd sR vR n s j z v n 0 L).1) (L3 := (rc_ra nd sR vR n s j z v n 0 L).2) (by omega) hstop rfl, ← r1]
      generalize (rc_ra nd sR vR n s j z v n 0 L).1 = a at r2 r3 r4 ⊢
      have q := hsp j a hj r2
      have hgt := rc_cd_gt (show s < 1024 by omega) (show a < 10 by omega) r3
      have hadd : (z + sR j a).toInt = z.toInt + (sR j a).toInt := i64_add (by omega) (by omega)
      have hpc := rc_pc_add (show s < 1024 by omega) (show a < 10 by omega) r3
      rw [ac_kr]
      exact ih (f - 1) (s ||| 2 ^ a) (a + 1) (z + sR j a) (len + 1) (upd row len (nI a)) _ (by omega) (by omega) (rc_or_lt hs r2) (by omega) (cl_add hn H.2.2.1 r2 hc r3) (by rw [hadd]; omega) (by rw [hadd]; omega) r4
end SEARCH
