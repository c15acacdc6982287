-- ===== the reference's methods as functions of numbers =====
theorem am_shlc {x : Int32} {n : Nat} (hx : x = nI n) (h : n ≤ 10) : (1 : Int32) <<< (x &&& 31) = nI (2 ^ n) := by subst hx; exact am_shl1 n (by omega)
theorem am_shlt : ∀ k, k < 11 → (10 : Int32) <<< (nI k &&& 31) = nI (10 * 2 ^ k) := by decide +kernel
theorem am_shlt' {x : Int32} {n : Nat} (hx : x = nI n) (h : n ≤ 10) : (10 : Int32) <<< (x &&& 31) = nI (10 * 2 ^ n) := by subst hx; exact am_shlt n (by omega)
theorem am_six2 {s b : Nat} (hb : b < 31) : (10 : Int32) * (nI s ||| ((1 : Int32) <<< (nI b &&& 31))) + nI b = nI (10 * (s ||| 2 ^ b) + b) := by
  rw [am_shl1 b hb, am_or, show (10 : Int32) = nI 10 from rfl, pk_mul, nI_add]
theorem am_x10 (a b : Nat) : (10 : Int32) * nI a + nI b = nI (10 * a + b) := by rw [show (10 : Int32) = nI 10 from rfl, pk_mul, nI_add]
theorem am_jx6 {x y : Int32} (hx : ∃ t, t < 6 ∧ x = nI t) (hy : ∃ t, t < 6 ∧ y = nI t) : 6 * x + y = nI (6 * x + y).toNatClampNeg ∧ (6 * x + y).toNatClampNeg < 36 := by
  obtain ⟨t, ht, rfl⟩ := hx
  obtain ⟨u, hu, rfl⟩ := hy
  have e : 6 * nI t + nI u = nI (6 * t + u) := by rw [show (6 : Int32) = nI 6 from rfl, pk_mul, nI_add]
  rw [e, nI_clamp (by omega)]
  exact ⟨rfl, by omega⟩
theorem ac_la_lt {j : Nat} (h : j < 2 ^ 30) : ac_la j < 0 ↔ j = 0 := by
  cases j with
  | zero => exact ⟨fun _ => rfl, fun _ => by decide +kernel⟩
  | succ j => exact ⟨fun z => absurd z (nI_pos (by omega)), fun z => by omega⟩
def rc_has (x y : Int32) : Int32 := if ((x >>> (y &&& 31)) &&& 1) = 1 then 1 else 0
theorem rc_has_z (x y : Int32) : rc_has x y = 0 ∨ rc_has x y = 1 := by
  unfold rc_has
  split
  · exact Or.inr rfl
  · exact Or.inl rfl
-- leadsTo
def rc_ly (nds : Nat → Int32) (x : Nat) (s0 : Int32) : Nat → Int32
  | 0 => s0
  | y + 1 => if ((rc_ly nds x s0 y >>> (nI x &&& 31)) &&& 1) = 1 then (if nds (10 * x + y) = 0 then rc_ly nds x s0 y else rc_ly nds x s0 y ||| ((1 : Int32) <<< (nI y &&& 31))) else rc_ly nds x s0 y
def rc_lx (nds : Nat → Int32) (n : Nat) (s0 : Int32) : Nat → Int32
  | 0 => s0
  | x + 1 => rc_ly nds x (rc_lx nds n s0 x) n
def rc_lt (nds : Nat → Int32) (n : Nat) (s0 : Int32) : Nat → Int32
  | 0 => s0
  | t + 1 => rc_lx nds n (rc_lt nds n s0 t) n
def rc_leads (nds : Nat → Int32) (n a : Nat) (y : Int32) : Int32 := if ((rc_lt nds n ((1 : Int32) <<< (nI a &&& 31)) n >>> (y &&& 31)) &&& 1) = 1 then 1 else 0
theorem rc_leads_z (nds : Nat → Int32) (n a : Nat) (y : Int32) : rc_leads nds n a y = 0 ∨ rc_leads nds n a y = 1 := by
  unfold rc_leads
  split
  · exact Or.inr rfl
  · exact Or.inl rfl
-- isClosed
def rc_cb (nds : Nat → Int32) (set : Int32) (a : Nat) (c0 : Int32) : Nat → Int32
  | 0 => c0
  | b + 1 => if rc_cb nds set a c0 b = 0 then 0 else if rc_has set (nI a) = 0 then 1 else if nds (10 * a + b) = 0 then 1 else if rc_has set (nI b) = 0 then 0 else 1
def rc_ca (nds : Nat → Int32) (set : Int32) (n : Nat) : Nat → Int32
  | 0 => 1
  | a + 1 => rc_cb nds set a (rc_ca nds set n a) n
theorem rc_cb_z (nds : Nat → Int32) (set : Int32) (a : Nat) (c0 : Int32) (h : c0 = 0 ∨ c0 = 1) : ∀ b, rc_cb nds set a c0 b = 0 ∨ rc_cb nds set a c0 b = 1
  | 0 => h
  | b + 1 => by
    rw [rc_cb]
    split
    · exact Or.inl rfl
    · split
      · exact Or.inr rfl
      · split
        · exact Or.inr rfl
        · split
          · exact Or.inl rfl
          · exact Or.inr rfl
theorem rc_ca_z (nds : Nat → Int32) (set : Int32) (n : Nat) : ∀ a, rc_ca nds set n a = 0 ∨ rc_ca nds set n a = 1
  | 0 => Or.inr rfl
  | a + 1 => rc_cb_z nds set a _ (rc_ca_z nds set n a) n
-- states
def rc_fa (nds : Nat → Int32) (set : Int32) (last : Nat) : Nat → Int32
  | 0 => rc_has set (nI last)
  | a + 1 => if rc_fa nds set last a = 0 then 0 else if rc_has set (nI a) = 0 then 1 else if nds (10 * a + last) = 0 then 1 else 0
/-- the loop over the last acts: n steps are left -/
def rc_sl (nds : Nat → Int32) (set : Int32) (na : Nat) : Nat → Nat → Int64 → Int64
  | 0, _, m => m
  | n + 1, last, m => if rc_ca nds set na na = 0 then m else rc_sl nds set na n (last + 1) (if rc_fa nds set last na = 0 then m else m + 1)
theorem rc_sl_stop {nds : Nat → Int32} {set : Int32} {na : Nat} (h : rc_ca nds set na na = 0) {n last : Nat} {m : Int64} : rc_sl nds set na n last m = m := by
  cases n with
  | zero => rfl
  | succ n => rw [rc_sl, if_pos h]
def rc_st (nds : Nat → Int32) (na : Nat) : Nat → Int64
  | 0 => 1
  | k + 1 => rc_sl nds (nI (k + 1)) na na 0 (rc_st nds na k)
-- bringsOf, restOf, valueOf
def rc_frs (fr : Nat → Int32) (set pt : Int32) (k : Nat) : Int32 := if rc_has set (nI k) = 0 then 0 else if fr k = pt then 1 else 0
def rc_fre (fr : Nat → Int32) (set pt : Int32) : Nat → Int32
  | 0 => 0
  | k + 1 => if rc_fre fr set pt k = 0 then (if rc_frs fr set pt k = 0 then 0 else 1) else 1
def rc_who (fr br : Nat → Int32) (set pt : Int32) : Nat → Int32
  | 0 => 1
  | k + 1 => if rc_who fr br set pt k = 0 then 0 else if rc_frs fr set pt k = 0 then 1 else if br k = 0 then 1 else 0
def rc_brings (fr br ab be : Nat → Int32) (wo : Nat → Int64) (tst tas : Int32) (n : Nat) (set : Int32) (p : Nat) : Int64 :=
  if rc_fre fr set (nI p) n = 0 then 0 else if rc_who fr br set (nI p) n = 0 then 0 else if nI p = tst then (if tas = 1 then 27720 * wo p else 0) else 27720 * wo p / (be p).toInt64 * (ab p).toInt64
def rc_rest (fr : Nat → Int32) (set : Int32) : Nat → Int32
  | 0 => 4095
  | k + 1 => if rc_has set (nI k) = 0 then rc_rest fr set k else if fr k < 0 then rc_rest fr set k else if rc_has (rc_rest fr set k) (fr k) = 0 then rc_rest fr set k else rc_rest fr set k - ((1 : Int32) <<< (fr k &&& 31))
def rc_vs (brg : Nat → Int64) : Nat → Int64
  | 0 => 0
  | p + 1 => rc_vs brg p + brg p
def rc_vr (rp : Nat → Int32) (rwo : Nat → Int64) (rest : Int32) (v0 : Int64) : Nat → Int64
  | 0 => v0
  | k + 1 => rc_vr rp rwo rest v0 k + (if rp k = rest then 27720 * rwo k else 0)
def rc_val (fr br ab be rp : Nat → Int32) (wo rwo : Nat → Int64) (tst tas : Int32) (n nr : Nat) (set : Int32) : Int64 :=
  rc_vr rp rwo (rc_rest fr set n) (rc_vs (rc_brings fr br ab be wo tst tas n set) 12) nr
def rc_step (to si : Nat → Int32) (co ch tu : Nat → Int64) : Nat → Nat → Int64
  | 0, b => 27720 * co b
  | j + 1, b => 27720 * (co b + (if to j = to b then 0 else ch (6 * to j + to b).toNatClampNeg) + (if si j = si b then 0 else tu (6 * si j + si b).toNatClampNeg))
def rc_can (nd : Nat → Int32) (set : Int32) (b : Nat) : Int32 := if rc_has set (nI b) = 0 then (if (nd b &&& set) = nd b then 1 else 0) else 0
-- reckonValues
def rc_ni (nds : Nat → Int32) (a : Nat) (f : Nat → Int32) : Nat → Nat → Int32
  | 0 => upd f a 0
  | b + 1 => if nds (10 * a + b) = 0 then upd (rc_ni nds a f b) a (rc_ni nds a f b a) else upd (rc_ni nds a f b) a (rc_ni nds a f b a ||| ((1 : Int32) <<< (nI b &&& 31)))
def rc_no (nds : Nat → Int32) (n : Nat) (f : Nat → Int32) : Nat → Nat → Int32
  | 0 => f
  | a + 1 => rc_ni nds a (rc_no nds n f a) n
def rc_vals (val : Int32 → Int64) (f : Nat → Int64) : Nat → Nat → Int64
  | 0 => f
  | s + 1 => vp_updL (rc_vals val f s) s (val (nI s))
-- spread, bestFrom
def rc_spr (nd : Nat → Int32) (stp : Nat → Nat → Int64) (s e : Nat) (way : Int64) (f : Nat → Int64) : Nat → Nat → Int64
  | 0 => f
  | a + 1 => if rc_can nd (nI s) a = 0 then rc_spr nd stp s e way f a else vp_updL (rc_spr nd stp s e way f a) (10 * (s ||| 2 ^ a) + a) (if rc_spr nd stp s e way f a (10 * (s ||| 2 ^ a) + a) ≤ way + stp (e + 1) a then rc_spr nd stp s e way f a (10 * (s ||| 2 ^ a) + a) else way + stp (e + 1) a)
def rc_far (f : Nat → Int64) : Nat → Nat → Int64
  | 0 => f
  | k + 1 => vp_updL (rc_far f k) k 1000000000000000
def rc_b2 (nd : Nat → Int32) (stp : Nat → Nat → Int64) (j s : Nat) (z : Int64) (f : Nat → Int64) : Nat → Nat → Int64
  | 0 => f
  | a + 1 => if rc_can nd (nI s) a = 0 then rc_b2 nd stp j s z f a else vp_updL (rc_b2 nd stp j s z f a) (10 * (s ||| 2 ^ a) + a) (z + stp j a)
def rc_b3e (nd : Nat → Int32) (stp : Nat → Nat → Int64) (va : Nat → Int64) (n s e : Nat) (q : Int64 × (Nat → Int64)) : Int64 × (Nat → Int64) :=
  if 1000000000000000 ≤ q.2 (10 * s + e) then q else (if va s - q.2 (10 * s + e) ≤ q.1 then q.1 else va s - q.2 (10 * s + e), rc_spr nd stp s e (q.2 (10 * s + e)) q.2 n)
def rc_b3i (nd : Nat → Int32) (stp : Nat → Nat → Int64) (va : Nat → Int64) (n s : Nat) (q : Int64 × (Nat → Int64)) : Nat → Int64 × (Nat → Int64)
  | 0 => q
  | e + 1 => rc_b3e nd stp va n s e (rc_b3i nd stp va n s q e)
def rc_b3 (nd : Nat → Int32) (stp : Nat → Nat → Int64) (va : Nat → Int64) (n s0 : Nat) (q : Int64 × (Nat → Int64)) : Nat → Int64 × (Nat → Int64)
  | 0 => q
  | t + 1 => rc_b3i nd stp va n (s0 + 1 + t) (rc_b3 nd stp va n s0 q t) n
def rc_best (nd : Nat → Int32) (stp : Nat → Nat → Int64) (va : Nat → Int64) (n s0 j : Nat) (z : Int64) (f : Nat → Int64) : Int64 × (Nat → Int64) :=
  rc_b3 nd stp va n s0 (va s0 - z, rc_b2 nd stp j s0 z (rc_far f (10 * 2 ^ n)) n) (2 ^ n - (s0 + 1))
-- the face, what only reads
def rc_stops (op : Int32) (len key : Int32) : Nat → Nat → Int32 → Int32
  | 0, _, _ => -1
  | n + 1, k, c => if len < 0 then -1 else if rc_has op (nI k) = 0 then rc_stops op len key n (k + 1) c else if c = key then nI k else rc_stops op len key n (k + 1) (c + 1)
def rc_inrow (row : Nat → Int32) (a : Int32) : Nat → Int32
  | 0 => 0
  | k + 1 => if rc_inrow row a k = 0 then (if row k = a then 1 else 0) else 1
theorem rc_inrow_z (row : Nat → Int32) (a : Int32) : ∀ k, rc_inrow row a k = 0 ∨ rc_inrow row a k = 1
  | 0 => Or.inl rfl
  | k + 1 => by
    rw [rc_inrow]
    split
    · split
      · exact Or.inr rfl
      · exact Or.inl rfl
    · exact Or.inr rfl
def rc_other (inr : Int32 → Int32) (len key : Int32) : Nat → Nat → Int32 → Int32
  | 0, _, _ => -1
  | n + 1, k, c => if len < 0 then -1 else if inr (nI k) = 0 then (if c = key then nI k else rc_other inr len key n (k + 1) (c + 1)) else rc_other inr len key n (k + 1) c
def rc_gain (len : Int32) (fnd : Int64) (bro : Nat → Int64) (x : Int32) : Int64 := if 0 ≤ len then (if x = -1 then fnd else if ac_isPart x = 0 then 0 else bro x.toNatClampNeg) else 0
def rc_bd1 (wo : Nat → Int64) (ab be : Nat → Int32) : Nat → Int64
  | 0 => 0
  | p + 1 => rc_bd1 wo ab be p + (if wo p ≤ 0 then 0 else 27720 * wo p / (be p).toInt64 * (ab p).toInt64)
def rc_bd2 (rwo : Nat → Int64) : Nat → Int64
  | 0 => 0
  | k + 1 => if rwo k ≤ rc_bd2 rwo k then rc_bd2 rwo k else rwo k

def rc_len (x : Int32) : Nat := if x < 0 then 0 else x.toNatClampNeg
theorem am_m1le {x : Int32} (h : ¬ x < 0) : (-1 : Int32) ≤ x := by
  obtain ⟨j, hj, rfl⟩ := nI_of h
  exact Int32.le_iff_toInt_le.mpr (by rw [nI_toInt hj]; have : (-1 : Int32).toInt = -1 := by decide +kernel
                                      omega)
theorem am_rclen {x : Int32} {n : Nat} (h : x = nI n ∨ x = -1) (hn : n ≤ 10) : rc_len x ≤ 10 ∧ ∀ k : Nat, k < 2 ^ 31 → (x ≤ nI k ↔ rc_len x ≤ k) := by
  rcases h with rfl | rfl
  · have e : rc_len (nI n) = n := by rw [rc_len, if_neg (nI_pos (by omega)), nI_clamp (by omega)]
    rw [e]
    exact ⟨hn, fun k hk => nI_leI (by omega) hk⟩
  · have e : rc_len (-1) = 0 := by decide +kernel
    rw [e]
    exact ⟨by omega, fun k hk => ⟨fun _ => Nat.zero_le _, fun _ => am_m1le (nI_pos hk)⟩⟩
def rm_w (ad : Nat → Nat) (cI cL cZ : ClassId) (fi : Nat → Int32) (fl : Nat → Int64) (ai : Nat → Nat → Int32) (al : Nat → Nat → Int64) : va_W := [(ad 0, .inr (5, [.int (fi 0), .ref (ad 1), .ref (ad 2), .ref (ad 3), .ref (ad 4), .ref (ad 5), .ref (ad 6), .ref (ad 7), .ref (ad 8), .ref (ad 9), .ref (ad 10), .ref (ad 11), .ref (ad 12), .ref (ad 13), .int (fi 1), .ref (ad 14), .int (fi 2), .long (fl 0), .ref (ad 15), .int (fi 3), .int (fi 4), .int (fi 5), .ref (ad 16), .int (fi 6), .int (fi 7), .int (fi 8), .ref (ad 17), .ref (ad 18), .ref (ad 19), .ref (ad 20), .ref (ad 21)])),
  (ad 1, .inl (cI, 10, .inl (ai 1))),
  (ad 2, .inl (cI, 10, .inl (ai 2))),
  (ad 3, .inl (cI, 10, .inl (ai 3))),
  (ad 4, .inl (cL, 10, .inr (.inl (al 4)))),
  (ad 5, .inl (cZ, 10, .inl (ai 5))),
  (ad 6, .inl (cZ, 100, .inl (ai 6))),
  (ad 7, .inl (cL, 36, .inr (.inl (al 7)))),
  (ad 8, .inl (cL, 36, .inr (.inl (al 8)))),
  (ad 9, .inl (cL, 12, .inr (.inl (al 9)))),
  (ad 10, .inl (cI, 12, .inl (ai 10))),
  (ad 11, .inl (cI, 12, .inl (ai 11))),
  (ad 12, .inl (cI, 16, .inl (ai 12))),
  (ad 13, .inl (cL, 16, .inr (.inl (al 13)))),
  (ad 14, .inl (cI, 10, .inl (ai 14))),
  (ad 15, .inl (cL, 12, .inr (.inl (al 15)))),
  (ad 16, .inl (cI, 10, .inl (ai 16))),
  (ad 17, .inl (cI, 10, .inl (ai 17))),
  (ad 18, .inl (cL, 10240, .inr (.inl (al 18)))),
  (ad 19, .inl (cL, 1024, .inr (.inl (al 19)))),
  (ad 20, .inl (cI, 10, .inl (ai 20))),
  (ad 21, .inl (cZ, 100, .inl (ai 21)))]
