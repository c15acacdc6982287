-- ===== the reference's methods as functions of numbers =====
theorem am_shlc {x : Int32} {n : Nat} (hx : x = nI n) (h : n ≤ 10) : (1 : Int32) <<< (x &&& 31) = nI (2 ^ n) := by subst hx; exact am_shl1 n (by omega)
theorem am_shlt : ∀ k, k < 11 → (10 : Int32) <<< (nI k &&& 31) = nI (10 * 2 ^ k) := by decide +kernel
theorem am_shlt' {x : Int32} {n : Nat} (hx : x = nI n) (h : n ≤ 10) : (10 : Int32) <<< (x &&& 31) = nI (10 * 2 ^ n) := by subst hx; exact am_shlt n (by omega)
theorem am_six2 {s b : Nat} (hb : b < 31) : (10 : Int32) * (nI s ||| ((1 : Int32) <<< (nI b &&& 31))) + nI b = nI (10 * (s ||| 2 ^ b) + b) := by
  rw [am_shl1 b hb, am_or, show (10 : Int32) = nI 10 from rfl, pk_mul, nI_add]
theorem am_x10 (a b : Nat) : (10 : Int32) * nI a + nI b = nI (10 * a + b) := by rw [show (10 : Int32) = nI 10 from rfl, pk_mul, nI_add]
theorem am_jx6 {x y : Int32} (hx : ∃ t, t < 6 ∧ x = nI t) (hy : ∃ t, t < 6 ∧ y = nI t) : 6 * x + y = nI (6 * x + y).toNatClampNeg ∧ (6 * x + y).toNatClampNeg < 36 := by
  obtain ⟨t, ht, rfl⟩ := hx
  obtain ⟨u, hu, rfl⟩ := hy
  have e : 6 * nI t + nI u = nI (6 * t + u) := by rw [show (6 : Int32) = nI 6 from rfl, pk_mul, nI_add]
  rw [e, nI_clamp (by omega)]
  exact ⟨rfl, by omega⟩
theorem ac_la_lt {j : Nat} (h : j < 2 ^ 30) : ac_la j < 0 ↔ j = 0 := by
  cases j with
  | zero => exact ⟨fun _ => rfl, fun _ => by decide +kernel⟩
  | succ j => exact ⟨fun z => absurd z (nI_pos (by omega)), fun z => by omega⟩
def rc_has (x y : Int32) : Int32 := if ((x >>> (y &&& 31)) &&& 1) = 1 then 1 else 0
theorem rc_has_z (x y : Int32) : rc_has x y = 0 ∨ rc_has x y = 1 := by
  unfold rc_has
  split
  · exact Or.inr rfl
  · exact Or.inl rfl
-- leadsTo
def rc_ly (nds : Nat → Int32) (x : Nat) (s0 : Int32) : Nat → Int32
  | 0 => s0
  | y + 1 => if ((rc_ly nds x s0 y >>> (nI x &&& 31)) &&& 1) = 1 then (if nds (10 * x + y) = 0 then rc_ly nds x s0 y else rc_ly nds x s0 y ||| ((1 : Int32) <<< (nI y &&& 31))) else rc_ly nds x s0 y
def rc_lx (nds : Nat → Int32) (n : Nat) (s0 : Int32) : Nat → Int32
  | 0 => s0
  | x + 1 => rc_ly nds x (rc_lx nds n s0 x) n
def rc_lt (nds : Nat → Int32) (n : Nat) (s0 : Int32) : Nat → Int32
  | 0 => s0
  | t + 1 => rc_lx nds n (rc_lt nds n s0 t) n
def rc_leads (nds : Nat → Int32) (n a : Nat) (y : Int32) : Int32 := if ((rc_lt nds n ((1 : Int32) <<< (nI a &&& 31)) n >>> (y &&& 31)) &&& 1) = 1 then 1 else 0
theorem rc_leads_z (nds : Nat → Int32) (n a : Nat) (y : Int32) : rc_leads nds n a y = 0 ∨ rc_leads nds n a y = 1 := by
  unfold rc_leads
  split
  · exact Or.inr rfl
  · exact Or.inl rfl
-- isClosed
def rc_cb (nds : Nat → Int32) (set : Int32) (a : Nat) (c0 : Int32) : Nat → Int32
  | 0 => c0
  | b + 1 => if rc_cb nds set a c0 b = 0 then 0 else if rc_has set (nI a) = 0 then 1 else if nds (10 * a + b) = 0 then 1 else if rc_has set (nI b) = 0 then 0 else 1
def rc_ca (nds : Nat → Int32) (set : Int32) (n : Nat) : Nat → Int32
  | 0 => 1
  | a + 1 => rc_cb nds set a (rc_ca nds set n a) n
theorem rc_cb_z (nds : Nat → Int32) (set : Int32) (a : Nat) (c0 : Int32) (h : c0 = 0 ∨ c0 = 1) : ∀ b, rc_cb nds set a c0 b = 0 ∨ rc_cb nds set a c0 b = 1
  | 0 => h
  | b + 1 => by
    rw [rc_cb]
    split
    · exact Or.inl rfl
    · split
      · exact Or.inr rfl
      · split
        · exact Or.inr rfl
        · split
          · exact Or.inl rfl
          · exact Or.inr rfl
theorem rc_ca_z (nds : Nat → Int32) (set : Int32) (n : Nat) : ∀ a, rc_ca nds set n a = 0 ∨ rc_ca nds set n a = 1
  | 0 => Or.inr rfl
  | a + 1 => rc_cb_z nds set a _ (rc_ca_z nds set n a) n
-- states
def rc_fa (nds : Nat → Int32) (set : Int32) (last : Nat) : Nat → Int32
  | 0 => rc_has set (nI last)
  | a + 1 => if rc_fa nds set last a = 0 then 0 else if rc_has set (nI a) = 0 then 1 else if nds (10 * a + last) = 0 then 1 else 0
/-- the loop over the last acts: n steps are left -/
def rc_sl (nds : Nat → Int32) (set : Int32) (na : Nat) : Nat → Nat → Int64 → Int64
  | 0, _, m => m
  | n + 1, last, m => if rc_ca nds set na na = 0 then m else rc_sl nds set na n (last + 1) (if rc_fa nds set last na = 0 then m else m + 1)
theorem rc_sl_stop {nds : Nat → Int32} {set : Int32} {na : Nat} (h : rc_ca nds set na na = 0) {n last : Nat} {m : Int64} : rc_sl nds set na n last m = m := by
  cases n with
  | zero => rfl
  | succ n => rw [rc_sl, if_pos h]
def rc_st (nds : Nat → Int32) (na : Nat) : Nat → Int64
  | 0 => 1
  | k + 1 => rc_sl nds (nI (k + 1)) na na 0 (rc_st nds na k)
-- bringsOf, restOf, valueOf
def rc_frs (fr : Nat → Int32) (set pt : Int32) (k : Nat) : Int32 := if rc_has set (nI k) = 0 then 0 else if fr k = pt then 1 else 0
def rc_fre (fr : Nat → Int32) (set pt : Int32) : Nat → Int32
  | 0 => 0
  | k + 1 => if rc_fre fr set pt k = 0 then (if rc_frs fr set pt k = 0 then 0 else 1) else 1
def rc_who (fr br : Nat → Int32) (set pt : Int32) : Nat → Int32
  | 0 => 1
  | k + 1 => if rc_who fr br set pt k = 0 then 0 else if rc_frs fr set pt k = 0 then 1 else if br k = 0 then 1 else 0
def rc_brings (fr br ab be : Nat → Int32) (wo : Nat → Int64) (tst tas : Int32) (n : Nat) (set : Int32) (p : Nat) : Int64 :=
  if rc_fre fr set (nI p) n = 0 then 0 else if rc_who fr br set (nI p) n = 0 then 0 else if nI p = tst then (if tas = 1 then 27720 * wo p else 0) else 27720 * wo p / (be p).toInt64 * (ab p).toInt64
def rc_rest (fr : Nat → Int32) (set : Int32) : Nat → Int32
  | 0 => 4095
  | k + 1 => if rc_has set (nI k) = 0 then rc_rest fr set k else if fr k < 0 then rc_rest fr set k else if rc_has (rc_rest fr set k) (fr k) = 0 then rc_rest fr set k else rc_rest fr set k - ((1 : Int32) <<< (fr k &&& 31))
def rc_vs (brg : Nat → Int64) : Nat → Int64
  | 0 => 0
  | p + 1 => rc_vs brg p + brg p
def rc_vr (rp : Nat → Int32) (rwo : Nat → Int64) (rest : Int32) (v0 : Int64) : Nat → Int64
  | 0 => v0
  | k + 1 => rc_vr rp rwo rest v0 k + (if rp k = rest then 27720 * rwo k else 0)
def rc_val (fr br ab be rp : Nat → Int32) (wo rwo : Nat → Int64) (tst tas : Int32) (n nr : Nat) (set : Int32) : Int64 :=
  rc_vr rp rwo (rc_rest fr set n) (rc_vs (rc_brings fr br ab be wo tst tas n set) 12) nr
def rc_step (to si : Nat → Int32) (co ch tu : Nat → Int64) : Nat → Nat → Int64
  | 0, b => 27720 * co b
  | j + 1, b => 27720 * (co b + (if to j = to b then 0 else ch (6 * to j + to b).toNatClampNeg) + (if si j = si b then 0 else tu (6 * si j + si b).toNatClampNeg))
def rc_can (nd : Nat → Int32) (set : Int32) (b : Nat) : Int32 := if rc_has set (nI b) = 0 then (if (nd b &&& set) = nd b then 1 else 0) else 0
-- reckonValues
def rc_ni (nds : Nat → Int32) (a : Nat) (f : Nat → Int32) : Nat → Nat → Int32
  | 0 => upd f a 0
  | b + 1 => if nds (10 * a + b) = 0 then upd (rc_ni nds a f b) a (rc_ni nds a f b a) else upd (rc_ni nds a f b) a (rc_ni nds a f b a ||| ((1 : Int32) <<< (nI b &&& 31)))
def rc_no (nds : Nat → Int32) (n : Nat) (f : Nat → Int32) : Nat → Nat → Int32
  | 0 => f
  | a + 1 => rc_ni nds a (rc_no nds n f a) n
def rc_vals (val : Int32 → Int64) (f : Nat → Int64) : Nat → Nat → Int64
  | 0 => f
  | s + 1 => vp_updL (rc_vals val f s) s (val (nI s))
-- spread, bestFrom
def rc_spr (nd : Nat → Int32) (stp : Nat → Nat → Int64) (s e : Nat) (way : Int64) (f : Nat → Int64) : Nat → Nat → Int64
  | 0 => f
  | a + 1 => if rc_can nd (nI s) a = 0 then rc_spr nd stp s e way f a else vp_updL (rc_spr nd stp s e way f a) (10 * (s ||| 2 ^ a) + a) (if rc_spr nd stp s e way f a (10 * (s ||| 2 ^ a) + a) ≤ way + stp (e + 1) a then rc_spr nd stp s e way f a (10 * (s ||| 2 ^ a) + a) else way + stp (e + 1) a)
def rc_far (f : Nat → Int64) : Nat → Nat → Int64
  | 0 => f
  | k + 1 => vp_updL (rc_far f k) k 1000000000000000
def rc_b2 (nd : Nat → Int32) (stp : Nat → Nat → Int64) (j s : Nat) (z : Int64) (f : Nat → Int64) : Nat → Nat → Int64
  | 0 => f
  | a + 1 => if rc_can nd (nI s) a = 0 then rc_b2 nd stp j s z f a else vp_updL (rc_b2 nd stp j s z f a) (10 * (s ||| 2 ^ a) + a) (z + stp j a)
def rc_b3e (nd : Nat → Int32) (stp : Nat → Nat → Int64) (va : Nat → Int64) (n s e : Nat) (q : Int64 × (Nat → Int64)) : Int64 × (Nat → Int64) :=
  if 1000000000000000 ≤ q.2 (10 * s + e) then q else (if va s - q.2 (10 * s + e) ≤ q.1 then q.1 else va s - q.2 (10 * s + e), rc_spr nd stp s e (q.2 (10 * s + e)) q.2 n)
def rc_b3i (nd : Nat → Int32) (stp : Nat → Nat → Int64) (va : Nat → Int64) (n s : Nat) (q : Int64 × (Nat → Int64)) : Nat → Int64 × (Nat → Int64)
  | 0 => q
  | e + 1 => rc_b3e nd stp va n s e (rc_b3i nd stp va n s q e)
def rc_b3 (nd : Nat → Int32) (stp : Nat → Nat → Int64) (va : Nat → Int64) (n s0 : Nat) (q : Int64 × (Nat → Int64)) : Nat → Int64 × (Nat → Int64)
  | 0 => q
  | t + 1 => rc_b3i nd stp va n (s0 + 1 + t) (rc_b3 nd stp va n s0 q t) n
def rc_best (nd : Nat → Int32) (stp : Nat → Nat → Int64) (va : Nat → Int64) (n s0 j : Nat) (z : Int64) (f : Nat → Int64) : Int64 × (Nat → Int64) :=
  rc_b3 nd stp va n s0 (va s0 - z, rc_b2 nd stp j s0 z (rc_far f (10 * 2 ^ n)) n) (2 ^ n - (s0 + 1))
-- the face, what only reads
def rc_stops (op : Int32) (len key : Int32) : Nat → Nat → Int32 → Int32
  | 0, _, _ => -1
  | n + 1, k, c => if len < 0 then -1 else if rc_has op (nI k) = 0 then rc_stops op len key n (k + 1) c else if c = key then nI k else rc_stops op len key n (k + 1) (c + 1)
def rc_inrow (row : Nat → Int32) (a : Int32) : Nat → Int32
  | 0 => 0
  | k + 1 => if rc_inrow row a k = 0 then (if row k = a then 1 else 0) else 1
theorem rc_inrow_z (row : Nat → Int32) (a : Int32) : ∀ k, rc_inrow row a k = 0 ∨ rc_inrow row a k = 1
  | 0 => Or.inl rfl
  | k + 1 => by
    rw [rc_inrow]
    split
    · split
      · exact Or.inr rfl
      · exact Or.inl rfl
    · exact Or.inr rfl
def rc_other (inr : Int32 → Int32) (len key : Int32) : Nat → Nat → Int32 → Int32
  | 0, _, _ => -1
  | n + 1, k, c => if len < 0 then -1 else if inr (nI k) = 0 then (if c = key then nI k else rc_other inr len key n (k + 1) (c + 1)) else rc_other inr len key n (k + 1) c
def rc_gain (len : Int32) (fnd : Int64) (bro : Nat → Int64) (x : Int32) : Int64 := if 0 ≤ len then (if x = -1 then fnd else if ac_isPart x = 0 then 0 else bro x.toNatClampNeg) else 0
def rc_bd1 (wo : Nat → Int64) (ab be : Nat → Int32) : Nat → Int64
  | 0 => 0
  | p + 1 => rc_bd1 wo ab be p + (if wo p ≤ 0 then 0 else 27720 * wo p / (be p).toInt64 * (ab p).toInt64)
def rc_bd2 (rwo : Nat → Int64) : Nat → Int64
  | 0 => 0
  | k + 1 => if rwo k ≤ rc_bd2 rwo k then rc_bd2 rwo k else rwo k

def rc_len (x : Int32) : Nat := if x < 0 then 0 else x.toNatClampNeg
theorem am_m1le {x : Int32} (h : ¬ x < 0) : (-1 : Int32) ≤ x := by
  obtain ⟨j, hj, rfl⟩ := nI_of h
  exact Int32.le_iff_toInt_le.mpr (by rw [nI_toInt hj]; have : (-1 : Int32).toInt = -1 := by decide +kernel
                                      omega)
theorem am_rclen {x : Int32} {n : Nat} (h : x = nI n ∨ x = -1) (hn : n ≤ 10) : rc_len x ≤ 10 ∧ ∀ k : Nat, k < 2 ^ 31 → (x ≤ nI k ↔ rc_len x ≤ k) := by
  rcases h with rfl | rfl
  · have e : rc_len (nI n) = n := by rw [rc_len, if_neg (nI_pos (by omega)), nI_clamp (by omega)]
    rw [e]
    exact ⟨hn, fun k hk => nI_leI (by omega) hk⟩
  · have e : rc_len (-1) = 0 := by decide +kernel
    rw [e]
    exact ⟨by omega, fun k hk => ⟨fun _ => Nat.zero_le _, fun _ => am_m1le (nI_pos hk)⟩⟩
def rm_w (ad : Nat → Nat) (cI cL cZ : ClassId) (fi : Nat → Int32) (fl : Nat → Int64) (ai : Nat → Nat → Int32) (al : Nat → Nat → Int64) : va_W := [(ad 0, .inr (5, [.int (fi 0), .ref (ad 1), .ref (ad 2), .ref (ad 3), .ref (ad 4), .ref (ad 5), .ref (ad 6), .ref (ad 7), .ref (ad 8), .ref (ad 9), .ref (ad 10), .ref (ad 11), .ref (ad 12), .ref (ad 13), .int (fi 1), .ref (ad 14), .int (fi 2), .long (fl 0), .ref (ad 15), .int (fi 3), .int (fi 4), .int (fi 5), .ref (ad 16), .int (fi 6), .int (fi 7), .int (fi 8), .ref (ad 17), .ref (ad 18), .ref (ad 19), .ref (ad 20), .ref (ad 21)])),
  (ad 1, .inl (cI, 10, .inl (ai 1))),
  (ad 2, .inl (cI, 10, .inl (ai 2))),
  (ad 3, .inl (cI, 10, .inl (ai 3))),
  (ad 4, .inl (cL, 10, .inr (.inl (al 4)))),
  (ad 5, .inl (cZ, 10, .inl (ai 5))),
  (ad 6, .inl (cZ, 100, .inl (ai 6))),
  (ad 7, .inl (cL, 36, .inr (.inl (al 7)))),
  (ad 8, .inl (cL, 36, .inr (.inl (al 8)))),
  (ad 9, .inl (cL, 12, .inr (.inl (al 9)))),
  (ad 10, .inl (cI, 12, .inl (ai 10))),
  (ad 11, .inl (cI, 12, .inl (ai 11))),
  (ad 12, .inl (cI, 16, .inl (ai 12))),
  (ad 13, .inl (cL, 16, .inr (.inl (al 13)))),
  (ad 14, .inl (cI, 10, .inl (ai 14))),
  (ad 15, .inl (cL, 12, .inr (.inl (al 15)))),
  (ad 16, .inl (cI, 10, .inl (ai 16))),
  (ad 17, .inl (cI, 10, .inl (ai 17))),
  (ad 18, .inl (cL, 10240, .inr (.inl (al 18)))),
  (ad 19, .inl (cL, 1024, .inr (.inl (al 19)))),
  (ad 20, .inl (cI, 10, .inl (ai 20))),
  (ad 21, .inl (cZ, 100, .inl (ai 21)))]
theorem dX5_init_0 : decode cX5_init 0 = .ok (.aload_n 0, 1) := by decide +kernel
theorem dX5_init_1 : decode cX5_init 1 = .ok (.invokespecial 1, 3) := by decide +kernel
theorem dX5_init_4 : decode cX5_init 4 = .ok (.aload_n 0, 1) := by decide +kernel
theorem dX5_init_5 : decode cX5_init 5 = .ok (.bipush 10, 2) := by decide +kernel
theorem dX5_init_7 : decode cX5_init 7 = .ok (.newarray .int, 2) := by decide +kernel
theorem dX5_init_9 : decode cX5_init 9 = .ok (.putfield 7, 3) := by decide +kernel
theorem dX5_init_12 : decode cX5_init 12 = .ok (.aload_n 0, 1) := by decide +kernel
theorem dX5_init_13 : decode cX5_init 13 = .ok (.bipush 10, 2) := by decide +kernel
theorem dX5_init_15 : decode cX5_init 15 = .ok (.newarray .int, 2) := by decide +kernel
theorem dX5_init_17 : decode cX5_init 17 = .ok (.putfield 13, 3) := by decide +kernel
theorem dX5_init_20 : decode cX5_init 20 = .ok (.aload_n 0, 1) := by decide +kernel
theorem dX5_init_21 : decode cX5_init 21 = .ok (.bipush 10, 2) := by decide +kernel
theorem dX5_init_23 : decode cX5_init 23 = .ok (.newarray .int, 2) := by decide +kernel
theorem dX5_init_25 : decode cX5_init 25 = .ok (.putfield 16, 3) := by decide +kernel
theorem dX5_init_28 : decode cX5_init 28 = .ok (.aload_n 0, 1) := by decide +kernel
theorem dX5_init_29 : decode cX5_init 29 = .ok (.bipush 10, 2) := by decide +kernel
theorem dX5_init_31 : decode cX5_init 31 = .ok (.newarray .long, 2) := by decide +kernel
theorem dX5_init_33 : decode cX5_init 33 = .ok (.putfield 19, 3) := by decide +kernel
theorem dX5_init_36 : decode cX5_init 36 = .ok (.aload_n 0, 1) := by decide +kernel
theorem dX5_init_37 : decode cX5_init 37 = .ok (.bipush 10, 2) := by decide +kernel
theorem dX5_init_39 : decode cX5_init 39 = .ok (.newarray .boolean, 2) := by decide +kernel
theorem dX5_init_41 : decode cX5_init 41 = .ok (.putfield 23, 3) := by decide +kernel
theorem dX5_init_44 : decode cX5_init 44 = .ok (.aload_n 0, 1) := by decide +kernel
theorem dX5_init_45 : decode cX5_init 45 = .ok (.bipush 100, 2) := by decide +kernel
theorem dX5_init_47 : decode cX5_init 47 = .ok (.newarray .boolean, 2) := by decide +kernel
theorem dX5_init_49 : decode cX5_init 49 = .ok (.putfield 27, 3) := by decide +kernel
theorem dX5_init_52 : decode cX5_init 52 = .ok (.aload_n 0, 1) := by decide +kernel
theorem dX5_init_53 : decode cX5_init 53 = .ok (.bipush 36, 2) := by decide +kernel
theorem dX5_init_55 : decode cX5_init 55 = .ok (.newarray .long, 2) := by decide +kernel
theorem dX5_init_57 : decode cX5_init 57 = .ok (.putfield 30, 3) := by decide +kernel
theorem dX5_init_60 : decode cX5_init 60 = .ok (.aload_n 0, 1) := by decide +kernel
theorem dX5_init_61 : decode cX5_init 61 = .ok (.bipush 36, 2) := by decide +kernel
theorem dX5_init_63 : decode cX5_init 63 = .ok (.newarray .long, 2) := by decide +kernel
theorem dX5_init_65 : decode cX5_init 65 = .ok (.putfield 33, 3) := by decide +kernel
theorem dX5_init_68 : decode cX5_init 68 = .ok (.aload_n 0, 1) := by decide +kernel
theorem dX5_init_69 : decode cX5_init 69 = .ok (.bipush 12, 2) := by decide +kernel
theorem dX5_init_71 : decode cX5_init 71 = .ok (.newarray .long, 2) := by decide +kernel
theorem dX5_init_73 : decode cX5_init 73 = .ok (.putfield 36, 3) := by decide +kernel
theorem dX5_init_76 : decode cX5_init 76 = .ok (.aload_n 0, 1) := by decide +kernel
theorem dX5_init_77 : decode cX5_init 77 = .ok (.bipush 12, 2) := by decide +kernel
theorem dX5_init_79 : decode cX5_init 79 = .ok (.newarray .int, 2) := by decide +kernel
theorem dX5_init_81 : decode cX5_init 81 = .ok (.putfield 39, 3) := by decide +kernel
theorem dX5_init_84 : decode cX5_init 84 = .ok (.aload_n 0, 1) := by decide +kernel
theorem dX5_init_85 : decode cX5_init 85 = .ok (.bipush 12, 2) := by decide +kernel
theorem dX5_init_87 : decode cX5_init 87 = .ok (.newarray .int, 2) := by decide +kernel
theorem dX5_init_89 : decode cX5_init 89 = .ok (.putfield 42, 3) := by decide +kernel
theorem dX5_init_92 : decode cX5_init 92 = .ok (.aload_n 0, 1) := by decide +kernel
theorem dX5_init_93 : decode cX5_init 93 = .ok (.bipush 16, 2) := by decide +kernel
theorem dX5_init_95 : decode cX5_init 95 = .ok (.newarray .int, 2) := by decide +kernel
theorem dX5_init_97 : decode cX5_init 97 = .ok (.putfield 45, 3) := by decide +kernel
theorem dX5_init_100 : decode cX5_init 100 = .ok (.aload_n 0, 1) := by decide +kernel
theorem dX5_init_101 : decode cX5_init 101 = .ok (.bipush 16, 2) := by decide +kernel
theorem dX5_init_103 : decode cX5_init 103 = .ok (.newarray .long, 2) := by decide +kernel
theorem dX5_init_105 : decode cX5_init 105 = .ok (.putfield 48, 3) := by decide +kernel
theorem dX5_init_108 : decode cX5_init 108 = .ok (.aload_n 0, 1) := by decide +kernel
theorem dX5_init_109 : decode cX5_init 109 = .ok (.bipush 10, 2) := by decide +kernel
theorem dX5_init_111 : decode cX5_init 111 = .ok (.newarray .int, 2) := by decide +kernel
theorem dX5_init_113 : decode cX5_init 113 = .ok (.putfield 51, 3) := by decide +kernel
theorem dX5_init_116 : decode cX5_init 116 = .ok (.aload_n 0, 1) := by decide +kernel
theorem dX5_init_117 : decode cX5_init 117 = .ok (.iconst (-1), 1) := by decide +kernel
theorem dX5_init_118 : decode cX5_init 118 = .ok (.putfield 54, 3) := by decide +kernel
theorem dX5_init_121 : decode cX5_init 121 = .ok (.aload_n 0, 1) := by decide +kernel
theorem dX5_init_122 : decode cX5_init 122 = .ok (.bipush 12, 2) := by decide +kernel
theorem dX5_init_124 : decode cX5_init 124 = .ok (.newarray .long, 2) := by decide +kernel
theorem dX5_init_126 : decode cX5_init 126 = .ok (.putfield 58, 3) := by decide +kernel
theorem dX5_init_129 : decode cX5_init 129 = .ok (.aload_n 0, 1) := by decide +kernel
theorem dX5_init_130 : decode cX5_init 130 = .ok (.bipush 10, 2) := by decide +kernel
theorem dX5_init_132 : decode cX5_init 132 = .ok (.newarray .int, 2) := by decide +kernel
theorem dX5_init_134 : decode cX5_init 134 = .ok (.putfield 61, 3) := by decide +kernel
theorem dX5_init_137 : decode cX5_init 137 = .ok (.aload_n 0, 1) := by decide +kernel
theorem dX5_init_138 : decode cX5_init 138 = .ok (.iconst (-1), 1) := by decide +kernel
theorem dX5_init_139 : decode cX5_init 139 = .ok (.putfield 64, 3) := by decide +kernel
theorem dX5_init_142 : decode cX5_init 142 = .ok (.aload_n 0, 1) := by decide +kernel
theorem dX5_init_143 : decode cX5_init 143 = .ok (.bipush 10, 2) := by decide +kernel
theorem dX5_init_145 : decode cX5_init 145 = .ok (.newarray .int, 2) := by decide +kernel
theorem dX5_init_147 : decode cX5_init 147 = .ok (.putfield 67, 3) := by decide +kernel
theorem dX5_init_150 : decode cX5_init 150 = .ok (.aload_n 0, 1) := by decide +kernel
theorem dX5_init_151 : decode cX5_init 151 = .ok (.sipush 10240, 3) := by decide +kernel
theorem dX5_init_154 : decode cX5_init 154 = .ok (.newarray .long, 2) := by decide +kernel
theorem dX5_init_156 : decode cX5_init 156 = .ok (.putfield 70, 3) := by decide +kernel
theorem dX5_init_159 : decode cX5_init 159 = .ok (.aload_n 0, 1) := by decide +kernel
theorem dX5_init_160 : decode cX5_init 160 = .ok (.sipush 1024, 3) := by decide +kernel
theorem dX5_init_163 : decode cX5_init 163 = .ok (.newarray .long, 2) := by decide +kernel
theorem dX5_init_165 : decode cX5_init 165 = .ok (.putfield 73, 3) := by decide +kernel
theorem dX5_init_168 : decode cX5_init 168 = .ok (.aload_n 0, 1) := by decide +kernel
theorem dX5_init_169 : decode cX5_init 169 = .ok (.bipush 10, 2) := by decide +kernel
theorem dX5_init_171 : decode cX5_init 171 = .ok (.newarray .int, 2) := by decide +kernel
theorem dX5_init_173 : decode cX5_init 173 = .ok (.putfield 76, 3) := by decide +kernel
theorem dX5_init_176 : decode cX5_init 176 = .ok (.aload_n 0, 1) := by decide +kernel
theorem dX5_init_177 : decode cX5_init 177 = .ok (.bipush 100, 2) := by decide +kernel
theorem dX5_init_179 : decode cX5_init 179 = .ok (.newarray .boolean, 2) := by decide +kernel
theorem dX5_init_181 : decode cX5_init 181 = .ok (.putfield 79, 3) := by decide +kernel
theorem dX5_init_184 : decode cX5_init 184 = .ok (.iconst 0, 1) := by decide +kernel
theorem dX5_init_185 : decode cX5_init 185 = .ok (.istore_n 1, 1) := by decide +kernel
theorem dX5_init_186 : decode cX5_init 186 = .ok (.iload_n 1, 1) := by decide +kernel
theorem dX5_init_187 : decode cX5_init 187 = .ok (.bipush 12, 2) := by decide +kernel
theorem dX5_init_189 : decode cX5_init 189 = .ok (.if_icmp .ge 23, 3) := by decide +kernel
theorem dX5_init_192 : decode cX5_init 192 = .ok (.aload_n 0, 1) := by decide +kernel
theorem dX5_init_193 : decode cX5_init 193 = .ok (.getfield 39, 3) := by decide +kernel
theorem dX5_init_196 : decode cX5_init 196 = .ok (.iload_n 1, 1) := by decide +kernel
theorem dX5_init_197 : decode cX5_init 197 = .ok (.iconst 1, 1) := by decide +kernel
theorem dX5_init_198 : decode cX5_init 198 = .ok (.iastore, 1) := by decide +kernel
theorem dX5_init_199 : decode cX5_init 199 = .ok (.aload_n 0, 1) := by decide +kernel
theorem dX5_init_200 : decode cX5_init 200 = .ok (.getfield 42, 3) := by decide +kernel
theorem dX5_init_203 : decode cX5_init 203 = .ok (.iload_n 1, 1) := by decide +kernel
theorem dX5_init_204 : decode cX5_init 204 = .ok (.iconst 1, 1) := by decide +kernel
theorem dX5_init_205 : decode cX5_init 205 = .ok (.iastore, 1) := by decide +kernel
theorem dX5_init_206 : decode cX5_init 206 = .ok (.iinc 1 1, 3) := by decide +kernel
theorem dX5_init_209 : decode cX5_init 209 = .ok (.goto (-23), 3) := by decide +kernel
theorem dX5_init_212 : decode cX5_init 212 = .ok (.return_, 1) := by decide +kernel
theorem dX5_act_0 : decode cX5_act 0 = .ok (.aload_n 0, 1) := by decide +kernel
theorem dX5_act_1 : decode cX5_act 1 = .ok (.getfield 86, 3) := by decide +kernel
theorem dX5_act_4 : decode cX5_act 4 = .ok (.bipush 10, 2) := by decide +kernel
theorem dX5_act_6 : decode cX5_act 6 = .ok (.if_icmp .eq 36, 3) := by decide +kernel
theorem dX5_act_9 : decode cX5_act 9 = .ok (.iload_n 1, 1) := by decide +kernel
theorem dX5_act_10 : decode cX5_act 10 = .ok (.iconst (-1), 1) := by decide +kernel
theorem dX5_act_11 : decode cX5_act 11 = .ok (.if_icmp .lt 31, 3) := by decide +kernel
theorem dX5_act_14 : decode cX5_act 14 = .ok (.iload_n 1, 1) := by decide +kernel
theorem dX5_act_15 : decode cX5_act 15 = .ok (.bipush 12, 2) := by decide +kernel
theorem dX5_act_17 : decode cX5_act 17 = .ok (.if_icmp .ge 25, 3) := by decide +kernel
theorem dX5_act_20 : decode cX5_act 20 = .ok (.iload_n 2, 1) := by decide +kernel
theorem dX5_act_21 : decode cX5_act 21 = .ok (.invokestatic 89, 3) := by decide +kernel
theorem dX5_act_24 : decode cX5_act 24 = .ok (.ifCond .eq 18, 3) := by decide +kernel
theorem dX5_act_27 : decode cX5_act 27 = .ok (.iload_n 3, 1) := by decide +kernel
theorem dX5_act_28 : decode cX5_act 28 = .ok (.invokestatic 89, 3) := by decide +kernel
theorem dX5_act_31 : decode cX5_act 31 = .ok (.ifCond .eq 11, 3) := by decide +kernel
theorem dX5_act_34 : decode cX5_act 34 = .ok (.lload 4, 2) := by decide +kernel
theorem dX5_act_36 : decode cX5_act 36 = .ok (.invokestatic 93, 3) := by decide +kernel
theorem dX5_act_39 : decode cX5_act 39 = .ok (.ifCond .ne 5, 3) := by decide +kernel
theorem dX5_act_42 : decode cX5_act 42 = .ok (.iconst (-1), 1) := by decide +kernel
theorem dX5_act_43 : decode cX5_act 43 = .ok (.ireturn, 1) := by decide +kernel
theorem dX5_act_44 : decode cX5_act 44 = .ok (.aload_n 0, 1) := by decide +kernel
theorem dX5_act_45 : decode cX5_act 45 = .ok (.getfield 7, 3) := by decide +kernel
theorem dX5_act_48 : decode cX5_act 48 = .ok (.aload_n 0, 1) := by decide +kernel
theorem dX5_act_49 : decode cX5_act 49 = .ok (.getfield 86, 3) := by decide +kernel
theorem dX5_act_52 : decode cX5_act 52 = .ok (.iload_n 1, 1) := by decide +kernel
theorem dX5_act_53 : decode cX5_act 53 = .ok (.iastore, 1) := by decide +kernel
theorem dX5_act_54 : decode cX5_act 54 = .ok (.aload_n 0, 1) := by decide +kernel
theorem dX5_act_55 : decode cX5_act 55 = .ok (.getfield 13, 3) := by decide +kernel
theorem dX5_act_58 : decode cX5_act 58 = .ok (.aload_n 0, 1) := by decide +kernel
theorem dX5_act_59 : decode cX5_act 59 = .ok (.getfield 86, 3) := by decide +kernel
theorem dX5_act_62 : decode cX5_act 62 = .ok (.iload_n 2, 1) := by decide +kernel
theorem dX5_act_63 : decode cX5_act 63 = .ok (.iastore, 1) := by decide +kernel
theorem dX5_act_64 : decode cX5_act 64 = .ok (.aload_n 0, 1) := by decide +kernel
theorem dX5_act_65 : decode cX5_act 65 = .ok (.getfield 16, 3) := by decide +kernel
theorem dX5_act_68 : decode cX5_act 68 = .ok (.aload_n 0, 1) := by decide +kernel
theorem dX5_act_69 : decode cX5_act 69 = .ok (.getfield 86, 3) := by decide +kernel
theorem dX5_act_72 : decode cX5_act 72 = .ok (.iload_n 3, 1) := by decide +kernel
theorem dX5_act_73 : decode cX5_act 73 = .ok (.iastore, 1) := by decide +kernel
theorem dX5_act_74 : decode cX5_act 74 = .ok (.aload_n 0, 1) := by decide +kernel
theorem dX5_act_75 : decode cX5_act 75 = .ok (.getfield 19, 3) := by decide +kernel
theorem dX5_act_78 : decode cX5_act 78 = .ok (.aload_n 0, 1) := by decide +kernel
theorem dX5_act_79 : decode cX5_act 79 = .ok (.getfield 86, 3) := by decide +kernel
theorem dX5_act_82 : decode cX5_act 82 = .ok (.lload 4, 2) := by decide +kernel
theorem dX5_act_84 : decode cX5_act 84 = .ok (.lastore, 1) := by decide +kernel
theorem dX5_act_85 : decode cX5_act 85 = .ok (.aload_n 0, 1) := by decide +kernel
theorem dX5_act_86 : decode cX5_act 86 = .ok (.dup, 1) := by decide +kernel
theorem dX5_act_87 : decode cX5_act 87 = .ok (.getfield 86, 3) := by decide +kernel
theorem dX5_act_90 : decode cX5_act 90 = .ok (.iconst 1, 1) := by decide +kernel
theorem dX5_act_91 : decode cX5_act 91 = .ok (.iadd, 1) := by decide +kernel
theorem dX5_act_92 : decode cX5_act 92 = .ok (.putfield 86, 3) := by decide +kernel
theorem dX5_act_95 : decode cX5_act 95 = .ok (.aload_n 0, 1) := by decide +kernel
theorem dX5_act_96 : decode cX5_act 96 = .ok (.iconst 0, 1) := by decide +kernel
theorem dX5_act_97 : decode cX5_act 97 = .ok (.putfield 97, 3) := by decide +kernel
theorem dX5_act_100 : decode cX5_act 100 = .ok (.aload_n 0, 1) := by decide +kernel
theorem dX5_act_101 : decode cX5_act 101 = .ok (.getfield 86, 3) := by decide +kernel
theorem dX5_act_104 : decode cX5_act 104 = .ok (.iconst 1, 1) := by decide +kernel
theorem dX5_act_105 : decode cX5_act 105 = .ok (.isub, 1) := by decide +kernel
theorem dX5_act_106 : decode cX5_act 106 = .ok (.ireturn, 1) := by decide +kernel
theorem dX5_isKind_0 : decode cX5_isKind 0 = .ok (.iload_n 0, 1) := by decide +kernel
theorem dX5_isKind_1 : decode cX5_isKind 1 = .ok (.ifCond .lt 13, 3) := by decide +kernel
theorem dX5_isKind_4 : decode cX5_isKind 4 = .ok (.iload_n 0, 1) := by decide +kernel
theorem dX5_isKind_5 : decode cX5_isKind 5 = .ok (.bipush 6, 2) := by decide +kernel
theorem dX5_isKind_7 : decode cX5_isKind 7 = .ok (.if_icmp .ge 7, 3) := by decide +kernel
theorem dX5_isKind_10 : decode cX5_isKind 10 = .ok (.iconst 1, 1) := by decide +kernel
theorem dX5_isKind_11 : decode cX5_isKind 11 = .ok (.goto 4, 3) := by decide +kernel
theorem dX5_isKind_14 : decode cX5_isKind 14 = .ok (.iconst 0, 1) := by decide +kernel
theorem dX5_isKind_15 : decode cX5_isKind 15 = .ok (.ireturn, 1) := by decide +kernel
theorem dX5_isCents_0 : decode cX5_isCents 0 = .ok (.lload_n 0, 1) := by decide +kernel
theorem dX5_isCents_1 : decode cX5_isCents 1 = .ok (.lconst 0, 1) := by decide +kernel
theorem dX5_isCents_2 : decode cX5_isCents 2 = .ok (.lcmp, 1) := by decide +kernel
theorem dX5_isCents_3 : decode cX5_isCents 3 = .ok (.ifCond .lt 15, 3) := by decide +kernel
theorem dX5_isCents_6 : decode cX5_isCents 6 = .ok (.lload_n 0, 1) := by decide +kernel
theorem dX5_isCents_7 : decode cX5_isCents 7 = .ok (.ldc2_w 82, 3) := by decide +kernel
theorem dX5_isCents_10 : decode cX5_isCents 10 = .ok (.lcmp, 1) := by decide +kernel
theorem dX5_isCents_11 : decode cX5_isCents 11 = .ok (.ifCond .gt 7, 3) := by decide +kernel
theorem dX5_isCents_14 : decode cX5_isCents 14 = .ok (.iconst 1, 1) := by decide +kernel
theorem dX5_isCents_15 : decode cX5_isCents 15 = .ok (.goto 4, 3) := by decide +kernel
theorem dX5_isCents_18 : decode cX5_isCents 18 = .ok (.iconst 0, 1) := by decide +kernel
theorem dX5_isCents_19 : decode cX5_isCents 19 = .ok (.ireturn, 1) := by decide +kernel
theorem dX5_before_0 : decode cX5_before 0 = .ok (.aload_n 0, 1) := by decide +kernel
theorem dX5_before_1 : decode cX5_before 1 = .ok (.iload_n 1, 1) := by decide +kernel
theorem dX5_before_2 : decode cX5_before 2 = .ok (.invokevirtual 101, 3) := by decide +kernel
theorem dX5_before_5 : decode cX5_before 5 = .ok (.ifCond .eq 25, 3) := by decide +kernel
theorem dX5_before_8 : decode cX5_before 8 = .ok (.aload_n 0, 1) := by decide +kernel
theorem dX5_before_9 : decode cX5_before 9 = .ok (.iload_n 2, 1) := by decide +kernel
theorem dX5_before_10 : decode cX5_before 10 = .ok (.invokevirtual 101, 3) := by decide +kernel
theorem dX5_before_13 : decode cX5_before 13 = .ok (.ifCond .eq 17, 3) := by decide +kernel
theorem dX5_before_16 : decode cX5_before 16 = .ok (.iload_n 1, 1) := by decide +kernel
theorem dX5_before_17 : decode cX5_before 17 = .ok (.iload_n 2, 1) := by decide +kernel
theorem dX5_before_18 : decode cX5_before 18 = .ok (.if_icmp .eq 12, 3) := by decide +kernel
theorem dX5_before_21 : decode cX5_before 21 = .ok (.aload_n 0, 1) := by decide +kernel
theorem dX5_before_22 : decode cX5_before 22 = .ok (.iload_n 1, 1) := by decide +kernel
theorem dX5_before_23 : decode cX5_before 23 = .ok (.iload_n 2, 1) := by decide +kernel
theorem dX5_before_24 : decode cX5_before 24 = .ok (.invokevirtual 104, 3) := by decide +kernel
theorem dX5_before_27 : decode cX5_before 27 = .ok (.ifCond .eq 5, 3) := by decide +kernel
theorem dX5_before_30 : decode cX5_before 30 = .ok (.iconst 0, 1) := by decide +kernel
theorem dX5_before_31 : decode cX5_before 31 = .ok (.ireturn, 1) := by decide +kernel
theorem dX5_before_32 : decode cX5_before 32 = .ok (.aload_n 0, 1) := by decide +kernel
theorem dX5_before_33 : decode cX5_before 33 = .ok (.getfield 27, 3) := by decide +kernel
theorem dX5_before_36 : decode cX5_before 36 = .ok (.bipush 10, 2) := by decide +kernel
theorem dX5_before_38 : decode cX5_before 38 = .ok (.iload_n 2, 1) := by decide +kernel
theorem dX5_before_39 : decode cX5_before 39 = .ok (.imul, 1) := by decide +kernel
theorem dX5_before_40 : decode cX5_before 40 = .ok (.iload_n 1, 1) := by decide +kernel
theorem dX5_before_41 : decode cX5_before 41 = .ok (.iadd, 1) := by decide +kernel
theorem dX5_before_42 : decode cX5_before 42 = .ok (.iconst 1, 1) := by decide +kernel
theorem dX5_before_43 : decode cX5_before 43 = .ok (.bastore, 1) := by decide +kernel
theorem dX5_before_44 : decode cX5_before 44 = .ok (.aload_n 0, 1) := by decide +kernel
theorem dX5_before_45 : decode cX5_before 45 = .ok (.iconst 0, 1) := by decide +kernel
theorem dX5_before_46 : decode cX5_before 46 = .ok (.putfield 97, 3) := by decide +kernel
theorem dX5_before_49 : decode cX5_before 49 = .ok (.iconst 1, 1) := by decide +kernel
theorem dX5_before_50 : decode cX5_before 50 = .ok (.ireturn, 1) := by decide +kernel
theorem dX5_isAct_0 : decode cX5_isAct 0 = .ok (.iload_n 1, 1) := by decide +kernel
theorem dX5_isAct_1 : decode cX5_isAct 1 = .ok (.ifCond .lt 15, 3) := by decide +kernel
theorem dX5_isAct_4 : decode cX5_isAct 4 = .ok (.iload_n 1, 1) := by decide +kernel
theorem dX5_isAct_5 : decode cX5_isAct 5 = .ok (.aload_n 0, 1) := by decide +kernel
theorem dX5_isAct_6 : decode cX5_isAct 6 = .ok (.getfield 86, 3) := by decide +kernel
theorem dX5_isAct_9 : decode cX5_isAct 9 = .ok (.if_icmp .ge 7, 3) := by decide +kernel
theorem dX5_isAct_12 : decode cX5_isAct 12 = .ok (.iconst 1, 1) := by decide +kernel
theorem dX5_isAct_13 : decode cX5_isAct 13 = .ok (.goto 4, 3) := by decide +kernel
theorem dX5_isAct_16 : decode cX5_isAct 16 = .ok (.iconst 0, 1) := by decide +kernel
theorem dX5_isAct_17 : decode cX5_isAct 17 = .ok (.ireturn, 1) := by decide +kernel
theorem dX5_leadsTo_0 : decode cX5_leadsTo 0 = .ok (.iconst 1, 1) := by decide +kernel
theorem dX5_leadsTo_1 : decode cX5_leadsTo 1 = .ok (.iload_n 1, 1) := by decide +kernel
theorem dX5_leadsTo_2 : decode cX5_leadsTo 2 = .ok (.ishl, 1) := by decide +kernel
theorem dX5_leadsTo_3 : decode cX5_leadsTo 3 = .ok (.istore_n 3, 1) := by decide +kernel
theorem dX5_leadsTo_4 : decode cX5_leadsTo 4 = .ok (.iconst 0, 1) := by decide +kernel
theorem dX5_leadsTo_5 : decode cX5_leadsTo 5 = .ok (.istore 4, 2) := by decide +kernel
theorem dX5_leadsTo_7 : decode cX5_leadsTo 7 = .ok (.iload 4, 2) := by decide +kernel
theorem dX5_leadsTo_9 : decode cX5_leadsTo 9 = .ok (.aload_n 0, 1) := by decide +kernel
theorem dX5_leadsTo_10 : decode cX5_leadsTo 10 = .ok (.getfield 86, 3) := by decide +kernel
theorem dX5_leadsTo_13 : decode cX5_leadsTo 13 = .ok (.if_icmp .ge 82, 3) := by decide +kernel
theorem dX5_leadsTo_16 : decode cX5_leadsTo 16 = .ok (.iconst 0, 1) := by decide +kernel
theorem dX5_leadsTo_17 : decode cX5_leadsTo 17 = .ok (.istore 5, 2) := by decide +kernel
theorem dX5_leadsTo_19 : decode cX5_leadsTo 19 = .ok (.iload 5, 2) := by decide +kernel
theorem dX5_leadsTo_21 : decode cX5_leadsTo 21 = .ok (.aload_n 0, 1) := by decide +kernel
theorem dX5_leadsTo_22 : decode cX5_leadsTo 22 = .ok (.getfield 86, 3) := by decide +kernel
theorem dX5_leadsTo_25 : decode cX5_leadsTo 25 = .ok (.if_icmp .ge 64, 3) := by decide +kernel
theorem dX5_leadsTo_28 : decode cX5_leadsTo 28 = .ok (.iconst 0, 1) := by decide +kernel
theorem dX5_leadsTo_29 : decode cX5_leadsTo 29 = .ok (.istore 6, 2) := by decide +kernel
theorem dX5_leadsTo_31 : decode cX5_leadsTo 31 = .ok (.iload 6, 2) := by decide +kernel
theorem dX5_leadsTo_33 : decode cX5_leadsTo 33 = .ok (.aload_n 0, 1) := by decide +kernel
theorem dX5_leadsTo_34 : decode cX5_leadsTo 34 = .ok (.getfield 86, 3) := by decide +kernel
theorem dX5_leadsTo_37 : decode cX5_leadsTo 37 = .ok (.if_icmp .ge 46, 3) := by decide +kernel
theorem dX5_leadsTo_40 : decode cX5_leadsTo 40 = .ok (.iload_n 3, 1) := by decide +kernel
theorem dX5_leadsTo_41 : decode cX5_leadsTo 41 = .ok (.iload 5, 2) := by decide +kernel
theorem dX5_leadsTo_43 : decode cX5_leadsTo 43 = .ok (.ishr, 1) := by decide +kernel
theorem dX5_leadsTo_44 : decode cX5_leadsTo 44 = .ok (.iconst 1, 1) := by decide +kernel
theorem dX5_leadsTo_45 : decode cX5_leadsTo 45 = .ok (.iand, 1) := by decide +kernel
theorem dX5_leadsTo_46 : decode cX5_leadsTo 46 = .ok (.iconst 1, 1) := by decide +kernel
theorem dX5_leadsTo_47 : decode cX5_leadsTo 47 = .ok (.if_icmp .ne 28, 3) := by decide +kernel
theorem dX5_leadsTo_50 : decode cX5_leadsTo 50 = .ok (.aload_n 0, 1) := by decide +kernel
theorem dX5_leadsTo_51 : decode cX5_leadsTo 51 = .ok (.getfield 27, 3) := by decide +kernel
theorem dX5_leadsTo_54 : decode cX5_leadsTo 54 = .ok (.bipush 10, 2) := by decide +kernel
theorem dX5_leadsTo_56 : decode cX5_leadsTo 56 = .ok (.iload 5, 2) := by decide +kernel
theorem dX5_leadsTo_58 : decode cX5_leadsTo 58 = .ok (.imul, 1) := by decide +kernel
theorem dX5_leadsTo_59 : decode cX5_leadsTo 59 = .ok (.iload 6, 2) := by decide +kernel
theorem dX5_leadsTo_61 : decode cX5_leadsTo 61 = .ok (.iadd, 1) := by decide +kernel
theorem dX5_leadsTo_62 : decode cX5_leadsTo 62 = .ok (.baload, 1) := by decide +kernel
theorem dX5_leadsTo_63 : decode cX5_leadsTo 63 = .ok (.ifCond .eq 12, 3) := by decide +kernel
theorem dX5_leadsTo_66 : decode cX5_leadsTo 66 = .ok (.iload_n 3, 1) := by decide +kernel
theorem dX5_leadsTo_67 : decode cX5_leadsTo 67 = .ok (.iconst 1, 1) := by decide +kernel
theorem dX5_leadsTo_68 : decode cX5_leadsTo 68 = .ok (.iload 6, 2) := by decide +kernel
theorem dX5_leadsTo_70 : decode cX5_leadsTo 70 = .ok (.ishl, 1) := by decide +kernel
theorem dX5_leadsTo_71 : decode cX5_leadsTo 71 = .ok (.ior, 1) := by decide +kernel
theorem dX5_leadsTo_72 : decode cX5_leadsTo 72 = .ok (.goto 4, 3) := by decide +kernel
theorem dX5_leadsTo_75 : decode cX5_leadsTo 75 = .ok (.iload_n 3, 1) := by decide +kernel
theorem dX5_leadsTo_76 : decode cX5_leadsTo 76 = .ok (.istore_n 3, 1) := by decide +kernel
theorem dX5_leadsTo_77 : decode cX5_leadsTo 77 = .ok (.iinc 6 1, 3) := by decide +kernel
theorem dX5_leadsTo_80 : decode cX5_leadsTo 80 = .ok (.goto (-49), 3) := by decide +kernel
theorem dX5_leadsTo_83 : decode cX5_leadsTo 83 = .ok (.iinc 5 1, 3) := by decide +kernel
theorem dX5_leadsTo_86 : decode cX5_leadsTo 86 = .ok (.goto (-67), 3) := by decide +kernel
theorem dX5_leadsTo_89 : decode cX5_leadsTo 89 = .ok (.iinc 4 1, 3) := by decide +kernel
theorem dX5_leadsTo_92 : decode cX5_leadsTo 92 = .ok (.goto (-85), 3) := by decide +kernel
theorem dX5_leadsTo_95 : decode cX5_leadsTo 95 = .ok (.iload_n 3, 1) := by decide +kernel
theorem dX5_leadsTo_96 : decode cX5_leadsTo 96 = .ok (.iload_n 2, 1) := by decide +kernel
theorem dX5_leadsTo_97 : decode cX5_leadsTo 97 = .ok (.ishr, 1) := by decide +kernel
theorem dX5_leadsTo_98 : decode cX5_leadsTo 98 = .ok (.iconst 1, 1) := by decide +kernel
theorem dX5_leadsTo_99 : decode cX5_leadsTo 99 = .ok (.iand, 1) := by decide +kernel
theorem dX5_leadsTo_100 : decode cX5_leadsTo 100 = .ok (.iconst 1, 1) := by decide +kernel
theorem dX5_leadsTo_101 : decode cX5_leadsTo 101 = .ok (.if_icmp .ne 7, 3) := by decide +kernel
theorem dX5_leadsTo_104 : decode cX5_leadsTo 104 = .ok (.iconst 1, 1) := by decide +kernel
theorem dX5_leadsTo_105 : decode cX5_leadsTo 105 = .ok (.goto 4, 3) := by decide +kernel
theorem dX5_leadsTo_108 : decode cX5_leadsTo 108 = .ok (.iconst 0, 1) := by decide +kernel
theorem dX5_leadsTo_109 : decode cX5_leadsTo 109 = .ok (.ireturn, 1) := by decide +kernel
theorem dX5_change_0 : decode cX5_change 0 = .ok (.iload_n 1, 1) := by decide +kernel
theorem dX5_change_1 : decode cX5_change 1 = .ok (.invokestatic 89, 3) := by decide +kernel
theorem dX5_change_4 : decode cX5_change 4 = .ok (.ifCond .eq 22, 3) := by decide +kernel
theorem dX5_change_7 : decode cX5_change 7 = .ok (.iload_n 2, 1) := by decide +kernel
theorem dX5_change_8 : decode cX5_change 8 = .ok (.invokestatic 89, 3) := by decide +kernel
theorem dX5_change_11 : decode cX5_change 11 = .ok (.ifCond .eq 15, 3) := by decide +kernel
theorem dX5_change_14 : decode cX5_change 14 = .ok (.iload_n 1, 1) := by decide +kernel
theorem dX5_change_15 : decode cX5_change 15 = .ok (.iload_n 2, 1) := by decide +kernel
theorem dX5_change_16 : decode cX5_change 16 = .ok (.if_icmp .eq 10, 3) := by decide +kernel
theorem dX5_change_19 : decode cX5_change 19 = .ok (.lload_n 3, 1) := by decide +kernel
theorem dX5_change_20 : decode cX5_change 20 = .ok (.invokestatic 93, 3) := by decide +kernel
theorem dX5_change_23 : decode cX5_change 23 = .ok (.ifCond .ne 5, 3) := by decide +kernel
theorem dX5_change_26 : decode cX5_change 26 = .ok (.iconst 0, 1) := by decide +kernel
theorem dX5_change_27 : decode cX5_change 27 = .ok (.ireturn, 1) := by decide +kernel
theorem dX5_change_28 : decode cX5_change 28 = .ok (.aload_n 0, 1) := by decide +kernel
theorem dX5_change_29 : decode cX5_change 29 = .ok (.getfield 30, 3) := by decide +kernel
theorem dX5_change_32 : decode cX5_change 32 = .ok (.bipush 6, 2) := by decide +kernel
theorem dX5_change_34 : decode cX5_change 34 = .ok (.iload_n 1, 1) := by decide +kernel
theorem dX5_change_35 : decode cX5_change 35 = .ok (.imul, 1) := by decide +kernel
theorem dX5_change_36 : decode cX5_change 36 = .ok (.iload_n 2, 1) := by decide +kernel
theorem dX5_change_37 : decode cX5_change 37 = .ok (.iadd, 1) := by decide +kernel
theorem dX5_change_38 : decode cX5_change 38 = .ok (.lload_n 3, 1) := by decide +kernel
theorem dX5_change_39 : decode cX5_change 39 = .ok (.lastore, 1) := by decide +kernel
theorem dX5_change_40 : decode cX5_change 40 = .ok (.aload_n 0, 1) := by decide +kernel
theorem dX5_change_41 : decode cX5_change 41 = .ok (.iconst 0, 1) := by decide +kernel
theorem dX5_change_42 : decode cX5_change 42 = .ok (.putfield 97, 3) := by decide +kernel
theorem dX5_change_45 : decode cX5_change 45 = .ok (.iconst 1, 1) := by decide +kernel
theorem dX5_change_46 : decode cX5_change 46 = .ok (.ireturn, 1) := by decide +kernel
theorem dX5_turn_0 : decode cX5_turn 0 = .ok (.iload_n 1, 1) := by decide +kernel
theorem dX5_turn_1 : decode cX5_turn 1 = .ok (.invokestatic 89, 3) := by decide +kernel
theorem dX5_turn_4 : decode cX5_turn 4 = .ok (.ifCond .eq 22, 3) := by decide +kernel
theorem dX5_turn_7 : decode cX5_turn 7 = .ok (.iload_n 2, 1) := by decide +kernel
theorem dX5_turn_8 : decode cX5_turn 8 = .ok (.invokestatic 89, 3) := by decide +kernel
theorem dX5_turn_11 : decode cX5_turn 11 = .ok (.ifCond .eq 15, 3) := by decide +kernel
theorem dX5_turn_14 : decode cX5_turn 14 = .ok (.iload_n 1, 1) := by decide +kernel
theorem dX5_turn_15 : decode cX5_turn 15 = .ok (.iload_n 2, 1) := by decide +kernel
theorem dX5_turn_16 : decode cX5_turn 16 = .ok (.if_icmp .eq 10, 3) := by decide +kernel
theorem dX5_turn_19 : decode cX5_turn 19 = .ok (.lload_n 3, 1) := by decide +kernel
theorem dX5_turn_20 : decode cX5_turn 20 = .ok (.invokestatic 93, 3) := by decide +kernel
theorem dX5_turn_23 : decode cX5_turn 23 = .ok (.ifCond .ne 5, 3) := by decide +kernel
theorem dX5_turn_26 : decode cX5_turn 26 = .ok (.iconst 0, 1) := by decide +kernel
theorem dX5_turn_27 : decode cX5_turn 27 = .ok (.ireturn, 1) := by decide +kernel
theorem dX5_turn_28 : decode cX5_turn 28 = .ok (.aload_n 0, 1) := by decide +kernel
theorem dX5_turn_29 : decode cX5_turn 29 = .ok (.getfield 33, 3) := by decide +kernel
theorem dX5_turn_32 : decode cX5_turn 32 = .ok (.bipush 6, 2) := by decide +kernel
theorem dX5_turn_34 : decode cX5_turn 34 = .ok (.iload_n 1, 1) := by decide +kernel
theorem dX5_turn_35 : decode cX5_turn 35 = .ok (.imul, 1) := by decide +kernel
theorem dX5_turn_36 : decode cX5_turn 36 = .ok (.iload_n 2, 1) := by decide +kernel
theorem dX5_turn_37 : decode cX5_turn 37 = .ok (.iadd, 1) := by decide +kernel
theorem dX5_turn_38 : decode cX5_turn 38 = .ok (.lload_n 3, 1) := by decide +kernel
theorem dX5_turn_39 : decode cX5_turn 39 = .ok (.lastore, 1) := by decide +kernel
theorem dX5_turn_40 : decode cX5_turn 40 = .ok (.aload_n 0, 1) := by decide +kernel
theorem dX5_turn_41 : decode cX5_turn 41 = .ok (.iconst 0, 1) := by decide +kernel
theorem dX5_turn_42 : decode cX5_turn 42 = .ok (.putfield 97, 3) := by decide +kernel
theorem dX5_turn_45 : decode cX5_turn 45 = .ok (.iconst 1, 1) := by decide +kernel
theorem dX5_turn_46 : decode cX5_turn 46 = .ok (.ireturn, 1) := by decide +kernel
theorem dX5_worth_0 : decode cX5_worth 0 = .ok (.iload_n 1, 1) := by decide +kernel
theorem dX5_worth_1 : decode cX5_worth 1 = .ok (.invokestatic 108, 3) := by decide +kernel
theorem dX5_worth_4 : decode cX5_worth 4 = .ok (.ifCond .eq 10, 3) := by decide +kernel
theorem dX5_worth_7 : decode cX5_worth 7 = .ok (.lload_n 2, 1) := by decide +kernel
theorem dX5_worth_8 : decode cX5_worth 8 = .ok (.invokestatic 111, 3) := by decide +kernel
theorem dX5_worth_11 : decode cX5_worth 11 = .ok (.ifCond .ne 5, 3) := by decide +kernel
theorem dX5_worth_14 : decode cX5_worth 14 = .ok (.iconst 0, 1) := by decide +kernel
theorem dX5_worth_15 : decode cX5_worth 15 = .ok (.ireturn, 1) := by decide +kernel
theorem dX5_worth_16 : decode cX5_worth 16 = .ok (.aload_n 0, 1) := by decide +kernel
theorem dX5_worth_17 : decode cX5_worth 17 = .ok (.getfield 36, 3) := by decide +kernel
theorem dX5_worth_20 : decode cX5_worth 20 = .ok (.iload_n 1, 1) := by decide +kernel
theorem dX5_worth_21 : decode cX5_worth 21 = .ok (.lload_n 2, 1) := by decide +kernel
theorem dX5_worth_22 : decode cX5_worth 22 = .ok (.lastore, 1) := by decide +kernel
theorem dX5_worth_23 : decode cX5_worth 23 = .ok (.aload_n 0, 1) := by decide +kernel
theorem dX5_worth_24 : decode cX5_worth 24 = .ok (.iconst 0, 1) := by decide +kernel
theorem dX5_worth_25 : decode cX5_worth 25 = .ok (.putfield 97, 3) := by decide +kernel
theorem dX5_worth_28 : decode cX5_worth 28 = .ok (.iconst 1, 1) := by decide +kernel
theorem dX5_worth_29 : decode cX5_worth 29 = .ok (.ireturn, 1) := by decide +kernel
theorem dX5_isPart_0 : decode cX5_isPart 0 = .ok (.iload_n 0, 1) := by decide +kernel
theorem dX5_isPart_1 : decode cX5_isPart 1 = .ok (.ifCond .lt 13, 3) := by decide +kernel
theorem dX5_isPart_4 : decode cX5_isPart 4 = .ok (.iload_n 0, 1) := by decide +kernel
theorem dX5_isPart_5 : decode cX5_isPart 5 = .ok (.bipush 12, 2) := by decide +kernel
theorem dX5_isPart_7 : decode cX5_isPart 7 = .ok (.if_icmp .ge 7, 3) := by decide +kernel
theorem dX5_isPart_10 : decode cX5_isPart 10 = .ok (.iconst 1, 1) := by decide +kernel
theorem dX5_isPart_11 : decode cX5_isPart 11 = .ok (.goto 4, 3) := by decide +kernel
theorem dX5_isPart_14 : decode cX5_isPart 14 = .ok (.iconst 0, 1) := by decide +kernel
theorem dX5_isPart_15 : decode cX5_isPart 15 = .ok (.ireturn, 1) := by decide +kernel
theorem dX5_isWorth_0 : decode cX5_isWorth 0 = .ok (.lload_n 0, 1) := by decide +kernel
theorem dX5_isWorth_1 : decode cX5_isWorth 1 = .ok (.ldc2_w 84, 3) := by decide +kernel
theorem dX5_isWorth_4 : decode cX5_isWorth 4 = .ok (.lcmp, 1) := by decide +kernel
theorem dX5_isWorth_5 : decode cX5_isWorth 5 = .ok (.ifCond .lt 15, 3) := by decide +kernel
theorem dX5_isWorth_8 : decode cX5_isWorth 8 = .ok (.lload_n 0, 1) := by decide +kernel
theorem dX5_isWorth_9 : decode cX5_isWorth 9 = .ok (.ldc2_w 82, 3) := by decide +kernel
theorem dX5_isWorth_12 : decode cX5_isWorth 12 = .ok (.lcmp, 1) := by decide +kernel
theorem dX5_isWorth_13 : decode cX5_isWorth 13 = .ok (.ifCond .gt 7, 3) := by decide +kernel
theorem dX5_isWorth_16 : decode cX5_isWorth 16 = .ok (.iconst 1, 1) := by decide +kernel
theorem dX5_isWorth_17 : decode cX5_isWorth 17 = .ok (.goto 4, 3) := by decide +kernel
theorem dX5_isWorth_20 : decode cX5_isWorth 20 = .ok (.iconst 0, 1) := by decide +kernel
theorem dX5_isWorth_21 : decode cX5_isWorth 21 = .ok (.ireturn, 1) := by decide +kernel
theorem dX5_rest_0 : decode cX5_rest 0 = .ok (.lload_n 1, 1) := by decide +kernel
theorem dX5_rest_1 : decode cX5_rest 1 = .ok (.lconst 0, 1) := by decide +kernel
theorem dX5_rest_2 : decode cX5_rest 2 = .ok (.lcmp, 1) := by decide +kernel
theorem dX5_rest_3 : decode cX5_rest 3 = .ok (.ifCond .lt 18, 3) := by decide +kernel
theorem dX5_rest_6 : decode cX5_rest 6 = .ok (.lload_n 1, 1) := by decide +kernel
theorem dX5_rest_7 : decode cX5_rest 7 = .ok (.ldc2_w 114, 3) := by decide +kernel
theorem dX5_rest_10 : decode cX5_rest 10 = .ok (.lcmp, 1) := by decide +kernel
theorem dX5_rest_11 : decode cX5_rest 11 = .ok (.ifCond .gt 10, 3) := by decide +kernel
theorem dX5_rest_14 : decode cX5_rest 14 = .ok (.lload_n 3, 1) := by decide +kernel
theorem dX5_rest_15 : decode cX5_rest 15 = .ok (.invokestatic 111, 3) := by decide +kernel
theorem dX5_rest_18 : decode cX5_rest 18 = .ok (.ifCond .ne 5, 3) := by decide +kernel
theorem dX5_rest_21 : decode cX5_rest 21 = .ok (.iconst 0, 1) := by decide +kernel
theorem dX5_rest_22 : decode cX5_rest 22 = .ok (.ireturn, 1) := by decide +kernel
theorem dX5_rest_23 : decode cX5_rest 23 = .ok (.iconst 0, 1) := by decide +kernel
theorem dX5_rest_24 : decode cX5_rest 24 = .ok (.istore 5, 2) := by decide +kernel
theorem dX5_rest_26 : decode cX5_rest 26 = .ok (.iload 5, 2) := by decide +kernel
theorem dX5_rest_28 : decode cX5_rest 28 = .ok (.aload_n 0, 1) := by decide +kernel
theorem dX5_rest_29 : decode cX5_rest 29 = .ok (.getfield 116, 3) := by decide +kernel
theorem dX5_rest_32 : decode cX5_rest 32 = .ok (.if_icmp .ge 22, 3) := by decide +kernel
theorem dX5_rest_35 : decode cX5_rest 35 = .ok (.aload_n 0, 1) := by decide +kernel
theorem dX5_rest_36 : decode cX5_rest 36 = .ok (.getfield 45, 3) := by decide +kernel
theorem dX5_rest_39 : decode cX5_rest 39 = .ok (.iload 5, 2) := by decide +kernel
theorem dX5_rest_41 : decode cX5_rest 41 = .ok (.iaload, 1) := by decide +kernel
theorem dX5_rest_42 : decode cX5_rest 42 = .ok (.i2l, 1) := by decide +kernel
theorem dX5_rest_43 : decode cX5_rest 43 = .ok (.lload_n 1, 1) := by decide +kernel
theorem dX5_rest_44 : decode cX5_rest 44 = .ok (.lcmp, 1) := by decide +kernel
theorem dX5_rest_45 : decode cX5_rest 45 = .ok (.ifCond .eq 9, 3) := by decide +kernel
theorem dX5_rest_48 : decode cX5_rest 48 = .ok (.iinc 5 1, 3) := by decide +kernel
theorem dX5_rest_51 : decode cX5_rest 51 = .ok (.goto (-25), 3) := by decide +kernel
theorem dX5_rest_54 : decode cX5_rest 54 = .ok (.iload 5, 2) := by decide +kernel
theorem dX5_rest_56 : decode cX5_rest 56 = .ok (.bipush 16, 2) := by decide +kernel
theorem dX5_rest_58 : decode cX5_rest 58 = .ok (.if_icmp .ne 5, 3) := by decide +kernel
theorem dX5_rest_61 : decode cX5_rest 61 = .ok (.iconst 0, 1) := by decide +kernel
theorem dX5_rest_62 : decode cX5_rest 62 = .ok (.ireturn, 1) := by decide +kernel
theorem dX5_rest_63 : decode cX5_rest 63 = .ok (.aload_n 0, 1) := by decide +kernel
theorem dX5_rest_64 : decode cX5_rest 64 = .ok (.getfield 45, 3) := by decide +kernel
theorem dX5_rest_67 : decode cX5_rest 67 = .ok (.iload 5, 2) := by decide +kernel
theorem dX5_rest_69 : decode cX5_rest 69 = .ok (.lload_n 1, 1) := by decide +kernel
theorem dX5_rest_70 : decode cX5_rest 70 = .ok (.l2i, 1) := by decide +kernel
theorem dX5_rest_71 : decode cX5_rest 71 = .ok (.iastore, 1) := by decide +kernel
theorem dX5_rest_72 : decode cX5_rest 72 = .ok (.aload_n 0, 1) := by decide +kernel
theorem dX5_rest_73 : decode cX5_rest 73 = .ok (.getfield 48, 3) := by decide +kernel
theorem dX5_rest_76 : decode cX5_rest 76 = .ok (.iload 5, 2) := by decide +kernel
theorem dX5_rest_78 : decode cX5_rest 78 = .ok (.lload_n 3, 1) := by decide +kernel
theorem dX5_rest_79 : decode cX5_rest 79 = .ok (.lastore, 1) := by decide +kernel
theorem dX5_rest_80 : decode cX5_rest 80 = .ok (.aload_n 0, 1) := by decide +kernel
theorem dX5_rest_81 : decode cX5_rest 81 = .ok (.iload 5, 2) := by decide +kernel
theorem dX5_rest_83 : decode cX5_rest 83 = .ok (.aload_n 0, 1) := by decide +kernel
theorem dX5_rest_84 : decode cX5_rest 84 = .ok (.getfield 116, 3) := by decide +kernel
theorem dX5_rest_87 : decode cX5_rest 87 = .ok (.if_icmp .ne 12, 3) := by decide +kernel
theorem dX5_rest_90 : decode cX5_rest 90 = .ok (.aload_n 0, 1) := by decide +kernel
theorem dX5_rest_91 : decode cX5_rest 91 = .ok (.getfield 116, 3) := by decide +kernel
theorem dX5_rest_94 : decode cX5_rest 94 = .ok (.iconst 1, 1) := by decide +kernel
theorem dX5_rest_95 : decode cX5_rest 95 = .ok (.iadd, 1) := by decide +kernel
theorem dX5_rest_96 : decode cX5_rest 96 = .ok (.goto 7, 3) := by decide +kernel
theorem dX5_rest_99 : decode cX5_rest 99 = .ok (.aload_n 0, 1) := by decide +kernel
theorem dX5_rest_100 : decode cX5_rest 100 = .ok (.getfield 116, 3) := by decide +kernel
theorem dX5_rest_103 : decode cX5_rest 103 = .ok (.putfield 116, 3) := by decide +kernel
theorem dX5_rest_106 : decode cX5_rest 106 = .ok (.aload_n 0, 1) := by decide +kernel
theorem dX5_rest_107 : decode cX5_rest 107 = .ok (.iconst 0, 1) := by decide +kernel
theorem dX5_rest_108 : decode cX5_rest 108 = .ok (.putfield 97, 3) := by decide +kernel
theorem dX5_rest_111 : decode cX5_rest 111 = .ok (.iconst 1, 1) := by decide +kernel
theorem dX5_rest_112 : decode cX5_rest 112 = .ok (.ireturn, 1) := by decide +kernel
theorem dX5_breaks_0 : decode cX5_breaks 0 = .ok (.aload_n 0, 1) := by decide +kernel
theorem dX5_breaks_1 : decode cX5_breaks 1 = .ok (.iload_n 1, 1) := by decide +kernel
theorem dX5_breaks_2 : decode cX5_breaks 2 = .ok (.invokevirtual 101, 3) := by decide +kernel
theorem dX5_breaks_5 : decode cX5_breaks 5 = .ok (.ifCond .eq 12, 3) := by decide +kernel
theorem dX5_breaks_8 : decode cX5_breaks 8 = .ok (.aload_n 0, 1) := by decide +kernel
theorem dX5_breaks_9 : decode cX5_breaks 9 = .ok (.getfield 23, 3) := by decide +kernel
theorem dX5_breaks_12 : decode cX5_breaks 12 = .ok (.iload_n 1, 1) := by decide +kernel
theorem dX5_breaks_13 : decode cX5_breaks 13 = .ok (.baload, 1) := by decide +kernel
theorem dX5_breaks_14 : decode cX5_breaks 14 = .ok (.ifCond .eq 5, 3) := by decide +kernel
theorem dX5_breaks_17 : decode cX5_breaks 17 = .ok (.iconst 0, 1) := by decide +kernel
theorem dX5_breaks_18 : decode cX5_breaks 18 = .ok (.ireturn, 1) := by decide +kernel
theorem dX5_breaks_19 : decode cX5_breaks 19 = .ok (.aload_n 0, 1) := by decide +kernel
theorem dX5_breaks_20 : decode cX5_breaks 20 = .ok (.getfield 23, 3) := by decide +kernel
theorem dX5_breaks_23 : decode cX5_breaks 23 = .ok (.iload_n 1, 1) := by decide +kernel
theorem dX5_breaks_24 : decode cX5_breaks 24 = .ok (.iconst 1, 1) := by decide +kernel
theorem dX5_breaks_25 : decode cX5_breaks 25 = .ok (.bastore, 1) := by decide +kernel
theorem dX5_breaks_26 : decode cX5_breaks 26 = .ok (.aload_n 0, 1) := by decide +kernel
theorem dX5_breaks_27 : decode cX5_breaks 27 = .ok (.iconst 0, 1) := by decide +kernel
theorem dX5_breaks_28 : decode cX5_breaks 28 = .ok (.putfield 97, 3) := by decide +kernel
theorem dX5_breaks_31 : decode cX5_breaks 31 = .ok (.iconst 1, 1) := by decide +kernel
theorem dX5_breaks_32 : decode cX5_breaks 32 = .ok (.ireturn, 1) := by decide +kernel
theorem dX5_sure_0 : decode cX5_sure 0 = .ok (.iload_n 1, 1) := by decide +kernel
theorem dX5_sure_1 : decode cX5_sure 1 = .ok (.invokestatic 108, 3) := by decide +kernel
theorem dX5_sure_4 : decode cX5_sure 4 = .ok (.ifCond .eq 32, 3) := by decide +kernel
theorem dX5_sure_7 : decode cX5_sure 7 = .ok (.lload 4, 2) := by decide +kernel
theorem dX5_sure_9 : decode cX5_sure 9 = .ok (.lconst 1, 1) := by decide +kernel
theorem dX5_sure_10 : decode cX5_sure 10 = .ok (.lcmp, 1) := by decide +kernel
theorem dX5_sure_11 : decode cX5_sure 11 = .ok (.ifCond .lt 25, 3) := by decide +kernel
theorem dX5_sure_14 : decode cX5_sure 14 = .ok (.lload 4, 2) := by decide +kernel
theorem dX5_sure_16 : decode cX5_sure 16 = .ok (.ldc2_w 119, 3) := by decide +kernel
theorem dX5_sure_19 : decode cX5_sure 19 = .ok (.lcmp, 1) := by decide +kernel
theorem dX5_sure_20 : decode cX5_sure 20 = .ok (.ifCond .gt 16, 3) := by decide +kernel
theorem dX5_sure_23 : decode cX5_sure 23 = .ok (.lload_n 2, 1) := by decide +kernel
theorem dX5_sure_24 : decode cX5_sure 24 = .ok (.lconst 0, 1) := by decide +kernel
theorem dX5_sure_25 : decode cX5_sure 25 = .ok (.lcmp, 1) := by decide +kernel
theorem dX5_sure_26 : decode cX5_sure 26 = .ok (.ifCond .lt 10, 3) := by decide +kernel
theorem dX5_sure_29 : decode cX5_sure 29 = .ok (.lload_n 2, 1) := by decide +kernel
theorem dX5_sure_30 : decode cX5_sure 30 = .ok (.lload 4, 2) := by decide +kernel
theorem dX5_sure_32 : decode cX5_sure 32 = .ok (.lcmp, 1) := by decide +kernel
theorem dX5_sure_33 : decode cX5_sure 33 = .ok (.ifCond .le 5, 3) := by decide +kernel
theorem dX5_sure_36 : decode cX5_sure 36 = .ok (.iconst 0, 1) := by decide +kernel
theorem dX5_sure_37 : decode cX5_sure 37 = .ok (.ireturn, 1) := by decide +kernel
theorem dX5_sure_38 : decode cX5_sure 38 = .ok (.aload_n 0, 1) := by decide +kernel
theorem dX5_sure_39 : decode cX5_sure 39 = .ok (.getfield 39, 3) := by decide +kernel
theorem dX5_sure_42 : decode cX5_sure 42 = .ok (.iload_n 1, 1) := by decide +kernel
theorem dX5_sure_43 : decode cX5_sure 43 = .ok (.lload_n 2, 1) := by decide +kernel
theorem dX5_sure_44 : decode cX5_sure 44 = .ok (.l2i, 1) := by decide +kernel
theorem dX5_sure_45 : decode cX5_sure 45 = .ok (.iastore, 1) := by decide +kernel
theorem dX5_sure_46 : decode cX5_sure 46 = .ok (.aload_n 0, 1) := by decide +kernel
theorem dX5_sure_47 : decode cX5_sure 47 = .ok (.getfield 42, 3) := by decide +kernel
theorem dX5_sure_50 : decode cX5_sure 50 = .ok (.iload_n 1, 1) := by decide +kernel
theorem dX5_sure_51 : decode cX5_sure 51 = .ok (.lload 4, 2) := by decide +kernel
theorem dX5_sure_53 : decode cX5_sure 53 = .ok (.l2i, 1) := by decide +kernel
theorem dX5_sure_54 : decode cX5_sure 54 = .ok (.iastore, 1) := by decide +kernel
theorem dX5_sure_55 : decode cX5_sure 55 = .ok (.aload_n 0, 1) := by decide +kernel
theorem dX5_sure_56 : decode cX5_sure 56 = .ok (.iconst 0, 1) := by decide +kernel
theorem dX5_sure_57 : decode cX5_sure 57 = .ok (.putfield 97, 3) := by decide +kernel
theorem dX5_sure_60 : decode cX5_sure 60 = .ok (.iconst 1, 1) := by decide +kernel
theorem dX5_sure_61 : decode cX5_sure 61 = .ok (.ireturn, 1) := by decide +kernel
theorem dX5_states_0 : decode cX5_states 0 = .ok (.lconst 1, 1) := by decide +kernel
theorem dX5_states_1 : decode cX5_states 1 = .ok (.lstore_n 1, 1) := by decide +kernel
theorem dX5_states_2 : decode cX5_states 2 = .ok (.iconst 1, 1) := by decide +kernel
theorem dX5_states_3 : decode cX5_states 3 = .ok (.istore_n 3, 1) := by decide +kernel
theorem dX5_states_4 : decode cX5_states 4 = .ok (.iload_n 3, 1) := by decide +kernel
theorem dX5_states_5 : decode cX5_states 5 = .ok (.iconst 1, 1) := by decide +kernel
theorem dX5_states_6 : decode cX5_states 6 = .ok (.aload_n 0, 1) := by decide +kernel
theorem dX5_states_7 : decode cX5_states 7 = .ok (.getfield 86, 3) := by decide +kernel
theorem dX5_states_10 : decode cX5_states 10 = .ok (.ishl, 1) := by decide +kernel
theorem dX5_states_11 : decode cX5_states 11 = .ok (.if_icmp .ge 111, 3) := by decide +kernel
theorem dX5_states_14 : decode cX5_states 14 = .ok (.iconst 0, 1) := by decide +kernel
theorem dX5_states_15 : decode cX5_states 15 = .ok (.istore 4, 2) := by decide +kernel
theorem dX5_states_17 : decode cX5_states 17 = .ok (.iload 4, 2) := by decide +kernel
theorem dX5_states_19 : decode cX5_states 19 = .ok (.aload_n 0, 1) := by decide +kernel
theorem dX5_states_20 : decode cX5_states 20 = .ok (.getfield 86, 3) := by decide +kernel
theorem dX5_states_23 : decode cX5_states 23 = .ok (.if_icmp .ge 93, 3) := by decide +kernel
theorem dX5_states_26 : decode cX5_states 26 = .ok (.aload_n 0, 1) := by decide +kernel
theorem dX5_states_27 : decode cX5_states 27 = .ok (.iload_n 3, 1) := by decide +kernel
theorem dX5_states_28 : decode cX5_states 28 = .ok (.invokevirtual 124, 3) := by decide +kernel
theorem dX5_states_31 : decode cX5_states 31 = .ok (.ifCond .eq 85, 3) := by decide +kernel
theorem dX5_states_34 : decode cX5_states 34 = .ok (.iload_n 3, 1) := by decide +kernel
theorem dX5_states_35 : decode cX5_states 35 = .ok (.iload 4, 2) := by decide +kernel
theorem dX5_states_37 : decode cX5_states 37 = .ok (.invokestatic 121, 3) := by decide +kernel
theorem dX5_states_40 : decode cX5_states 40 = .ok (.istore 5, 2) := by decide +kernel
theorem dX5_states_42 : decode cX5_states 42 = .ok (.iconst 0, 1) := by decide +kernel
theorem dX5_states_43 : decode cX5_states 43 = .ok (.istore 6, 2) := by decide +kernel
theorem dX5_states_45 : decode cX5_states 45 = .ok (.iload 6, 2) := by decide +kernel
theorem dX5_states_47 : decode cX5_states 47 = .ok (.aload_n 0, 1) := by decide +kernel
theorem dX5_states_48 : decode cX5_states 48 = .ok (.getfield 86, 3) := by decide +kernel
theorem dX5_states_51 : decode cX5_states 51 = .ok (.if_icmp .ge 46, 3) := by decide +kernel
theorem dX5_states_54 : decode cX5_states 54 = .ok (.iload 5, 2) := by decide +kernel
theorem dX5_states_56 : decode cX5_states 56 = .ok (.ifCond .eq 32, 3) := by decide +kernel
theorem dX5_states_59 : decode cX5_states 59 = .ok (.iload_n 3, 1) := by decide +kernel
theorem dX5_states_60 : decode cX5_states 60 = .ok (.iload 6, 2) := by decide +kernel
theorem dX5_states_62 : decode cX5_states 62 = .ok (.invokestatic 121, 3) := by decide +kernel
theorem dX5_states_65 : decode cX5_states 65 = .ok (.ifCond .eq 19, 3) := by decide +kernel
theorem dX5_states_68 : decode cX5_states 68 = .ok (.aload_n 0, 1) := by decide +kernel
theorem dX5_states_69 : decode cX5_states 69 = .ok (.getfield 27, 3) := by decide +kernel
theorem dX5_states_72 : decode cX5_states 72 = .ok (.bipush 10, 2) := by decide +kernel
theorem dX5_states_74 : decode cX5_states 74 = .ok (.iload 6, 2) := by decide +kernel
theorem dX5_states_76 : decode cX5_states 76 = .ok (.imul, 1) := by decide +kernel
theorem dX5_states_77 : decode cX5_states 77 = .ok (.iload 4, 2) := by decide +kernel
theorem dX5_states_79 : decode cX5_states 79 = .ok (.iadd, 1) := by decide +kernel
theorem dX5_states_80 : decode cX5_states 80 = .ok (.baload, 1) := by decide +kernel
theorem dX5_states_81 : decode cX5_states 81 = .ok (.ifCond .ne 7, 3) := by decide +kernel
theorem dX5_states_84 : decode cX5_states 84 = .ok (.iconst 1, 1) := by decide +kernel
theorem dX5_states_85 : decode cX5_states 85 = .ok (.goto 4, 3) := by decide +kernel
theorem dX5_states_88 : decode cX5_states 88 = .ok (.iconst 0, 1) := by decide +kernel
theorem dX5_states_89 : decode cX5_states 89 = .ok (.istore 5, 2) := by decide +kernel
theorem dX5_states_91 : decode cX5_states 91 = .ok (.iinc 6 1, 3) := by decide +kernel
theorem dX5_states_94 : decode cX5_states 94 = .ok (.goto (-49), 3) := by decide +kernel
theorem dX5_states_97 : decode cX5_states 97 = .ok (.iload 5, 2) := by decide +kernel
theorem dX5_states_99 : decode cX5_states 99 = .ok (.ifCond .eq 9, 3) := by decide +kernel
theorem dX5_states_102 : decode cX5_states 102 = .ok (.lload_n 1, 1) := by decide +kernel
theorem dX5_states_103 : decode cX5_states 103 = .ok (.lconst 1, 1) := by decide +kernel
theorem dX5_states_104 : decode cX5_states 104 = .ok (.ladd, 1) := by decide +kernel
theorem dX5_states_105 : decode cX5_states 105 = .ok (.goto 4, 3) := by decide +kernel
theorem dX5_states_108 : decode cX5_states 108 = .ok (.lload_n 1, 1) := by decide +kernel
theorem dX5_states_109 : decode cX5_states 109 = .ok (.lstore_n 1, 1) := by decide +kernel
theorem dX5_states_110 : decode cX5_states 110 = .ok (.iinc 4 1, 3) := by decide +kernel
theorem dX5_states_113 : decode cX5_states 113 = .ok (.goto (-96), 3) := by decide +kernel
theorem dX5_states_116 : decode cX5_states 116 = .ok (.iinc 3 1, 3) := by decide +kernel
theorem dX5_states_119 : decode cX5_states 119 = .ok (.goto (-115), 3) := by decide +kernel
theorem dX5_states_122 : decode cX5_states 122 = .ok (.lload_n 1, 1) := by decide +kernel
theorem dX5_states_123 : decode cX5_states 123 = .ok (.lreturn, 1) := by decide +kernel
theorem dX5_isClosed_0 : decode cX5_isClosed 0 = .ok (.iconst 1, 1) := by decide +kernel
theorem dX5_isClosed_1 : decode cX5_isClosed 1 = .ok (.istore_n 2, 1) := by decide +kernel
theorem dX5_isClosed_2 : decode cX5_isClosed 2 = .ok (.iconst 0, 1) := by decide +kernel
theorem dX5_isClosed_3 : decode cX5_isClosed 3 = .ok (.istore_n 3, 1) := by decide +kernel
theorem dX5_isClosed_4 : decode cX5_isClosed 4 = .ok (.iload_n 3, 1) := by decide +kernel
theorem dX5_isClosed_5 : decode cX5_isClosed 5 = .ok (.aload_n 0, 1) := by decide +kernel
theorem dX5_isClosed_6 : decode cX5_isClosed 6 = .ok (.getfield 86, 3) := by decide +kernel
theorem dX5_isClosed_9 : decode cX5_isClosed 9 = .ok (.if_icmp .ge 69, 3) := by decide +kernel
theorem dX5_isClosed_12 : decode cX5_isClosed 12 = .ok (.iconst 0, 1) := by decide +kernel
theorem dX5_isClosed_13 : decode cX5_isClosed 13 = .ok (.istore 4, 2) := by decide +kernel
theorem dX5_isClosed_15 : decode cX5_isClosed 15 = .ok (.iload 4, 2) := by decide +kernel
theorem dX5_isClosed_17 : decode cX5_isClosed 17 = .ok (.aload_n 0, 1) := by decide +kernel
theorem dX5_isClosed_18 : decode cX5_isClosed 18 = .ok (.getfield 86, 3) := by decide +kernel
theorem dX5_isClosed_21 : decode cX5_isClosed 21 = .ok (.if_icmp .ge 51, 3) := by decide +kernel
theorem dX5_isClosed_24 : decode cX5_isClosed 24 = .ok (.iload_n 2, 1) := by decide +kernel
theorem dX5_isClosed_25 : decode cX5_isClosed 25 = .ok (.ifCond .eq 39, 3) := by decide +kernel
theorem dX5_isClosed_28 : decode cX5_isClosed 28 = .ok (.iload_n 1, 1) := by decide +kernel
theorem dX5_isClosed_29 : decode cX5_isClosed 29 = .ok (.iload_n 3, 1) := by decide +kernel
theorem dX5_isClosed_30 : decode cX5_isClosed 30 = .ok (.invokestatic 121, 3) := by decide +kernel
theorem dX5_isClosed_33 : decode cX5_isClosed 33 = .ok (.ifCond .eq 27, 3) := by decide +kernel
theorem dX5_isClosed_36 : decode cX5_isClosed 36 = .ok (.aload_n 0, 1) := by decide +kernel
theorem dX5_isClosed_37 : decode cX5_isClosed 37 = .ok (.getfield 27, 3) := by decide +kernel
theorem dX5_isClosed_40 : decode cX5_isClosed 40 = .ok (.bipush 10, 2) := by decide +kernel
theorem dX5_isClosed_42 : decode cX5_isClosed 42 = .ok (.iload_n 3, 1) := by decide +kernel
theorem dX5_isClosed_43 : decode cX5_isClosed 43 = .ok (.imul, 1) := by decide +kernel
theorem dX5_isClosed_44 : decode cX5_isClosed 44 = .ok (.iload 4, 2) := by decide +kernel
theorem dX5_isClosed_46 : decode cX5_isClosed 46 = .ok (.iadd, 1) := by decide +kernel
theorem dX5_isClosed_47 : decode cX5_isClosed 47 = .ok (.baload, 1) := by decide +kernel
theorem dX5_isClosed_48 : decode cX5_isClosed 48 = .ok (.ifCond .eq 12, 3) := by decide +kernel
theorem dX5_isClosed_51 : decode cX5_isClosed 51 = .ok (.iload_n 1, 1) := by decide +kernel
theorem dX5_isClosed_52 : decode cX5_isClosed 52 = .ok (.iload 4, 2) := by decide +kernel
theorem dX5_isClosed_54 : decode cX5_isClosed 54 = .ok (.invokestatic 121, 3) := by decide +kernel
theorem dX5_isClosed_57 : decode cX5_isClosed 57 = .ok (.ifCond .eq 7, 3) := by decide +kernel
theorem dX5_isClosed_60 : decode cX5_isClosed 60 = .ok (.iconst 1, 1) := by decide +kernel
theorem dX5_isClosed_61 : decode cX5_isClosed 61 = .ok (.goto 4, 3) := by decide +kernel
theorem dX5_isClosed_64 : decode cX5_isClosed 64 = .ok (.iconst 0, 1) := by decide +kernel
theorem dX5_isClosed_65 : decode cX5_isClosed 65 = .ok (.istore_n 2, 1) := by decide +kernel
theorem dX5_isClosed_66 : decode cX5_isClosed 66 = .ok (.iinc 4 1, 3) := by decide +kernel
theorem dX5_isClosed_69 : decode cX5_isClosed 69 = .ok (.goto (-54), 3) := by decide +kernel
theorem dX5_isClosed_72 : decode cX5_isClosed 72 = .ok (.iinc 3 1, 3) := by decide +kernel
theorem dX5_isClosed_75 : decode cX5_isClosed 75 = .ok (.goto (-71), 3) := by decide +kernel
theorem dX5_isClosed_78 : decode cX5_isClosed 78 = .ok (.iload_n 2, 1) := by decide +kernel
theorem dX5_isClosed_79 : decode cX5_isClosed 79 = .ok (.ireturn, 1) := by decide +kernel
theorem dX5_has_0 : decode cX5_has 0 = .ok (.iload_n 0, 1) := by decide +kernel
theorem dX5_has_1 : decode cX5_has 1 = .ok (.iload_n 1, 1) := by decide +kernel
theorem dX5_has_2 : decode cX5_has 2 = .ok (.ishr, 1) := by decide +kernel
theorem dX5_has_3 : decode cX5_has 3 = .ok (.iconst 1, 1) := by decide +kernel
theorem dX5_has_4 : decode cX5_has 4 = .ok (.iand, 1) := by decide +kernel
theorem dX5_has_5 : decode cX5_has 5 = .ok (.iconst 1, 1) := by decide +kernel
theorem dX5_has_6 : decode cX5_has 6 = .ok (.if_icmp .ne 7, 3) := by decide +kernel
theorem dX5_has_9 : decode cX5_has 9 = .ok (.iconst 1, 1) := by decide +kernel
theorem dX5_has_10 : decode cX5_has 10 = .ok (.goto 4, 3) := by decide +kernel
theorem dX5_has_13 : decode cX5_has 13 = .ok (.iconst 0, 1) := by decide +kernel
theorem dX5_has_14 : decode cX5_has 14 = .ok (.ireturn, 1) := by decide +kernel
theorem dX5_run_0 : decode cX5_run 0 = .ok (.aload_n 0, 1) := by decide +kernel
theorem dX5_run_1 : decode cX5_run 1 = .ok (.invokevirtual 156, 3) := by decide +kernel
theorem dX5_run_4 : decode cX5_run 4 = .ok (.lload_n 1, 1) := by decide +kernel
theorem dX5_run_5 : decode cX5_run 5 = .ok (.lcmp, 1) := by decide +kernel
theorem dX5_run_6 : decode cX5_run 6 = .ok (.ifCond .le 5, 3) := by decide +kernel
theorem dX5_run_9 : decode cX5_run 9 = .ok (.iconst (-1), 1) := by decide +kernel
theorem dX5_run_10 : decode cX5_run 10 = .ok (.ireturn, 1) := by decide +kernel
theorem dX5_run_11 : decode cX5_run 11 = .ok (.aload_n 0, 1) := by decide +kernel
theorem dX5_run_12 : decode cX5_run 12 = .ok (.invokevirtual 160, 3) := by decide +kernel
theorem dX5_run_15 : decode cX5_run 15 = .ok (.aload_n 0, 1) := by decide +kernel
theorem dX5_run_16 : decode cX5_run 16 = .ok (.aload_n 0, 1) := by decide +kernel
theorem dX5_run_17 : decode cX5_run 17 = .ok (.iconst 0, 1) := by decide +kernel
theorem dX5_run_18 : decode cX5_run 18 = .ok (.iconst (-1), 1) := by decide +kernel
theorem dX5_run_19 : decode cX5_run 19 = .ok (.lconst 0, 1) := by decide +kernel
theorem dX5_run_20 : decode cX5_run 20 = .ok (.invokevirtual 163, 3) := by decide +kernel
theorem dX5_run_23 : decode cX5_run 23 = .ok (.putfield 167, 3) := by decide +kernel
theorem dX5_run_26 : decode cX5_run 26 = .ok (.aload_n 0, 1) := by decide +kernel
theorem dX5_run_27 : decode cX5_run 27 = .ok (.iconst 0, 1) := by decide +kernel
theorem dX5_run_28 : decode cX5_run 28 = .ok (.putfield 54, 3) := by decide +kernel
theorem dX5_run_31 : decode cX5_run 31 = .ok (.iconst 0, 1) := by decide +kernel
theorem dX5_run_32 : decode cX5_run 32 = .ok (.istore_n 3, 1) := by decide +kernel
theorem dX5_run_33 : decode cX5_run 33 = .ok (.iconst (-1), 1) := by decide +kernel
theorem dX5_run_34 : decode cX5_run 34 = .ok (.istore 4, 2) := by decide +kernel
theorem dX5_run_36 : decode cX5_run 36 = .ok (.lconst 0, 1) := by decide +kernel
theorem dX5_run_37 : decode cX5_run 37 = .ok (.lstore 5, 2) := by decide +kernel
theorem dX5_run_39 : decode cX5_run 39 = .ok (.aload_n 0, 1) := by decide +kernel
theorem dX5_run_40 : decode cX5_run 40 = .ok (.getfield 73, 3) := by decide +kernel
theorem dX5_run_43 : decode cX5_run 43 = .ok (.iload_n 3, 1) := by decide +kernel
theorem dX5_run_44 : decode cX5_run 44 = .ok (.laload, 1) := by decide +kernel
theorem dX5_run_45 : decode cX5_run 45 = .ok (.lload 5, 2) := by decide +kernel
theorem dX5_run_47 : decode cX5_run 47 = .ok (.lsub, 1) := by decide +kernel
theorem dX5_run_48 : decode cX5_run 48 = .ok (.aload_n 0, 1) := by decide +kernel
theorem dX5_run_49 : decode cX5_run 49 = .ok (.getfield 167, 3) := by decide +kernel
theorem dX5_run_52 : decode cX5_run 52 = .ok (.lcmp, 1) := by decide +kernel
theorem dX5_run_53 : decode cX5_run 53 = .ok (.ifCond .eq 101, 3) := by decide +kernel
theorem dX5_run_56 : decode cX5_run 56 = .ok (.iconst 0, 1) := by decide +kernel
theorem dX5_run_57 : decode cX5_run 57 = .ok (.istore 7, 2) := by decide +kernel
theorem dX5_run_59 : decode cX5_run 59 = .ok (.aload_n 0, 1) := by decide +kernel
theorem dX5_run_60 : decode cX5_run 60 = .ok (.iload_n 3, 1) := by decide +kernel
theorem dX5_run_61 : decode cX5_run 61 = .ok (.iload 7, 2) := by decide +kernel
theorem dX5_run_63 : decode cX5_run 63 = .ok (.invokevirtual 146, 3) := by decide +kernel
theorem dX5_run_66 : decode cX5_run 66 = .ok (.ifCond .eq 34, 3) := by decide +kernel
theorem dX5_run_69 : decode cX5_run 69 = .ok (.aload_n 0, 1) := by decide +kernel
theorem dX5_run_70 : decode cX5_run 70 = .ok (.iload_n 3, 1) := by decide +kernel
theorem dX5_run_71 : decode cX5_run 71 = .ok (.iconst 1, 1) := by decide +kernel
theorem dX5_run_72 : decode cX5_run 72 = .ok (.iload 7, 2) := by decide +kernel
theorem dX5_run_74 : decode cX5_run 74 = .ok (.ishl, 1) := by decide +kernel
theorem dX5_run_75 : decode cX5_run 75 = .ok (.ior, 1) := by decide +kernel
theorem dX5_run_76 : decode cX5_run 76 = .ok (.iload 7, 2) := by decide +kernel
theorem dX5_run_78 : decode cX5_run 78 = .ok (.lload 5, 2) := by decide +kernel
theorem dX5_run_80 : decode cX5_run 80 = .ok (.aload_n 0, 1) := by decide +kernel
theorem dX5_run_81 : decode cX5_run 81 = .ok (.iload 4, 2) := by decide +kernel
theorem dX5_run_83 : decode cX5_run 83 = .ok (.iload 7, 2) := by decide +kernel
theorem dX5_run_85 : decode cX5_run 85 = .ok (.invokevirtual 149, 3) := by decide +kernel
theorem dX5_run_88 : decode cX5_run 88 = .ok (.ladd, 1) := by decide +kernel
theorem dX5_run_89 : decode cX5_run 89 = .ok (.invokevirtual 163, 3) := by decide +kernel
theorem dX5_run_92 : decode cX5_run 92 = .ok (.aload_n 0, 1) := by decide +kernel
theorem dX5_run_93 : decode cX5_run 93 = .ok (.getfield 167, 3) := by decide +kernel
theorem dX5_run_96 : decode cX5_run 96 = .ok (.lcmp, 1) := by decide +kernel
theorem dX5_run_97 : decode cX5_run 97 = .ok (.ifCond .eq 9, 3) := by decide +kernel
theorem dX5_run_100 : decode cX5_run 100 = .ok (.iinc 7 1, 3) := by decide +kernel
theorem dX5_run_103 : decode cX5_run 103 = .ok (.goto (-44), 3) := by decide +kernel
theorem dX5_run_106 : decode cX5_run 106 = .ok (.lload 5, 2) := by decide +kernel
theorem dX5_run_108 : decode cX5_run 108 = .ok (.aload_n 0, 1) := by decide +kernel
theorem dX5_run_109 : decode cX5_run 109 = .ok (.iload 4, 2) := by decide +kernel
theorem dX5_run_111 : decode cX5_run 111 = .ok (.iload 7, 2) := by decide +kernel
theorem dX5_run_113 : decode cX5_run 113 = .ok (.invokevirtual 149, 3) := by decide +kernel
theorem dX5_run_116 : decode cX5_run 116 = .ok (.ladd, 1) := by decide +kernel
theorem dX5_run_117 : decode cX5_run 117 = .ok (.lstore 5, 2) := by decide +kernel
theorem dX5_run_119 : decode cX5_run 119 = .ok (.iload_n 3, 1) := by decide +kernel
theorem dX5_run_120 : decode cX5_run 120 = .ok (.iconst 1, 1) := by decide +kernel
theorem dX5_run_121 : decode cX5_run 121 = .ok (.iload 7, 2) := by decide +kernel
theorem dX5_run_123 : decode cX5_run 123 = .ok (.ishl, 1) := by decide +kernel
theorem dX5_run_124 : decode cX5_run 124 = .ok (.ior, 1) := by decide +kernel
theorem dX5_run_125 : decode cX5_run 125 = .ok (.istore_n 3, 1) := by decide +kernel
theorem dX5_run_126 : decode cX5_run 126 = .ok (.iload 7, 2) := by decide +kernel
theorem dX5_run_128 : decode cX5_run 128 = .ok (.istore 4, 2) := by decide +kernel
theorem dX5_run_130 : decode cX5_run 130 = .ok (.aload_n 0, 1) := by decide +kernel
theorem dX5_run_131 : decode cX5_run 131 = .ok (.getfield 51, 3) := by decide +kernel
theorem dX5_run_134 : decode cX5_run 134 = .ok (.aload_n 0, 1) := by decide +kernel
theorem dX5_run_135 : decode cX5_run 135 = .ok (.getfield 54, 3) := by decide +kernel
theorem dX5_run_138 : decode cX5_run 138 = .ok (.iload 7, 2) := by decide +kernel
theorem dX5_run_140 : decode cX5_run 140 = .ok (.iastore, 1) := by decide +kernel
theorem dX5_run_141 : decode cX5_run 141 = .ok (.aload_n 0, 1) := by decide +kernel
theorem dX5_run_142 : decode cX5_run 142 = .ok (.dup, 1) := by decide +kernel
theorem dX5_run_143 : decode cX5_run 143 = .ok (.getfield 54, 3) := by decide +kernel
theorem dX5_run_146 : decode cX5_run 146 = .ok (.iconst 1, 1) := by decide +kernel
theorem dX5_run_147 : decode cX5_run 147 = .ok (.iadd, 1) := by decide +kernel
theorem dX5_run_148 : decode cX5_run 148 = .ok (.putfield 54, 3) := by decide +kernel
theorem dX5_run_151 : decode cX5_run 151 = .ok (.goto (-112), 3) := by decide +kernel
theorem dX5_run_154 : decode cX5_run 154 = .ok (.iconst 0, 1) := by decide +kernel
theorem dX5_run_155 : decode cX5_run 155 = .ok (.istore 7, 2) := by decide +kernel
theorem dX5_run_157 : decode cX5_run 157 = .ok (.iload 7, 2) := by decide +kernel
theorem dX5_run_159 : decode cX5_run 159 = .ok (.bipush 12, 2) := by decide +kernel
theorem dX5_run_161 : decode cX5_run 161 = .ok (.if_icmp .ge 23, 3) := by decide +kernel
theorem dX5_run_164 : decode cX5_run 164 = .ok (.aload_n 0, 1) := by decide +kernel
theorem dX5_run_165 : decode cX5_run 165 = .ok (.getfield 58, 3) := by decide +kernel
theorem dX5_run_168 : decode cX5_run 168 = .ok (.iload 7, 2) := by decide +kernel
theorem dX5_run_170 : decode cX5_run 170 = .ok (.aload_n 0, 1) := by decide +kernel
theorem dX5_run_171 : decode cX5_run 171 = .ok (.iload 7, 2) := by decide +kernel
theorem dX5_run_173 : decode cX5_run 173 = .ok (.iload_n 3, 1) := by decide +kernel
theorem dX5_run_174 : decode cX5_run 174 = .ok (.invokevirtual 132, 3) := by decide +kernel
theorem dX5_run_177 : decode cX5_run 177 = .ok (.lastore, 1) := by decide +kernel
theorem dX5_run_178 : decode cX5_run 178 = .ok (.iinc 7 1, 3) := by decide +kernel
theorem dX5_run_181 : decode cX5_run 181 = .ok (.goto (-24), 3) := by decide +kernel
theorem dX5_run_184 : decode cX5_run 184 = .ok (.aload_n 0, 1) := by decide +kernel
theorem dX5_run_185 : decode cX5_run 185 = .ok (.aload_n 0, 1) := by decide +kernel
theorem dX5_run_186 : decode cX5_run 186 = .ok (.iload_n 3, 1) := by decide +kernel
theorem dX5_run_187 : decode cX5_run 187 = .ok (.invokevirtual 136, 3) := by decide +kernel
theorem dX5_run_190 : decode cX5_run 190 = .ok (.putfield 171, 3) := by decide +kernel
theorem dX5_run_193 : decode cX5_run 193 = .ok (.aload_n 0, 1) := by decide +kernel
theorem dX5_run_194 : decode cX5_run 194 = .ok (.aload_n 0, 1) := by decide +kernel
theorem dX5_run_195 : decode cX5_run 195 = .ok (.getfield 86, 3) := by decide +kernel
theorem dX5_run_198 : decode cX5_run 198 = .ok (.putfield 174, 3) := by decide +kernel
theorem dX5_run_201 : decode cX5_run 201 = .ok (.aload_n 0, 1) := by decide +kernel
theorem dX5_run_202 : decode cX5_run 202 = .ok (.iconst 1, 1) := by decide +kernel
theorem dX5_run_203 : decode cX5_run 203 = .ok (.putfield 97, 3) := by decide +kernel
theorem dX5_run_206 : decode cX5_run 206 = .ok (.aload_n 0, 1) := by decide +kernel
theorem dX5_run_207 : decode cX5_run 207 = .ok (.getfield 54, 3) := by decide +kernel
theorem dX5_run_210 : decode cX5_run 210 = .ok (.ireturn, 1) := by decide +kernel
theorem dX5_reckonValues_0 : decode cX5_reckonValues 0 = .ok (.iconst 0, 1) := by decide +kernel
theorem dX5_reckonValues_1 : decode cX5_reckonValues 1 = .ok (.istore_n 1, 1) := by decide +kernel
theorem dX5_reckonValues_2 : decode cX5_reckonValues 2 = .ok (.iload_n 1, 1) := by decide +kernel
theorem dX5_reckonValues_3 : decode cX5_reckonValues 3 = .ok (.aload_n 0, 1) := by decide +kernel
theorem dX5_reckonValues_4 : decode cX5_reckonValues 4 = .ok (.getfield 86, 3) := by decide +kernel
theorem dX5_reckonValues_7 : decode cX5_reckonValues 7 = .ok (.if_icmp .ge 71, 3) := by decide +kernel
theorem dX5_reckonValues_10 : decode cX5_reckonValues 10 = .ok (.aload_n 0, 1) := by decide +kernel
theorem dX5_reckonValues_11 : decode cX5_reckonValues 11 = .ok (.getfield 67, 3) := by decide +kernel
theorem dX5_reckonValues_14 : decode cX5_reckonValues 14 = .ok (.iload_n 1, 1) := by decide +kernel
theorem dX5_reckonValues_15 : decode cX5_reckonValues 15 = .ok (.iconst 0, 1) := by decide +kernel
theorem dX5_reckonValues_16 : decode cX5_reckonValues 16 = .ok (.iastore, 1) := by decide +kernel
theorem dX5_reckonValues_17 : decode cX5_reckonValues 17 = .ok (.iconst 0, 1) := by decide +kernel
theorem dX5_reckonValues_18 : decode cX5_reckonValues 18 = .ok (.istore_n 2, 1) := by decide +kernel
theorem dX5_reckonValues_19 : decode cX5_reckonValues 19 = .ok (.iload_n 2, 1) := by decide +kernel
theorem dX5_reckonValues_20 : decode cX5_reckonValues 20 = .ok (.aload_n 0, 1) := by decide +kernel
theorem dX5_reckonValues_21 : decode cX5_reckonValues 21 = .ok (.getfield 86, 3) := by decide +kernel
theorem dX5_reckonValues_24 : decode cX5_reckonValues 24 = .ok (.if_icmp .ge 48, 3) := by decide +kernel
theorem dX5_reckonValues_27 : decode cX5_reckonValues 27 = .ok (.aload_n 0, 1) := by decide +kernel
theorem dX5_reckonValues_28 : decode cX5_reckonValues 28 = .ok (.getfield 67, 3) := by decide +kernel
theorem dX5_reckonValues_31 : decode cX5_reckonValues 31 = .ok (.iload_n 1, 1) := by decide +kernel
theorem dX5_reckonValues_32 : decode cX5_reckonValues 32 = .ok (.aload_n 0, 1) := by decide +kernel
theorem dX5_reckonValues_33 : decode cX5_reckonValues 33 = .ok (.getfield 27, 3) := by decide +kernel
theorem dX5_reckonValues_36 : decode cX5_reckonValues 36 = .ok (.bipush 10, 2) := by decide +kernel
theorem dX5_reckonValues_38 : decode cX5_reckonValues 38 = .ok (.iload_n 1, 1) := by decide +kernel
theorem dX5_reckonValues_39 : decode cX5_reckonValues 39 = .ok (.imul, 1) := by decide +kernel
theorem dX5_reckonValues_40 : decode cX5_reckonValues 40 = .ok (.iload_n 2, 1) := by decide +kernel
theorem dX5_reckonValues_41 : decode cX5_reckonValues 41 = .ok (.iadd, 1) := by decide +kernel
theorem dX5_reckonValues_42 : decode cX5_reckonValues 42 = .ok (.baload, 1) := by decide +kernel
theorem dX5_reckonValues_43 : decode cX5_reckonValues 43 = .ok (.ifCond .eq 16, 3) := by decide +kernel
theorem dX5_reckonValues_46 : decode cX5_reckonValues 46 = .ok (.aload_n 0, 1) := by decide +kernel
theorem dX5_reckonValues_47 : decode cX5_reckonValues 47 = .ok (.getfield 67, 3) := by decide +kernel
theorem dX5_reckonValues_50 : decode cX5_reckonValues 50 = .ok (.iload_n 1, 1) := by decide +kernel
theorem dX5_reckonValues_51 : decode cX5_reckonValues 51 = .ok (.iaload, 1) := by decide +kernel
theorem dX5_reckonValues_52 : decode cX5_reckonValues 52 = .ok (.iconst 1, 1) := by decide +kernel
theorem dX5_reckonValues_53 : decode cX5_reckonValues 53 = .ok (.iload_n 2, 1) := by decide +kernel
theorem dX5_reckonValues_54 : decode cX5_reckonValues 54 = .ok (.ishl, 1) := by decide +kernel
theorem dX5_reckonValues_55 : decode cX5_reckonValues 55 = .ok (.ior, 1) := by decide +kernel
theorem dX5_reckonValues_56 : decode cX5_reckonValues 56 = .ok (.goto 9, 3) := by decide +kernel
theorem dX5_reckonValues_59 : decode cX5_reckonValues 59 = .ok (.aload_n 0, 1) := by decide +kernel
theorem dX5_reckonValues_60 : decode cX5_reckonValues 60 = .ok (.getfield 67, 3) := by decide +kernel
theorem dX5_reckonValues_63 : decode cX5_reckonValues 63 = .ok (.iload_n 1, 1) := by decide +kernel
theorem dX5_reckonValues_64 : decode cX5_reckonValues 64 = .ok (.iaload, 1) := by decide +kernel
theorem dX5_reckonValues_65 : decode cX5_reckonValues 65 = .ok (.iastore, 1) := by decide +kernel
theorem dX5_reckonValues_66 : decode cX5_reckonValues 66 = .ok (.iinc 2 1, 3) := by decide +kernel
theorem dX5_reckonValues_69 : decode cX5_reckonValues 69 = .ok (.goto (-50), 3) := by decide +kernel
theorem dX5_reckonValues_72 : decode cX5_reckonValues 72 = .ok (.iinc 1 1, 3) := by decide +kernel
theorem dX5_reckonValues_75 : decode cX5_reckonValues 75 = .ok (.goto (-73), 3) := by decide +kernel
theorem dX5_reckonValues_78 : decode cX5_reckonValues 78 = .ok (.iconst 0, 1) := by decide +kernel
theorem dX5_reckonValues_79 : decode cX5_reckonValues 79 = .ok (.istore_n 1, 1) := by decide +kernel
theorem dX5_reckonValues_80 : decode cX5_reckonValues 80 = .ok (.iload_n 1, 1) := by decide +kernel
theorem dX5_reckonValues_81 : decode cX5_reckonValues 81 = .ok (.iconst 1, 1) := by decide +kernel
theorem dX5_reckonValues_82 : decode cX5_reckonValues 82 = .ok (.aload_n 0, 1) := by decide +kernel
theorem dX5_reckonValues_83 : decode cX5_reckonValues 83 = .ok (.getfield 86, 3) := by decide +kernel
theorem dX5_reckonValues_86 : decode cX5_reckonValues 86 = .ok (.ishl, 1) := by decide +kernel
theorem dX5_reckonValues_87 : decode cX5_reckonValues 87 = .ok (.if_icmp .ge 20, 3) := by decide +kernel
theorem dX5_reckonValues_90 : decode cX5_reckonValues 90 = .ok (.aload_n 0, 1) := by decide +kernel
theorem dX5_reckonValues_91 : decode cX5_reckonValues 91 = .ok (.getfield 73, 3) := by decide +kernel
theorem dX5_reckonValues_94 : decode cX5_reckonValues 94 = .ok (.iload_n 1, 1) := by decide +kernel
theorem dX5_reckonValues_95 : decode cX5_reckonValues 95 = .ok (.aload_n 0, 1) := by decide +kernel
theorem dX5_reckonValues_96 : decode cX5_reckonValues 96 = .ok (.iload_n 1, 1) := by decide +kernel
theorem dX5_reckonValues_97 : decode cX5_reckonValues 97 = .ok (.invokevirtual 140, 3) := by decide +kernel
theorem dX5_reckonValues_100 : decode cX5_reckonValues 100 = .ok (.lastore, 1) := by decide +kernel
theorem dX5_reckonValues_101 : decode cX5_reckonValues 101 = .ok (.iinc 1 1, 3) := by decide +kernel
theorem dX5_reckonValues_104 : decode cX5_reckonValues 104 = .ok (.goto (-24), 3) := by decide +kernel
theorem dX5_reckonValues_107 : decode cX5_reckonValues 107 = .ok (.return_, 1) := by decide +kernel
theorem dX5_valueOf_0 : decode cX5_valueOf 0 = .ok (.lconst 0, 1) := by decide +kernel
theorem dX5_valueOf_1 : decode cX5_valueOf 1 = .ok (.lstore_n 2, 1) := by decide +kernel
theorem dX5_valueOf_2 : decode cX5_valueOf 2 = .ok (.iconst 0, 1) := by decide +kernel
theorem dX5_valueOf_3 : decode cX5_valueOf 3 = .ok (.istore 4, 2) := by decide +kernel
theorem dX5_valueOf_5 : decode cX5_valueOf 5 = .ok (.iload 4, 2) := by decide +kernel
theorem dX5_valueOf_7 : decode cX5_valueOf 7 = .ok (.bipush 12, 2) := by decide +kernel
theorem dX5_valueOf_9 : decode cX5_valueOf 9 = .ok (.if_icmp .ge 19, 3) := by decide +kernel
theorem dX5_valueOf_12 : decode cX5_valueOf 12 = .ok (.lload_n 2, 1) := by decide +kernel
theorem dX5_valueOf_13 : decode cX5_valueOf 13 = .ok (.aload_n 0, 1) := by decide +kernel
theorem dX5_valueOf_14 : decode cX5_valueOf 14 = .ok (.iload 4, 2) := by decide +kernel
theorem dX5_valueOf_16 : decode cX5_valueOf 16 = .ok (.iload_n 1, 1) := by decide +kernel
theorem dX5_valueOf_17 : decode cX5_valueOf 17 = .ok (.invokevirtual 132, 3) := by decide +kernel
theorem dX5_valueOf_20 : decode cX5_valueOf 20 = .ok (.ladd, 1) := by decide +kernel
theorem dX5_valueOf_21 : decode cX5_valueOf 21 = .ok (.lstore_n 2, 1) := by decide +kernel
theorem dX5_valueOf_22 : decode cX5_valueOf 22 = .ok (.iinc 4 1, 3) := by decide +kernel
theorem dX5_valueOf_25 : decode cX5_valueOf 25 = .ok (.goto (-20), 3) := by decide +kernel
theorem dX5_valueOf_28 : decode cX5_valueOf 28 = .ok (.aload_n 0, 1) := by decide +kernel
theorem dX5_valueOf_29 : decode cX5_valueOf 29 = .ok (.iload_n 1, 1) := by decide +kernel
theorem dX5_valueOf_30 : decode cX5_valueOf 30 = .ok (.invokevirtual 136, 3) := by decide +kernel
theorem dX5_valueOf_33 : decode cX5_valueOf 33 = .ok (.istore 4, 2) := by decide +kernel
theorem dX5_valueOf_35 : decode cX5_valueOf 35 = .ok (.iconst 0, 1) := by decide +kernel
theorem dX5_valueOf_36 : decode cX5_valueOf 36 = .ok (.istore 5, 2) := by decide +kernel
theorem dX5_valueOf_38 : decode cX5_valueOf 38 = .ok (.iload 5, 2) := by decide +kernel
theorem dX5_valueOf_40 : decode cX5_valueOf 40 = .ok (.aload_n 0, 1) := by decide +kernel
theorem dX5_valueOf_41 : decode cX5_valueOf 41 = .ok (.getfield 116, 3) := by decide +kernel
theorem dX5_valueOf_44 : decode cX5_valueOf 44 = .ok (.if_icmp .ge 39, 3) := by decide +kernel
theorem dX5_valueOf_47 : decode cX5_valueOf 47 = .ok (.lload_n 2, 1) := by decide +kernel
theorem dX5_valueOf_48 : decode cX5_valueOf 48 = .ok (.aload_n 0, 1) := by decide +kernel
theorem dX5_valueOf_49 : decode cX5_valueOf 49 = .ok (.getfield 45, 3) := by decide +kernel
theorem dX5_valueOf_52 : decode cX5_valueOf 52 = .ok (.iload 5, 2) := by decide +kernel
theorem dX5_valueOf_54 : decode cX5_valueOf 54 = .ok (.iaload, 1) := by decide +kernel
theorem dX5_valueOf_55 : decode cX5_valueOf 55 = .ok (.iload 4, 2) := by decide +kernel
theorem dX5_valueOf_57 : decode cX5_valueOf 57 = .ok (.if_icmp .ne 17, 3) := by decide +kernel
theorem dX5_valueOf_60 : decode cX5_valueOf 60 = .ok (.ldc2_w 130, 3) := by decide +kernel
theorem dX5_valueOf_63 : decode cX5_valueOf 63 = .ok (.aload_n 0, 1) := by decide +kernel
theorem dX5_valueOf_64 : decode cX5_valueOf 64 = .ok (.getfield 48, 3) := by decide +kernel
theorem dX5_valueOf_67 : decode cX5_valueOf 67 = .ok (.iload 5, 2) := by decide +kernel
theorem dX5_valueOf_69 : decode cX5_valueOf 69 = .ok (.laload, 1) := by decide +kernel
theorem dX5_valueOf_70 : decode cX5_valueOf 70 = .ok (.lmul, 1) := by decide +kernel
theorem dX5_valueOf_71 : decode cX5_valueOf 71 = .ok (.goto 4, 3) := by decide +kernel
theorem dX5_valueOf_74 : decode cX5_valueOf 74 = .ok (.lconst 0, 1) := by decide +kernel
theorem dX5_valueOf_75 : decode cX5_valueOf 75 = .ok (.ladd, 1) := by decide +kernel
theorem dX5_valueOf_76 : decode cX5_valueOf 76 = .ok (.lstore_n 2, 1) := by decide +kernel
theorem dX5_valueOf_77 : decode cX5_valueOf 77 = .ok (.iinc 5 1, 3) := by decide +kernel
theorem dX5_valueOf_80 : decode cX5_valueOf 80 = .ok (.goto (-42), 3) := by decide +kernel
theorem dX5_valueOf_83 : decode cX5_valueOf 83 = .ok (.lload_n 2, 1) := by decide +kernel
theorem dX5_valueOf_84 : decode cX5_valueOf 84 = .ok (.lreturn, 1) := by decide +kernel
theorem dX5_bringsOf_0 : decode cX5_bringsOf 0 = .ok (.iconst 0, 1) := by decide +kernel
theorem dX5_bringsOf_1 : decode cX5_bringsOf 1 = .ok (.istore_n 3, 1) := by decide +kernel
theorem dX5_bringsOf_2 : decode cX5_bringsOf 2 = .ok (.iconst 1, 1) := by decide +kernel
theorem dX5_bringsOf_3 : decode cX5_bringsOf 3 = .ok (.istore 4, 2) := by decide +kernel
theorem dX5_bringsOf_5 : decode cX5_bringsOf 5 = .ok (.iconst 0, 1) := by decide +kernel
theorem dX5_bringsOf_6 : decode cX5_bringsOf 6 = .ok (.istore 5, 2) := by decide +kernel
theorem dX5_bringsOf_8 : decode cX5_bringsOf 8 = .ok (.iload 5, 2) := by decide +kernel
theorem dX5_bringsOf_10 : decode cX5_bringsOf 10 = .ok (.aload_n 0, 1) := by decide +kernel
theorem dX5_bringsOf_11 : decode cX5_bringsOf 11 = .ok (.getfield 86, 3) := by decide +kernel
theorem dX5_bringsOf_14 : decode cX5_bringsOf 14 = .ok (.if_icmp .ge 78, 3) := by decide +kernel
theorem dX5_bringsOf_17 : decode cX5_bringsOf 17 = .ok (.iload_n 2, 1) := by decide +kernel
theorem dX5_bringsOf_18 : decode cX5_bringsOf 18 = .ok (.iload 5, 2) := by decide +kernel
theorem dX5_bringsOf_20 : decode cX5_bringsOf 20 = .ok (.invokestatic 121, 3) := by decide +kernel
theorem dX5_bringsOf_23 : decode cX5_bringsOf 23 = .ok (.ifCond .eq 18, 3) := by decide +kernel
theorem dX5_bringsOf_26 : decode cX5_bringsOf 26 = .ok (.aload_n 0, 1) := by decide +kernel
theorem dX5_bringsOf_27 : decode cX5_bringsOf 27 = .ok (.getfield 7, 3) := by decide +kernel
theorem dX5_bringsOf_30 : decode cX5_bringsOf 30 = .ok (.iload 5, 2) := by decide +kernel
theorem dX5_bringsOf_32 : decode cX5_bringsOf 32 = .ok (.iaload, 1) := by decide +kernel
theorem dX5_bringsOf_33 : decode cX5_bringsOf 33 = .ok (.iload_n 1, 1) := by decide +kernel
theorem dX5_bringsOf_34 : decode cX5_bringsOf 34 = .ok (.if_icmp .ne 7, 3) := by decide +kernel
theorem dX5_bringsOf_37 : decode cX5_bringsOf 37 = .ok (.iconst 1, 1) := by decide +kernel
theorem dX5_bringsOf_38 : decode cX5_bringsOf 38 = .ok (.goto 4, 3) := by decide +kernel
theorem dX5_bringsOf_41 : decode cX5_bringsOf 41 = .ok (.iconst 0, 1) := by decide +kernel
theorem dX5_bringsOf_42 : decode cX5_bringsOf 42 = .ok (.istore 6, 2) := by decide +kernel
theorem dX5_bringsOf_44 : decode cX5_bringsOf 44 = .ok (.iload_n 3, 1) := by decide +kernel
theorem dX5_bringsOf_45 : decode cX5_bringsOf 45 = .ok (.ifCond .ne 8, 3) := by decide +kernel
theorem dX5_bringsOf_48 : decode cX5_bringsOf 48 = .ok (.iload 6, 2) := by decide +kernel
theorem dX5_bringsOf_50 : decode cX5_bringsOf 50 = .ok (.ifCond .eq 7, 3) := by decide +kernel
theorem dX5_bringsOf_53 : decode cX5_bringsOf 53 = .ok (.iconst 1, 1) := by decide +kernel
theorem dX5_bringsOf_54 : decode cX5_bringsOf 54 = .ok (.goto 4, 3) := by decide +kernel
theorem dX5_bringsOf_57 : decode cX5_bringsOf 57 = .ok (.iconst 0, 1) := by decide +kernel
theorem dX5_bringsOf_58 : decode cX5_bringsOf 58 = .ok (.istore_n 3, 1) := by decide +kernel
theorem dX5_bringsOf_59 : decode cX5_bringsOf 59 = .ok (.iload 4, 2) := by decide +kernel
theorem dX5_bringsOf_61 : decode cX5_bringsOf 61 = .ok (.ifCond .eq 22, 3) := by decide +kernel
theorem dX5_bringsOf_64 : decode cX5_bringsOf 64 = .ok (.iload 6, 2) := by decide +kernel
theorem dX5_bringsOf_66 : decode cX5_bringsOf 66 = .ok (.ifCond .eq 13, 3) := by decide +kernel
theorem dX5_bringsOf_69 : decode cX5_bringsOf 69 = .ok (.aload_n 0, 1) := by decide +kernel
theorem dX5_bringsOf_70 : decode cX5_bringsOf 70 = .ok (.getfield 23, 3) := by decide +kernel
theorem dX5_bringsOf_73 : decode cX5_bringsOf 73 = .ok (.iload 5, 2) := by decide +kernel
theorem dX5_bringsOf_75 : decode cX5_bringsOf 75 = .ok (.baload, 1) := by decide +kernel
theorem dX5_bringsOf_76 : decode cX5_bringsOf 76 = .ok (.ifCond .ne 7, 3) := by decide +kernel
theorem dX5_bringsOf_79 : decode cX5_bringsOf 79 = .ok (.iconst 1, 1) := by decide +kernel
theorem dX5_bringsOf_80 : decode cX5_bringsOf 80 = .ok (.goto 4, 3) := by decide +kernel
theorem dX5_bringsOf_83 : decode cX5_bringsOf 83 = .ok (.iconst 0, 1) := by decide +kernel
theorem dX5_bringsOf_84 : decode cX5_bringsOf 84 = .ok (.istore 4, 2) := by decide +kernel
theorem dX5_bringsOf_86 : decode cX5_bringsOf 86 = .ok (.iinc 5 1, 3) := by decide +kernel
theorem dX5_bringsOf_89 : decode cX5_bringsOf 89 = .ok (.goto (-81), 3) := by decide +kernel
theorem dX5_bringsOf_92 : decode cX5_bringsOf 92 = .ok (.iload_n 3, 1) := by decide +kernel
theorem dX5_bringsOf_93 : decode cX5_bringsOf 93 = .ok (.ifCond .eq 8, 3) := by decide +kernel
theorem dX5_bringsOf_96 : decode cX5_bringsOf 96 = .ok (.iload 4, 2) := by decide +kernel
theorem dX5_bringsOf_98 : decode cX5_bringsOf 98 = .ok (.ifCond .ne 5, 3) := by decide +kernel
theorem dX5_bringsOf_101 : decode cX5_bringsOf 101 = .ok (.lconst 0, 1) := by decide +kernel
theorem dX5_bringsOf_102 : decode cX5_bringsOf 102 = .ok (.lreturn, 1) := by decide +kernel
theorem dX5_bringsOf_103 : decode cX5_bringsOf 103 = .ok (.iload_n 1, 1) := by decide +kernel
theorem dX5_bringsOf_104 : decode cX5_bringsOf 104 = .ok (.aload_n 0, 1) := by decide +kernel
theorem dX5_bringsOf_105 : decode cX5_bringsOf 105 = .ok (.getfield 64, 3) := by decide +kernel
theorem dX5_bringsOf_108 : decode cX5_bringsOf 108 = .ok (.if_icmp .ne 26, 3) := by decide +kernel
theorem dX5_bringsOf_111 : decode cX5_bringsOf 111 = .ok (.aload_n 0, 1) := by decide +kernel
theorem dX5_bringsOf_112 : decode cX5_bringsOf 112 = .ok (.getfield 127, 3) := by decide +kernel
theorem dX5_bringsOf_115 : decode cX5_bringsOf 115 = .ok (.iconst 1, 1) := by decide +kernel
theorem dX5_bringsOf_116 : decode cX5_bringsOf 116 = .ok (.if_icmp .ne 16, 3) := by decide +kernel
theorem dX5_bringsOf_119 : decode cX5_bringsOf 119 = .ok (.ldc2_w 130, 3) := by decide +kernel
theorem dX5_bringsOf_122 : decode cX5_bringsOf 122 = .ok (.aload_n 0, 1) := by decide +kernel
theorem dX5_bringsOf_123 : decode cX5_bringsOf 123 = .ok (.getfield 36, 3) := by decide +kernel
theorem dX5_bringsOf_126 : decode cX5_bringsOf 126 = .ok (.iload_n 1, 1) := by decide +kernel
theorem dX5_bringsOf_127 : decode cX5_bringsOf 127 = .ok (.laload, 1) := by decide +kernel
theorem dX5_bringsOf_128 : decode cX5_bringsOf 128 = .ok (.lmul, 1) := by decide +kernel
theorem dX5_bringsOf_129 : decode cX5_bringsOf 129 = .ok (.goto 4, 3) := by decide +kernel
theorem dX5_bringsOf_132 : decode cX5_bringsOf 132 = .ok (.lconst 0, 1) := by decide +kernel
theorem dX5_bringsOf_133 : decode cX5_bringsOf 133 = .ok (.lreturn, 1) := by decide +kernel
theorem dX5_bringsOf_134 : decode cX5_bringsOf 134 = .ok (.ldc2_w 130, 3) := by decide +kernel
theorem dX5_bringsOf_137 : decode cX5_bringsOf 137 = .ok (.aload_n 0, 1) := by decide +kernel
theorem dX5_bringsOf_138 : decode cX5_bringsOf 138 = .ok (.getfield 36, 3) := by decide +kernel
theorem dX5_bringsOf_141 : decode cX5_bringsOf 141 = .ok (.iload_n 1, 1) := by decide +kernel
theorem dX5_bringsOf_142 : decode cX5_bringsOf 142 = .ok (.laload, 1) := by decide +kernel
theorem dX5_bringsOf_143 : decode cX5_bringsOf 143 = .ok (.lmul, 1) := by decide +kernel
theorem dX5_bringsOf_144 : decode cX5_bringsOf 144 = .ok (.aload_n 0, 1) := by decide +kernel
theorem dX5_bringsOf_145 : decode cX5_bringsOf 145 = .ok (.getfield 42, 3) := by decide +kernel
theorem dX5_bringsOf_148 : decode cX5_bringsOf 148 = .ok (.iload_n 1, 1) := by decide +kernel
theorem dX5_bringsOf_149 : decode cX5_bringsOf 149 = .ok (.iaload, 1) := by decide +kernel
theorem dX5_bringsOf_150 : decode cX5_bringsOf 150 = .ok (.i2l, 1) := by decide +kernel
theorem dX5_bringsOf_151 : decode cX5_bringsOf 151 = .ok (.ldiv, 1) := by decide +kernel
theorem dX5_bringsOf_152 : decode cX5_bringsOf 152 = .ok (.aload_n 0, 1) := by decide +kernel
theorem dX5_bringsOf_153 : decode cX5_bringsOf 153 = .ok (.getfield 39, 3) := by decide +kernel
theorem dX5_bringsOf_156 : decode cX5_bringsOf 156 = .ok (.iload_n 1, 1) := by decide +kernel
theorem dX5_bringsOf_157 : decode cX5_bringsOf 157 = .ok (.iaload, 1) := by decide +kernel
theorem dX5_bringsOf_158 : decode cX5_bringsOf 158 = .ok (.i2l, 1) := by decide +kernel
theorem dX5_bringsOf_159 : decode cX5_bringsOf 159 = .ok (.lmul, 1) := by decide +kernel
theorem dX5_bringsOf_160 : decode cX5_bringsOf 160 = .ok (.lreturn, 1) := by decide +kernel
theorem dX5_restOf_0 : decode cX5_restOf 0 = .ok (.sipush 4095, 3) := by decide +kernel
theorem dX5_restOf_3 : decode cX5_restOf 3 = .ok (.istore_n 2, 1) := by decide +kernel
theorem dX5_restOf_4 : decode cX5_restOf 4 = .ok (.iconst 0, 1) := by decide +kernel
theorem dX5_restOf_5 : decode cX5_restOf 5 = .ok (.istore_n 3, 1) := by decide +kernel
theorem dX5_restOf_6 : decode cX5_restOf 6 = .ok (.iload_n 3, 1) := by decide +kernel
theorem dX5_restOf_7 : decode cX5_restOf 7 = .ok (.aload_n 0, 1) := by decide +kernel
theorem dX5_restOf_8 : decode cX5_restOf 8 = .ok (.getfield 86, 3) := by decide +kernel
theorem dX5_restOf_11 : decode cX5_restOf 11 = .ok (.if_icmp .ge 54, 3) := by decide +kernel
theorem dX5_restOf_14 : decode cX5_restOf 14 = .ok (.iload_n 1, 1) := by decide +kernel
theorem dX5_restOf_15 : decode cX5_restOf 15 = .ok (.iload_n 3, 1) := by decide +kernel
theorem dX5_restOf_16 : decode cX5_restOf 16 = .ok (.invokestatic 121, 3) := by decide +kernel
theorem dX5_restOf_19 : decode cX5_restOf 19 = .ok (.ifCond .eq 38, 3) := by decide +kernel
theorem dX5_restOf_22 : decode cX5_restOf 22 = .ok (.aload_n 0, 1) := by decide +kernel
theorem dX5_restOf_23 : decode cX5_restOf 23 = .ok (.getfield 7, 3) := by decide +kernel
theorem dX5_restOf_26 : decode cX5_restOf 26 = .ok (.iload_n 3, 1) := by decide +kernel
theorem dX5_restOf_27 : decode cX5_restOf 27 = .ok (.iaload, 1) := by decide +kernel
theorem dX5_restOf_28 : decode cX5_restOf 28 = .ok (.ifCond .lt 29, 3) := by decide +kernel
theorem dX5_restOf_31 : decode cX5_restOf 31 = .ok (.iload_n 2, 1) := by decide +kernel
theorem dX5_restOf_32 : decode cX5_restOf 32 = .ok (.aload_n 0, 1) := by decide +kernel
theorem dX5_restOf_33 : decode cX5_restOf 33 = .ok (.getfield 7, 3) := by decide +kernel
theorem dX5_restOf_36 : decode cX5_restOf 36 = .ok (.iload_n 3, 1) := by decide +kernel
theorem dX5_restOf_37 : decode cX5_restOf 37 = .ok (.iaload, 1) := by decide +kernel
theorem dX5_restOf_38 : decode cX5_restOf 38 = .ok (.invokestatic 121, 3) := by decide +kernel
theorem dX5_restOf_41 : decode cX5_restOf 41 = .ok (.ifCond .eq 16, 3) := by decide +kernel
theorem dX5_restOf_44 : decode cX5_restOf 44 = .ok (.iload_n 2, 1) := by decide +kernel
theorem dX5_restOf_45 : decode cX5_restOf 45 = .ok (.iconst 1, 1) := by decide +kernel
theorem dX5_restOf_46 : decode cX5_restOf 46 = .ok (.aload_n 0, 1) := by decide +kernel
theorem dX5_restOf_47 : decode cX5_restOf 47 = .ok (.getfield 7, 3) := by decide +kernel
theorem dX5_restOf_50 : decode cX5_restOf 50 = .ok (.iload_n 3, 1) := by decide +kernel
theorem dX5_restOf_51 : decode cX5_restOf 51 = .ok (.iaload, 1) := by decide +kernel
theorem dX5_restOf_52 : decode cX5_restOf 52 = .ok (.ishl, 1) := by decide +kernel
theorem dX5_restOf_53 : decode cX5_restOf 53 = .ok (.isub, 1) := by decide +kernel
theorem dX5_restOf_54 : decode cX5_restOf 54 = .ok (.goto 4, 3) := by decide +kernel
theorem dX5_restOf_57 : decode cX5_restOf 57 = .ok (.iload_n 2, 1) := by decide +kernel
theorem dX5_restOf_58 : decode cX5_restOf 58 = .ok (.istore_n 2, 1) := by decide +kernel
theorem dX5_restOf_59 : decode cX5_restOf 59 = .ok (.iinc 3 1, 3) := by decide +kernel
theorem dX5_restOf_62 : decode cX5_restOf 62 = .ok (.goto (-56), 3) := by decide +kernel
theorem dX5_restOf_65 : decode cX5_restOf 65 = .ok (.iload_n 2, 1) := by decide +kernel
theorem dX5_restOf_66 : decode cX5_restOf 66 = .ok (.ireturn, 1) := by decide +kernel
theorem dX5_bestFrom_0 : decode cX5_bestFrom 0 = .ok (.aload_n 0, 1) := by decide +kernel
theorem dX5_bestFrom_1 : decode cX5_bestFrom 1 = .ok (.getfield 73, 3) := by decide +kernel
theorem dX5_bestFrom_4 : decode cX5_bestFrom 4 = .ok (.iload_n 1, 1) := by decide +kernel
theorem dX5_bestFrom_5 : decode cX5_bestFrom 5 = .ok (.laload, 1) := by decide +kernel
theorem dX5_bestFrom_6 : decode cX5_bestFrom 6 = .ok (.lload_n 3, 1) := by decide +kernel
theorem dX5_bestFrom_7 : decode cX5_bestFrom 7 = .ok (.lsub, 1) := by decide +kernel
theorem dX5_bestFrom_8 : decode cX5_bestFrom 8 = .ok (.lstore 5, 2) := by decide +kernel
theorem dX5_bestFrom_10 : decode cX5_bestFrom 10 = .ok (.iconst 0, 1) := by decide +kernel
theorem dX5_bestFrom_11 : decode cX5_bestFrom 11 = .ok (.istore 7, 2) := by decide +kernel
theorem dX5_bestFrom_13 : decode cX5_bestFrom 13 = .ok (.iload 7, 2) := by decide +kernel
theorem dX5_bestFrom_15 : decode cX5_bestFrom 15 = .ok (.bipush 10, 2) := by decide +kernel
theorem dX5_bestFrom_17 : decode cX5_bestFrom 17 = .ok (.aload_n 0, 1) := by decide +kernel
theorem dX5_bestFrom_18 : decode cX5_bestFrom 18 = .ok (.getfield 86, 3) := by decide +kernel
theorem dX5_bestFrom_21 : decode cX5_bestFrom 21 = .ok (.ishl, 1) := by decide +kernel
theorem dX5_bestFrom_22 : decode cX5_bestFrom 22 = .ok (.if_icmp .ge 19, 3) := by decide +kernel
theorem dX5_bestFrom_25 : decode cX5_bestFrom 25 = .ok (.aload_n 0, 1) := by decide +kernel
theorem dX5_bestFrom_26 : decode cX5_bestFrom 26 = .ok (.getfield 70, 3) := by decide +kernel
theorem dX5_bestFrom_29 : decode cX5_bestFrom 29 = .ok (.iload 7, 2) := by decide +kernel
theorem dX5_bestFrom_31 : decode cX5_bestFrom 31 = .ok (.ldc2_w 144, 3) := by decide +kernel
theorem dX5_bestFrom_34 : decode cX5_bestFrom 34 = .ok (.lastore, 1) := by decide +kernel
theorem dX5_bestFrom_35 : decode cX5_bestFrom 35 = .ok (.iinc 7 1, 3) := by decide +kernel
theorem dX5_bestFrom_38 : decode cX5_bestFrom 38 = .ok (.goto (-25), 3) := by decide +kernel
theorem dX5_bestFrom_41 : decode cX5_bestFrom 41 = .ok (.iconst 0, 1) := by decide +kernel
theorem dX5_bestFrom_42 : decode cX5_bestFrom 42 = .ok (.istore 7, 2) := by decide +kernel
theorem dX5_bestFrom_44 : decode cX5_bestFrom 44 = .ok (.iload 7, 2) := by decide +kernel
theorem dX5_bestFrom_46 : decode cX5_bestFrom 46 = .ok (.aload_n 0, 1) := by decide +kernel
theorem dX5_bestFrom_47 : decode cX5_bestFrom 47 = .ok (.getfield 86, 3) := by decide +kernel
theorem dX5_bestFrom_50 : decode cX5_bestFrom 50 = .ok (.if_icmp .ge 45, 3) := by decide +kernel
theorem dX5_bestFrom_53 : decode cX5_bestFrom 53 = .ok (.aload_n 0, 1) := by decide +kernel
theorem dX5_bestFrom_54 : decode cX5_bestFrom 54 = .ok (.iload_n 1, 1) := by decide +kernel
theorem dX5_bestFrom_55 : decode cX5_bestFrom 55 = .ok (.iload 7, 2) := by decide +kernel
theorem dX5_bestFrom_57 : decode cX5_bestFrom 57 = .ok (.invokevirtual 146, 3) := by decide +kernel
theorem dX5_bestFrom_60 : decode cX5_bestFrom 60 = .ok (.ifCond .eq 29, 3) := by decide +kernel
theorem dX5_bestFrom_63 : decode cX5_bestFrom 63 = .ok (.aload_n 0, 1) := by decide +kernel
theorem dX5_bestFrom_64 : decode cX5_bestFrom 64 = .ok (.getfield 70, 3) := by decide +kernel
theorem dX5_bestFrom_67 : decode cX5_bestFrom 67 = .ok (.bipush 10, 2) := by decide +kernel
theorem dX5_bestFrom_69 : decode cX5_bestFrom 69 = .ok (.iload_n 1, 1) := by decide +kernel
theorem dX5_bestFrom_70 : decode cX5_bestFrom 70 = .ok (.iconst 1, 1) := by decide +kernel
theorem dX5_bestFrom_71 : decode cX5_bestFrom 71 = .ok (.iload 7, 2) := by decide +kernel
theorem dX5_bestFrom_73 : decode cX5_bestFrom 73 = .ok (.ishl, 1) := by decide +kernel
theorem dX5_bestFrom_74 : decode cX5_bestFrom 74 = .ok (.ior, 1) := by decide +kernel
theorem dX5_bestFrom_75 : decode cX5_bestFrom 75 = .ok (.imul, 1) := by decide +kernel
theorem dX5_bestFrom_76 : decode cX5_bestFrom 76 = .ok (.iload 7, 2) := by decide +kernel
theorem dX5_bestFrom_78 : decode cX5_bestFrom 78 = .ok (.iadd, 1) := by decide +kernel
theorem dX5_bestFrom_79 : decode cX5_bestFrom 79 = .ok (.lload_n 3, 1) := by decide +kernel
theorem dX5_bestFrom_80 : decode cX5_bestFrom 80 = .ok (.aload_n 0, 1) := by decide +kernel
theorem dX5_bestFrom_81 : decode cX5_bestFrom 81 = .ok (.iload_n 2, 1) := by decide +kernel
theorem dX5_bestFrom_82 : decode cX5_bestFrom 82 = .ok (.iload 7, 2) := by decide +kernel
theorem dX5_bestFrom_84 : decode cX5_bestFrom 84 = .ok (.invokevirtual 149, 3) := by decide +kernel
theorem dX5_bestFrom_87 : decode cX5_bestFrom 87 = .ok (.ladd, 1) := by decide +kernel
theorem dX5_bestFrom_88 : decode cX5_bestFrom 88 = .ok (.lastore, 1) := by decide +kernel
theorem dX5_bestFrom_89 : decode cX5_bestFrom 89 = .ok (.iinc 7 1, 3) := by decide +kernel
theorem dX5_bestFrom_92 : decode cX5_bestFrom 92 = .ok (.goto (-48), 3) := by decide +kernel
theorem dX5_bestFrom_95 : decode cX5_bestFrom 95 = .ok (.iload_n 1, 1) := by decide +kernel
theorem dX5_bestFrom_96 : decode cX5_bestFrom 96 = .ok (.iconst 1, 1) := by decide +kernel
theorem dX5_bestFrom_97 : decode cX5_bestFrom 97 = .ok (.iadd, 1) := by decide +kernel
theorem dX5_bestFrom_98 : decode cX5_bestFrom 98 = .ok (.istore 7, 2) := by decide +kernel
theorem dX5_bestFrom_100 : decode cX5_bestFrom 100 = .ok (.iload 7, 2) := by decide +kernel
theorem dX5_bestFrom_102 : decode cX5_bestFrom 102 = .ok (.iconst 1, 1) := by decide +kernel
theorem dX5_bestFrom_103 : decode cX5_bestFrom 103 = .ok (.aload_n 0, 1) := by decide +kernel
theorem dX5_bestFrom_104 : decode cX5_bestFrom 104 = .ok (.getfield 86, 3) := by decide +kernel
theorem dX5_bestFrom_107 : decode cX5_bestFrom 107 = .ok (.ishl, 1) := by decide +kernel
theorem dX5_bestFrom_108 : decode cX5_bestFrom 108 = .ok (.if_icmp .ge 94, 3) := by decide +kernel
theorem dX5_bestFrom_111 : decode cX5_bestFrom 111 = .ok (.iconst 0, 1) := by decide +kernel
theorem dX5_bestFrom_112 : decode cX5_bestFrom 112 = .ok (.istore 8, 2) := by decide +kernel
theorem dX5_bestFrom_114 : decode cX5_bestFrom 114 = .ok (.iload 8, 2) := by decide +kernel
theorem dX5_bestFrom_116 : decode cX5_bestFrom 116 = .ok (.aload_n 0, 1) := by decide +kernel
theorem dX5_bestFrom_117 : decode cX5_bestFrom 117 = .ok (.getfield 86, 3) := by decide +kernel
theorem dX5_bestFrom_120 : decode cX5_bestFrom 120 = .ok (.if_icmp .ge 76, 3) := by decide +kernel
theorem dX5_bestFrom_123 : decode cX5_bestFrom 123 = .ok (.aload_n 0, 1) := by decide +kernel
theorem dX5_bestFrom_124 : decode cX5_bestFrom 124 = .ok (.getfield 70, 3) := by decide +kernel
theorem dX5_bestFrom_127 : decode cX5_bestFrom 127 = .ok (.bipush 10, 2) := by decide +kernel
theorem dX5_bestFrom_129 : decode cX5_bestFrom 129 = .ok (.iload 7, 2) := by decide +kernel
theorem dX5_bestFrom_131 : decode cX5_bestFrom 131 = .ok (.imul, 1) := by decide +kernel
theorem dX5_bestFrom_132 : decode cX5_bestFrom 132 = .ok (.iload 8, 2) := by decide +kernel
theorem dX5_bestFrom_134 : decode cX5_bestFrom 134 = .ok (.iadd, 1) := by decide +kernel
theorem dX5_bestFrom_135 : decode cX5_bestFrom 135 = .ok (.laload, 1) := by decide +kernel
theorem dX5_bestFrom_136 : decode cX5_bestFrom 136 = .ok (.lstore 9, 2) := by decide +kernel
theorem dX5_bestFrom_138 : decode cX5_bestFrom 138 = .ok (.lload 9, 2) := by decide +kernel
theorem dX5_bestFrom_140 : decode cX5_bestFrom 140 = .ok (.ldc2_w 144, 3) := by decide +kernel
theorem dX5_bestFrom_143 : decode cX5_bestFrom 143 = .ok (.lcmp, 1) := by decide +kernel
theorem dX5_bestFrom_144 : decode cX5_bestFrom 144 = .ok (.ifCond .ge 46, 3) := by decide +kernel
theorem dX5_bestFrom_147 : decode cX5_bestFrom 147 = .ok (.aload_n 0, 1) := by decide +kernel
theorem dX5_bestFrom_148 : decode cX5_bestFrom 148 = .ok (.getfield 73, 3) := by decide +kernel
theorem dX5_bestFrom_151 : decode cX5_bestFrom 151 = .ok (.iload 7, 2) := by decide +kernel
theorem dX5_bestFrom_153 : decode cX5_bestFrom 153 = .ok (.laload, 1) := by decide +kernel
theorem dX5_bestFrom_154 : decode cX5_bestFrom 154 = .ok (.lload 9, 2) := by decide +kernel
theorem dX5_bestFrom_156 : decode cX5_bestFrom 156 = .ok (.lsub, 1) := by decide +kernel
theorem dX5_bestFrom_157 : decode cX5_bestFrom 157 = .ok (.lload 5, 2) := by decide +kernel
theorem dX5_bestFrom_159 : decode cX5_bestFrom 159 = .ok (.lcmp, 1) := by decide +kernel
theorem dX5_bestFrom_160 : decode cX5_bestFrom 160 = .ok (.ifCond .le 16, 3) := by decide +kernel
theorem dX5_bestFrom_163 : decode cX5_bestFrom 163 = .ok (.aload_n 0, 1) := by decide +kernel
theorem dX5_bestFrom_164 : decode cX5_bestFrom 164 = .ok (.getfield 73, 3) := by decide +kernel
theorem dX5_bestFrom_167 : decode cX5_bestFrom 167 = .ok (.iload 7, 2) := by decide +kernel
theorem dX5_bestFrom_169 : decode cX5_bestFrom 169 = .ok (.laload, 1) := by decide +kernel
theorem dX5_bestFrom_170 : decode cX5_bestFrom 170 = .ok (.lload 9, 2) := by decide +kernel
theorem dX5_bestFrom_172 : decode cX5_bestFrom 172 = .ok (.lsub, 1) := by decide +kernel
theorem dX5_bestFrom_173 : decode cX5_bestFrom 173 = .ok (.goto 5, 3) := by decide +kernel
theorem dX5_bestFrom_176 : decode cX5_bestFrom 176 = .ok (.lload 5, 2) := by decide +kernel
theorem dX5_bestFrom_178 : decode cX5_bestFrom 178 = .ok (.lstore 5, 2) := by decide +kernel
theorem dX5_bestFrom_180 : decode cX5_bestFrom 180 = .ok (.aload_n 0, 1) := by decide +kernel
theorem dX5_bestFrom_181 : decode cX5_bestFrom 181 = .ok (.iload 7, 2) := by decide +kernel
theorem dX5_bestFrom_183 : decode cX5_bestFrom 183 = .ok (.iload 8, 2) := by decide +kernel
theorem dX5_bestFrom_185 : decode cX5_bestFrom 185 = .ok (.lload 9, 2) := by decide +kernel
theorem dX5_bestFrom_187 : decode cX5_bestFrom 187 = .ok (.invokevirtual 152, 3) := by decide +kernel
theorem dX5_bestFrom_190 : decode cX5_bestFrom 190 = .ok (.iinc 8 1, 3) := by decide +kernel
theorem dX5_bestFrom_193 : decode cX5_bestFrom 193 = .ok (.goto (-79), 3) := by decide +kernel
theorem dX5_bestFrom_196 : decode cX5_bestFrom 196 = .ok (.iinc 7 1, 3) := by decide +kernel
theorem dX5_bestFrom_199 : decode cX5_bestFrom 199 = .ok (.goto (-99), 3) := by decide +kernel
theorem dX5_bestFrom_202 : decode cX5_bestFrom 202 = .ok (.lload 5, 2) := by decide +kernel
theorem dX5_bestFrom_204 : decode cX5_bestFrom 204 = .ok (.lreturn, 1) := by decide +kernel
theorem dX5_canDo_0 : decode cX5_canDo 0 = .ok (.iload_n 1, 1) := by decide +kernel
theorem dX5_canDo_1 : decode cX5_canDo 1 = .ok (.iload_n 2, 1) := by decide +kernel
theorem dX5_canDo_2 : decode cX5_canDo 2 = .ok (.invokestatic 121, 3) := by decide +kernel
theorem dX5_canDo_5 : decode cX5_canDo 5 = .ok (.ifCond .ne 24, 3) := by decide +kernel
theorem dX5_canDo_8 : decode cX5_canDo 8 = .ok (.aload_n 0, 1) := by decide +kernel
theorem dX5_canDo_9 : decode cX5_canDo 9 = .ok (.getfield 67, 3) := by decide +kernel
theorem dX5_canDo_12 : decode cX5_canDo 12 = .ok (.iload_n 2, 1) := by decide +kernel
theorem dX5_canDo_13 : decode cX5_canDo 13 = .ok (.iaload, 1) := by decide +kernel
theorem dX5_canDo_14 : decode cX5_canDo 14 = .ok (.iload_n 1, 1) := by decide +kernel
theorem dX5_canDo_15 : decode cX5_canDo 15 = .ok (.iand, 1) := by decide +kernel
theorem dX5_canDo_16 : decode cX5_canDo 16 = .ok (.aload_n 0, 1) := by decide +kernel
theorem dX5_canDo_17 : decode cX5_canDo 17 = .ok (.getfield 67, 3) := by decide +kernel
theorem dX5_canDo_20 : decode cX5_canDo 20 = .ok (.iload_n 2, 1) := by decide +kernel
theorem dX5_canDo_21 : decode cX5_canDo 21 = .ok (.iaload, 1) := by decide +kernel
theorem dX5_canDo_22 : decode cX5_canDo 22 = .ok (.if_icmp .ne 7, 3) := by decide +kernel
theorem dX5_canDo_25 : decode cX5_canDo 25 = .ok (.iconst 1, 1) := by decide +kernel
theorem dX5_canDo_26 : decode cX5_canDo 26 = .ok (.goto 4, 3) := by decide +kernel
theorem dX5_canDo_29 : decode cX5_canDo 29 = .ok (.iconst 0, 1) := by decide +kernel
theorem dX5_canDo_30 : decode cX5_canDo 30 = .ok (.ireturn, 1) := by decide +kernel
theorem dX5_stepCost_0 : decode cX5_stepCost 0 = .ok (.aload_n 0, 1) := by decide +kernel
theorem dX5_stepCost_1 : decode cX5_stepCost 1 = .ok (.getfield 19, 3) := by decide +kernel
theorem dX5_stepCost_4 : decode cX5_stepCost 4 = .ok (.iload_n 2, 1) := by decide +kernel
theorem dX5_stepCost_5 : decode cX5_stepCost 5 = .ok (.laload, 1) := by decide +kernel
theorem dX5_stepCost_6 : decode cX5_stepCost 6 = .ok (.lstore_n 3, 1) := by decide +kernel
theorem dX5_stepCost_7 : decode cX5_stepCost 7 = .ok (.iload_n 1, 1) := by decide +kernel
theorem dX5_stepCost_8 : decode cX5_stepCost 8 = .ok (.ifCond .lt 89, 3) := by decide +kernel
theorem dX5_stepCost_11 : decode cX5_stepCost 11 = .ok (.lload_n 3, 1) := by decide +kernel
theorem dX5_stepCost_12 : decode cX5_stepCost 12 = .ok (.aload_n 0, 1) := by decide +kernel
theorem dX5_stepCost_13 : decode cX5_stepCost 13 = .ok (.getfield 13, 3) := by decide +kernel
theorem dX5_stepCost_16 : decode cX5_stepCost 16 = .ok (.iload_n 1, 1) := by decide +kernel
theorem dX5_stepCost_17 : decode cX5_stepCost 17 = .ok (.iaload, 1) := by decide +kernel
theorem dX5_stepCost_18 : decode cX5_stepCost 18 = .ok (.aload_n 0, 1) := by decide +kernel
theorem dX5_stepCost_19 : decode cX5_stepCost 19 = .ok (.getfield 13, 3) := by decide +kernel
theorem dX5_stepCost_22 : decode cX5_stepCost 22 = .ok (.iload_n 2, 1) := by decide +kernel
theorem dX5_stepCost_23 : decode cX5_stepCost 23 = .ok (.iaload, 1) := by decide +kernel
theorem dX5_stepCost_24 : decode cX5_stepCost 24 = .ok (.if_icmp .ne 7, 3) := by decide +kernel
theorem dX5_stepCost_27 : decode cX5_stepCost 27 = .ok (.lconst 0, 1) := by decide +kernel
theorem dX5_stepCost_28 : decode cX5_stepCost 28 = .ok (.goto 24, 3) := by decide +kernel
theorem dX5_stepCost_31 : decode cX5_stepCost 31 = .ok (.aload_n 0, 1) := by decide +kernel
theorem dX5_stepCost_32 : decode cX5_stepCost 32 = .ok (.getfield 30, 3) := by decide +kernel
theorem dX5_stepCost_35 : decode cX5_stepCost 35 = .ok (.bipush 6, 2) := by decide +kernel
theorem dX5_stepCost_37 : decode cX5_stepCost 37 = .ok (.aload_n 0, 1) := by decide +kernel
theorem dX5_stepCost_38 : decode cX5_stepCost 38 = .ok (.getfield 13, 3) := by decide +kernel
theorem dX5_stepCost_41 : decode cX5_stepCost 41 = .ok (.iload_n 1, 1) := by decide +kernel
theorem dX5_stepCost_42 : decode cX5_stepCost 42 = .ok (.iaload, 1) := by decide +kernel
theorem dX5_stepCost_43 : decode cX5_stepCost 43 = .ok (.imul, 1) := by decide +kernel
theorem dX5_stepCost_44 : decode cX5_stepCost 44 = .ok (.aload_n 0, 1) := by decide +kernel
theorem dX5_stepCost_45 : decode cX5_stepCost 45 = .ok (.getfield 13, 3) := by decide +kernel
theorem dX5_stepCost_48 : decode cX5_stepCost 48 = .ok (.iload_n 2, 1) := by decide +kernel
theorem dX5_stepCost_49 : decode cX5_stepCost 49 = .ok (.iaload, 1) := by decide +kernel
theorem dX5_stepCost_50 : decode cX5_stepCost 50 = .ok (.iadd, 1) := by decide +kernel
theorem dX5_stepCost_51 : decode cX5_stepCost 51 = .ok (.laload, 1) := by decide +kernel
theorem dX5_stepCost_52 : decode cX5_stepCost 52 = .ok (.ladd, 1) := by decide +kernel
theorem dX5_stepCost_53 : decode cX5_stepCost 53 = .ok (.lstore_n 3, 1) := by decide +kernel
theorem dX5_stepCost_54 : decode cX5_stepCost 54 = .ok (.lload_n 3, 1) := by decide +kernel
theorem dX5_stepCost_55 : decode cX5_stepCost 55 = .ok (.aload_n 0, 1) := by decide +kernel
theorem dX5_stepCost_56 : decode cX5_stepCost 56 = .ok (.getfield 16, 3) := by decide +kernel
theorem dX5_stepCost_59 : decode cX5_stepCost 59 = .ok (.iload_n 1, 1) := by decide +kernel
theorem dX5_stepCost_60 : decode cX5_stepCost 60 = .ok (.iaload, 1) := by decide +kernel
theorem dX5_stepCost_61 : decode cX5_stepCost 61 = .ok (.aload_n 0, 1) := by decide +kernel
theorem dX5_stepCost_62 : decode cX5_stepCost 62 = .ok (.getfield 16, 3) := by decide +kernel
theorem dX5_stepCost_65 : decode cX5_stepCost 65 = .ok (.iload_n 2, 1) := by decide +kernel
theorem dX5_stepCost_66 : decode cX5_stepCost 66 = .ok (.iaload, 1) := by decide +kernel
theorem dX5_stepCost_67 : decode cX5_stepCost 67 = .ok (.if_icmp .ne 7, 3) := by decide +kernel
theorem dX5_stepCost_70 : decode cX5_stepCost 70 = .ok (.lconst 0, 1) := by decide +kernel
theorem dX5_stepCost_71 : decode cX5_stepCost 71 = .ok (.goto 24, 3) := by decide +kernel
theorem dX5_stepCost_74 : decode cX5_stepCost 74 = .ok (.aload_n 0, 1) := by decide +kernel
theorem dX5_stepCost_75 : decode cX5_stepCost 75 = .ok (.getfield 33, 3) := by decide +kernel
theorem dX5_stepCost_78 : decode cX5_stepCost 78 = .ok (.bipush 6, 2) := by decide +kernel
theorem dX5_stepCost_80 : decode cX5_stepCost 80 = .ok (.aload_n 0, 1) := by decide +kernel
theorem dX5_stepCost_81 : decode cX5_stepCost 81 = .ok (.getfield 16, 3) := by decide +kernel
theorem dX5_stepCost_84 : decode cX5_stepCost 84 = .ok (.iload_n 1, 1) := by decide +kernel
theorem dX5_stepCost_85 : decode cX5_stepCost 85 = .ok (.iaload, 1) := by decide +kernel
theorem dX5_stepCost_86 : decode cX5_stepCost 86 = .ok (.imul, 1) := by decide +kernel
theorem dX5_stepCost_87 : decode cX5_stepCost 87 = .ok (.aload_n 0, 1) := by decide +kernel
theorem dX5_stepCost_88 : decode cX5_stepCost 88 = .ok (.getfield 16, 3) := by decide +kernel
theorem dX5_stepCost_91 : decode cX5_stepCost 91 = .ok (.iload_n 2, 1) := by decide +kernel
theorem dX5_stepCost_92 : decode cX5_stepCost 92 = .ok (.iaload, 1) := by decide +kernel
theorem dX5_stepCost_93 : decode cX5_stepCost 93 = .ok (.iadd, 1) := by decide +kernel
theorem dX5_stepCost_94 : decode cX5_stepCost 94 = .ok (.laload, 1) := by decide +kernel
theorem dX5_stepCost_95 : decode cX5_stepCost 95 = .ok (.ladd, 1) := by decide +kernel
theorem dX5_stepCost_96 : decode cX5_stepCost 96 = .ok (.lstore_n 3, 1) := by decide +kernel
theorem dX5_stepCost_97 : decode cX5_stepCost 97 = .ok (.ldc2_w 130, 3) := by decide +kernel
theorem dX5_stepCost_100 : decode cX5_stepCost 100 = .ok (.lload_n 3, 1) := by decide +kernel
theorem dX5_stepCost_101 : decode cX5_stepCost 101 = .ok (.lmul, 1) := by decide +kernel
theorem dX5_stepCost_102 : decode cX5_stepCost 102 = .ok (.lreturn, 1) := by decide +kernel
theorem dX5_spread_0 : decode cX5_spread 0 = .ok (.iconst 0, 1) := by decide +kernel
theorem dX5_spread_1 : decode cX5_spread 1 = .ok (.istore 5, 2) := by decide +kernel
theorem dX5_spread_3 : decode cX5_spread 3 = .ok (.iload 5, 2) := by decide +kernel
theorem dX5_spread_5 : decode cX5_spread 5 = .ok (.aload_n 0, 1) := by decide +kernel
theorem dX5_spread_6 : decode cX5_spread 6 = .ok (.getfield 86, 3) := by decide +kernel
theorem dX5_spread_9 : decode cX5_spread 9 = .ok (.if_icmp .ge 76, 3) := by decide +kernel
theorem dX5_spread_12 : decode cX5_spread 12 = .ok (.aload_n 0, 1) := by decide +kernel
theorem dX5_spread_13 : decode cX5_spread 13 = .ok (.iload_n 1, 1) := by decide +kernel
theorem dX5_spread_14 : decode cX5_spread 14 = .ok (.iload 5, 2) := by decide +kernel
theorem dX5_spread_16 : decode cX5_spread 16 = .ok (.invokevirtual 146, 3) := by decide +kernel
theorem dX5_spread_19 : decode cX5_spread 19 = .ok (.ifCond .eq 60, 3) := by decide +kernel
theorem dX5_spread_22 : decode cX5_spread 22 = .ok (.bipush 10, 2) := by decide +kernel
theorem dX5_spread_24 : decode cX5_spread 24 = .ok (.iload_n 1, 1) := by decide +kernel
theorem dX5_spread_25 : decode cX5_spread 25 = .ok (.iconst 1, 1) := by decide +kernel
theorem dX5_spread_26 : decode cX5_spread 26 = .ok (.iload 5, 2) := by decide +kernel
theorem dX5_spread_28 : decode cX5_spread 28 = .ok (.ishl, 1) := by decide +kernel
theorem dX5_spread_29 : decode cX5_spread 29 = .ok (.ior, 1) := by decide +kernel
theorem dX5_spread_30 : decode cX5_spread 30 = .ok (.imul, 1) := by decide +kernel
theorem dX5_spread_31 : decode cX5_spread 31 = .ok (.iload 5, 2) := by decide +kernel
theorem dX5_spread_33 : decode cX5_spread 33 = .ok (.iadd, 1) := by decide +kernel
theorem dX5_spread_34 : decode cX5_spread 34 = .ok (.istore 6, 2) := by decide +kernel
theorem dX5_spread_36 : decode cX5_spread 36 = .ok (.lload_n 3, 1) := by decide +kernel
theorem dX5_spread_37 : decode cX5_spread 37 = .ok (.aload_n 0, 1) := by decide +kernel
theorem dX5_spread_38 : decode cX5_spread 38 = .ok (.iload_n 2, 1) := by decide +kernel
theorem dX5_spread_39 : decode cX5_spread 39 = .ok (.iload 5, 2) := by decide +kernel
theorem dX5_spread_41 : decode cX5_spread 41 = .ok (.invokevirtual 149, 3) := by decide +kernel
theorem dX5_spread_44 : decode cX5_spread 44 = .ok (.ladd, 1) := by decide +kernel
theorem dX5_spread_45 : decode cX5_spread 45 = .ok (.lstore 7, 2) := by decide +kernel
theorem dX5_spread_47 : decode cX5_spread 47 = .ok (.aload_n 0, 1) := by decide +kernel
theorem dX5_spread_48 : decode cX5_spread 48 = .ok (.getfield 70, 3) := by decide +kernel
theorem dX5_spread_51 : decode cX5_spread 51 = .ok (.iload 6, 2) := by decide +kernel
theorem dX5_spread_53 : decode cX5_spread 53 = .ok (.lload 7, 2) := by decide +kernel
theorem dX5_spread_55 : decode cX5_spread 55 = .ok (.aload_n 0, 1) := by decide +kernel
theorem dX5_spread_56 : decode cX5_spread 56 = .ok (.getfield 70, 3) := by decide +kernel
theorem dX5_spread_59 : decode cX5_spread 59 = .ok (.iload 6, 2) := by decide +kernel
theorem dX5_spread_61 : decode cX5_spread 61 = .ok (.laload, 1) := by decide +kernel
theorem dX5_spread_62 : decode cX5_spread 62 = .ok (.lcmp, 1) := by decide +kernel
theorem dX5_spread_63 : decode cX5_spread 63 = .ok (.ifCond .ge 8, 3) := by decide +kernel
theorem dX5_spread_66 : decode cX5_spread 66 = .ok (.lload 7, 2) := by decide +kernel
theorem dX5_spread_68 : decode cX5_spread 68 = .ok (.goto 10, 3) := by decide +kernel
theorem dX5_spread_71 : decode cX5_spread 71 = .ok (.aload_n 0, 1) := by decide +kernel
theorem dX5_spread_72 : decode cX5_spread 72 = .ok (.getfield 70, 3) := by decide +kernel
theorem dX5_spread_75 : decode cX5_spread 75 = .ok (.iload 6, 2) := by decide +kernel
theorem dX5_spread_77 : decode cX5_spread 77 = .ok (.laload, 1) := by decide +kernel
theorem dX5_spread_78 : decode cX5_spread 78 = .ok (.lastore, 1) := by decide +kernel
theorem dX5_spread_79 : decode cX5_spread 79 = .ok (.iinc 5 1, 3) := by decide +kernel
theorem dX5_spread_82 : decode cX5_spread 82 = .ok (.goto (-79), 3) := by decide +kernel
theorem dX5_spread_85 : decode cX5_spread 85 = .ok (.return_, 1) := by decide +kernel
theorem dX5_step_0 : decode cX5_step 0 = .ok (.iload_n 1, 1) := by decide +kernel
theorem dX5_step_1 : decode cX5_step 1 = .ok (.ifCond .lt 20, 3) := by decide +kernel
theorem dX5_step_4 : decode cX5_step 4 = .ok (.iload_n 1, 1) := by decide +kernel
theorem dX5_step_5 : decode cX5_step 5 = .ok (.aload_n 0, 1) := by decide +kernel
theorem dX5_step_6 : decode cX5_step 6 = .ok (.getfield 54, 3) := by decide +kernel
theorem dX5_step_9 : decode cX5_step 9 = .ok (.if_icmp .ge 12, 3) := by decide +kernel
theorem dX5_step_12 : decode cX5_step 12 = .ok (.aload_n 0, 1) := by decide +kernel
theorem dX5_step_13 : decode cX5_step 13 = .ok (.getfield 51, 3) := by decide +kernel
theorem dX5_step_16 : decode cX5_step 16 = .ok (.iload_n 1, 1) := by decide +kernel
theorem dX5_step_17 : decode cX5_step 17 = .ok (.iaload, 1) := by decide +kernel
theorem dX5_step_18 : decode cX5_step 18 = .ok (.goto 4, 3) := by decide +kernel
theorem dX5_step_21 : decode cX5_step 21 = .ok (.iconst (-1), 1) := by decide +kernel
theorem dX5_step_22 : decode cX5_step 22 = .ok (.ireturn, 1) := by decide +kernel
theorem dX5_stops_0 : decode cX5_stops 0 = .ok (.iconst 0, 1) := by decide +kernel
theorem dX5_stops_1 : decode cX5_stops 1 = .ok (.istore_n 2, 1) := by decide +kernel
theorem dX5_stops_2 : decode cX5_stops 2 = .ok (.iconst 0, 1) := by decide +kernel
theorem dX5_stops_3 : decode cX5_stops 3 = .ok (.istore_n 3, 1) := by decide +kernel
theorem dX5_stops_4 : decode cX5_stops 4 = .ok (.iload_n 3, 1) := by decide +kernel
theorem dX5_stops_5 : decode cX5_stops 5 = .ok (.bipush 12, 2) := by decide +kernel
theorem dX5_stops_7 : decode cX5_stops 7 = .ok (.if_icmp .ge 37, 3) := by decide +kernel
theorem dX5_stops_10 : decode cX5_stops 10 = .ok (.aload_n 0, 1) := by decide +kernel
theorem dX5_stops_11 : decode cX5_stops 11 = .ok (.getfield 54, 3) := by decide +kernel
theorem dX5_stops_14 : decode cX5_stops 14 = .ok (.ifCond .lt 30, 3) := by decide +kernel
theorem dX5_stops_17 : decode cX5_stops 17 = .ok (.aload_n 0, 1) := by decide +kernel
theorem dX5_stops_18 : decode cX5_stops 18 = .ok (.getfield 171, 3) := by decide +kernel
theorem dX5_stops_21 : decode cX5_stops 21 = .ok (.iload_n 3, 1) := by decide +kernel
theorem dX5_stops_22 : decode cX5_stops 22 = .ok (.invokestatic 121, 3) := by decide +kernel
theorem dX5_stops_25 : decode cX5_stops 25 = .ok (.ifCond .eq 13, 3) := by decide +kernel
theorem dX5_stops_28 : decode cX5_stops 28 = .ok (.iload_n 2, 1) := by decide +kernel
theorem dX5_stops_29 : decode cX5_stops 29 = .ok (.iload_n 1, 1) := by decide +kernel
theorem dX5_stops_30 : decode cX5_stops 30 = .ok (.if_icmp .ne 5, 3) := by decide +kernel
theorem dX5_stops_33 : decode cX5_stops 33 = .ok (.iload_n 3, 1) := by decide +kernel
theorem dX5_stops_34 : decode cX5_stops 34 = .ok (.ireturn, 1) := by decide +kernel
theorem dX5_stops_35 : decode cX5_stops 35 = .ok (.iinc 2 1, 3) := by decide +kernel
theorem dX5_stops_38 : decode cX5_stops 38 = .ok (.iinc 3 1, 3) := by decide +kernel
theorem dX5_stops_41 : decode cX5_stops 41 = .ok (.goto (-37), 3) := by decide +kernel
theorem dX5_stops_44 : decode cX5_stops 44 = .ok (.iconst (-1), 1) := by decide +kernel
theorem dX5_stops_45 : decode cX5_stops 45 = .ok (.ireturn, 1) := by decide +kernel
theorem dX5_other_0 : decode cX5_other 0 = .ok (.iconst 0, 1) := by decide +kernel
theorem dX5_other_1 : decode cX5_other 1 = .ok (.istore_n 2, 1) := by decide +kernel
theorem dX5_other_2 : decode cX5_other 2 = .ok (.iconst 0, 1) := by decide +kernel
theorem dX5_other_3 : decode cX5_other 3 = .ok (.istore_n 3, 1) := by decide +kernel
theorem dX5_other_4 : decode cX5_other 4 = .ok (.iload_n 3, 1) := by decide +kernel
theorem dX5_other_5 : decode cX5_other 5 = .ok (.aload_n 0, 1) := by decide +kernel
theorem dX5_other_6 : decode cX5_other 6 = .ok (.getfield 174, 3) := by decide +kernel
theorem dX5_other_9 : decode cX5_other 9 = .ok (.if_icmp .ge 34, 3) := by decide +kernel
theorem dX5_other_12 : decode cX5_other 12 = .ok (.aload_n 0, 1) := by decide +kernel
theorem dX5_other_13 : decode cX5_other 13 = .ok (.getfield 54, 3) := by decide +kernel
theorem dX5_other_16 : decode cX5_other 16 = .ok (.ifCond .lt 27, 3) := by decide +kernel
theorem dX5_other_19 : decode cX5_other 19 = .ok (.aload_n 0, 1) := by decide +kernel
theorem dX5_other_20 : decode cX5_other 20 = .ok (.iload_n 3, 1) := by decide +kernel
theorem dX5_other_21 : decode cX5_other 21 = .ok (.invokevirtual 177, 3) := by decide +kernel
theorem dX5_other_24 : decode cX5_other 24 = .ok (.ifCond .ne 13, 3) := by decide +kernel
theorem dX5_other_27 : decode cX5_other 27 = .ok (.iload_n 2, 1) := by decide +kernel
theorem dX5_other_28 : decode cX5_other 28 = .ok (.iload_n 1, 1) := by decide +kernel
theorem dX5_other_29 : decode cX5_other 29 = .ok (.if_icmp .ne 5, 3) := by decide +kernel
theorem dX5_other_32 : decode cX5_other 32 = .ok (.iload_n 3, 1) := by decide +kernel
theorem dX5_other_33 : decode cX5_other 33 = .ok (.ireturn, 1) := by decide +kernel
theorem dX5_other_34 : decode cX5_other 34 = .ok (.iinc 2 1, 3) := by decide +kernel
theorem dX5_other_37 : decode cX5_other 37 = .ok (.iinc 3 1, 3) := by decide +kernel
theorem dX5_other_40 : decode cX5_other 40 = .ok (.goto (-36), 3) := by decide +kernel
theorem dX5_other_43 : decode cX5_other 43 = .ok (.iconst (-1), 1) := by decide +kernel
theorem dX5_other_44 : decode cX5_other 44 = .ok (.ireturn, 1) := by decide +kernel
theorem dX5_isInRow_0 : decode cX5_isInRow 0 = .ok (.iconst 0, 1) := by decide +kernel
theorem dX5_isInRow_1 : decode cX5_isInRow 1 = .ok (.istore_n 2, 1) := by decide +kernel
theorem dX5_isInRow_2 : decode cX5_isInRow 2 = .ok (.iconst 0, 1) := by decide +kernel
theorem dX5_isInRow_3 : decode cX5_isInRow 3 = .ok (.istore_n 3, 1) := by decide +kernel
theorem dX5_isInRow_4 : decode cX5_isInRow 4 = .ok (.iload_n 3, 1) := by decide +kernel
theorem dX5_isInRow_5 : decode cX5_isInRow 5 = .ok (.aload_n 0, 1) := by decide +kernel
theorem dX5_isInRow_6 : decode cX5_isInRow 6 = .ok (.getfield 54, 3) := by decide +kernel
theorem dX5_isInRow_9 : decode cX5_isInRow 9 = .ok (.if_icmp .ge 29, 3) := by decide +kernel
theorem dX5_isInRow_12 : decode cX5_isInRow 12 = .ok (.iload_n 2, 1) := by decide +kernel
theorem dX5_isInRow_13 : decode cX5_isInRow 13 = .ok (.ifCond .ne 13, 3) := by decide +kernel
theorem dX5_isInRow_16 : decode cX5_isInRow 16 = .ok (.aload_n 0, 1) := by decide +kernel
theorem dX5_isInRow_17 : decode cX5_isInRow 17 = .ok (.getfield 51, 3) := by decide +kernel
theorem dX5_isInRow_20 : decode cX5_isInRow 20 = .ok (.iload_n 3, 1) := by decide +kernel
theorem dX5_isInRow_21 : decode cX5_isInRow 21 = .ok (.iaload, 1) := by decide +kernel
theorem dX5_isInRow_22 : decode cX5_isInRow 22 = .ok (.iload_n 1, 1) := by decide +kernel
theorem dX5_isInRow_23 : decode cX5_isInRow 23 = .ok (.if_icmp .ne 7, 3) := by decide +kernel
theorem dX5_isInRow_26 : decode cX5_isInRow 26 = .ok (.iconst 1, 1) := by decide +kernel
theorem dX5_isInRow_27 : decode cX5_isInRow 27 = .ok (.goto 4, 3) := by decide +kernel
theorem dX5_isInRow_30 : decode cX5_isInRow 30 = .ok (.iconst 0, 1) := by decide +kernel
theorem dX5_isInRow_31 : decode cX5_isInRow 31 = .ok (.istore_n 2, 1) := by decide +kernel
theorem dX5_isInRow_32 : decode cX5_isInRow 32 = .ok (.iinc 3 1, 3) := by decide +kernel
theorem dX5_isInRow_35 : decode cX5_isInRow 35 = .ok (.goto (-31), 3) := by decide +kernel
theorem dX5_isInRow_38 : decode cX5_isInRow 38 = .ok (.iload_n 2, 1) := by decide +kernel
theorem dX5_isInRow_39 : decode cX5_isInRow 39 = .ok (.ireturn, 1) := by decide +kernel
theorem dX5_gain_0 : decode cX5_gain 0 = .ok (.aload_n 0, 1) := by decide +kernel
theorem dX5_gain_1 : decode cX5_gain 1 = .ok (.getfield 54, 3) := by decide +kernel
theorem dX5_gain_4 : decode cX5_gain 4 = .ok (.ifCond .ge 5, 3) := by decide +kernel
theorem dX5_gain_7 : decode cX5_gain 7 = .ok (.lconst 0, 1) := by decide +kernel
theorem dX5_gain_8 : decode cX5_gain 8 = .ok (.lreturn, 1) := by decide +kernel
theorem dX5_gain_9 : decode cX5_gain 9 = .ok (.iload_n 1, 1) := by decide +kernel
theorem dX5_gain_10 : decode cX5_gain 10 = .ok (.iconst (-1), 1) := by decide +kernel
theorem dX5_gain_11 : decode cX5_gain 11 = .ok (.if_icmp .ne 10, 3) := by decide +kernel
theorem dX5_gain_14 : decode cX5_gain 14 = .ok (.aload_n 0, 1) := by decide +kernel
theorem dX5_gain_15 : decode cX5_gain 15 = .ok (.getfield 167, 3) := by decide +kernel
theorem dX5_gain_18 : decode cX5_gain 18 = .ok (.goto 20, 3) := by decide +kernel
theorem dX5_gain_21 : decode cX5_gain 21 = .ok (.iload_n 1, 1) := by decide +kernel
theorem dX5_gain_22 : decode cX5_gain 22 = .ok (.invokestatic 108, 3) := by decide +kernel
theorem dX5_gain_25 : decode cX5_gain 25 = .ok (.ifCond .eq 12, 3) := by decide +kernel
theorem dX5_gain_28 : decode cX5_gain 28 = .ok (.aload_n 0, 1) := by decide +kernel
theorem dX5_gain_29 : decode cX5_gain 29 = .ok (.getfield 58, 3) := by decide +kernel
theorem dX5_gain_32 : decode cX5_gain 32 = .ok (.iload_n 1, 1) := by decide +kernel
theorem dX5_gain_33 : decode cX5_gain 33 = .ok (.laload, 1) := by decide +kernel
theorem dX5_gain_34 : decode cX5_gain 34 = .ok (.goto 4, 3) := by decide +kernel
theorem dX5_gain_37 : decode cX5_gain 37 = .ok (.lconst 0, 1) := by decide +kernel
theorem dX5_gain_38 : decode cX5_gain 38 = .ok (.lreturn, 1) := by decide +kernel
theorem dX5_proved_0 : decode cX5_proved 0 = .ok (.aload_n 0, 1) := by decide +kernel
theorem dX5_proved_1 : decode cX5_proved 1 = .ok (.getfield 97, 3) := by decide +kernel
theorem dX5_proved_4 : decode cX5_proved 4 = .ok (.ireturn, 1) := by decide +kernel
theorem dX5_bound_0 : decode cX5_bound 0 = .ok (.lconst 0, 1) := by decide +kernel
theorem dX5_bound_1 : decode cX5_bound 1 = .ok (.lstore_n 1, 1) := by decide +kernel
theorem dX5_bound_2 : decode cX5_bound 2 = .ok (.iconst 0, 1) := by decide +kernel
theorem dX5_bound_3 : decode cX5_bound 3 = .ok (.istore_n 3, 1) := by decide +kernel
theorem dX5_bound_4 : decode cX5_bound 4 = .ok (.iload_n 3, 1) := by decide +kernel
theorem dX5_bound_5 : decode cX5_bound 5 = .ok (.bipush 12, 2) := by decide +kernel
theorem dX5_bound_7 : decode cX5_bound 7 = .ok (.if_icmp .ge 53, 3) := by decide +kernel
theorem dX5_bound_10 : decode cX5_bound 10 = .ok (.lload_n 1, 1) := by decide +kernel
theorem dX5_bound_11 : decode cX5_bound 11 = .ok (.aload_n 0, 1) := by decide +kernel
theorem dX5_bound_12 : decode cX5_bound 12 = .ok (.getfield 36, 3) := by decide +kernel
theorem dX5_bound_15 : decode cX5_bound 15 = .ok (.iload_n 3, 1) := by decide +kernel
theorem dX5_bound_16 : decode cX5_bound 16 = .ok (.laload, 1) := by decide +kernel
theorem dX5_bound_17 : decode cX5_bound 17 = .ok (.lconst 0, 1) := by decide +kernel
theorem dX5_bound_18 : decode cX5_bound 18 = .ok (.lcmp, 1) := by decide +kernel
theorem dX5_bound_19 : decode cX5_bound 19 = .ok (.ifCond .le 32, 3) := by decide +kernel
theorem dX5_bound_22 : decode cX5_bound 22 = .ok (.ldc2_w 130, 3) := by decide +kernel
theorem dX5_bound_25 : decode cX5_bound 25 = .ok (.aload_n 0, 1) := by decide +kernel
theorem dX5_bound_26 : decode cX5_bound 26 = .ok (.getfield 36, 3) := by decide +kernel
theorem dX5_bound_29 : decode cX5_bound 29 = .ok (.iload_n 3, 1) := by decide +kernel
theorem dX5_bound_30 : decode cX5_bound 30 = .ok (.laload, 1) := by decide +kernel
theorem dX5_bound_31 : decode cX5_bound 31 = .ok (.lmul, 1) := by decide +kernel
theorem dX5_bound_32 : decode cX5_bound 32 = .ok (.aload_n 0, 1) := by decide +kernel
theorem dX5_bound_33 : decode cX5_bound 33 = .ok (.getfield 42, 3) := by decide +kernel
theorem dX5_bound_36 : decode cX5_bound 36 = .ok (.iload_n 3, 1) := by decide +kernel
theorem dX5_bound_37 : decode cX5_bound 37 = .ok (.iaload, 1) := by decide +kernel
theorem dX5_bound_38 : decode cX5_bound 38 = .ok (.i2l, 1) := by decide +kernel
theorem dX5_bound_39 : decode cX5_bound 39 = .ok (.ldiv, 1) := by decide +kernel
theorem dX5_bound_40 : decode cX5_bound 40 = .ok (.aload_n 0, 1) := by decide +kernel
theorem dX5_bound_41 : decode cX5_bound 41 = .ok (.getfield 39, 3) := by decide +kernel
theorem dX5_bound_44 : decode cX5_bound 44 = .ok (.iload_n 3, 1) := by decide +kernel
theorem dX5_bound_45 : decode cX5_bound 45 = .ok (.iaload, 1) := by decide +kernel
theorem dX5_bound_46 : decode cX5_bound 46 = .ok (.i2l, 1) := by decide +kernel
theorem dX5_bound_47 : decode cX5_bound 47 = .ok (.lmul, 1) := by decide +kernel
theorem dX5_bound_48 : decode cX5_bound 48 = .ok (.goto 4, 3) := by decide +kernel
theorem dX5_bound_51 : decode cX5_bound 51 = .ok (.lconst 0, 1) := by decide +kernel
theorem dX5_bound_52 : decode cX5_bound 52 = .ok (.ladd, 1) := by decide +kernel
theorem dX5_bound_53 : decode cX5_bound 53 = .ok (.lstore_n 1, 1) := by decide +kernel
theorem dX5_bound_54 : decode cX5_bound 54 = .ok (.iinc 3 1, 3) := by decide +kernel
theorem dX5_bound_57 : decode cX5_bound 57 = .ok (.goto (-53), 3) := by decide +kernel
theorem dX5_bound_60 : decode cX5_bound 60 = .ok (.lconst 0, 1) := by decide +kernel
theorem dX5_bound_61 : decode cX5_bound 61 = .ok (.lstore_n 3, 1) := by decide +kernel
theorem dX5_bound_62 : decode cX5_bound 62 = .ok (.iconst 0, 1) := by decide +kernel
theorem dX5_bound_63 : decode cX5_bound 63 = .ok (.istore 5, 2) := by decide +kernel
theorem dX5_bound_65 : decode cX5_bound 65 = .ok (.iload 5, 2) := by decide +kernel
theorem dX5_bound_67 : decode cX5_bound 67 = .ok (.aload_n 0, 1) := by decide +kernel
theorem dX5_bound_68 : decode cX5_bound 68 = .ok (.getfield 116, 3) := by decide +kernel
theorem dX5_bound_71 : decode cX5_bound 71 = .ok (.if_icmp .ge 33, 3) := by decide +kernel
theorem dX5_bound_74 : decode cX5_bound 74 = .ok (.aload_n 0, 1) := by decide +kernel
theorem dX5_bound_75 : decode cX5_bound 75 = .ok (.getfield 48, 3) := by decide +kernel
theorem dX5_bound_78 : decode cX5_bound 78 = .ok (.iload 5, 2) := by decide +kernel
theorem dX5_bound_80 : decode cX5_bound 80 = .ok (.laload, 1) := by decide +kernel
theorem dX5_bound_81 : decode cX5_bound 81 = .ok (.lload_n 3, 1) := by decide +kernel
theorem dX5_bound_82 : decode cX5_bound 82 = .ok (.lcmp, 1) := by decide +kernel
theorem dX5_bound_83 : decode cX5_bound 83 = .ok (.ifCond .le 13, 3) := by decide +kernel
theorem dX5_bound_86 : decode cX5_bound 86 = .ok (.aload_n 0, 1) := by decide +kernel
theorem dX5_bound_87 : decode cX5_bound 87 = .ok (.getfield 48, 3) := by decide +kernel
theorem dX5_bound_90 : decode cX5_bound 90 = .ok (.iload 5, 2) := by decide +kernel
theorem dX5_bound_92 : decode cX5_bound 92 = .ok (.laload, 1) := by decide +kernel
theorem dX5_bound_93 : decode cX5_bound 93 = .ok (.goto 4, 3) := by decide +kernel
theorem dX5_bound_96 : decode cX5_bound 96 = .ok (.lload_n 3, 1) := by decide +kernel
theorem dX5_bound_97 : decode cX5_bound 97 = .ok (.lstore_n 3, 1) := by decide +kernel
theorem dX5_bound_98 : decode cX5_bound 98 = .ok (.iinc 5 1, 3) := by decide +kernel
theorem dX5_bound_101 : decode cX5_bound 101 = .ok (.goto (-36), 3) := by decide +kernel
theorem dX5_bound_104 : decode cX5_bound 104 = .ok (.lload_n 1, 1) := by decide +kernel
theorem dX5_bound_105 : decode cX5_bound 105 = .ok (.ldc2_w 130, 3) := by decide +kernel
theorem dX5_bound_108 : decode cX5_bound 108 = .ok (.lload_n 3, 1) := by decide +kernel
theorem dX5_bound_109 : decode cX5_bound 109 = .ok (.lmul, 1) := by decide +kernel
theorem dX5_bound_110 : decode cX5_bound 110 = .ok (.ladd, 1) := by decide +kernel
theorem dX5_bound_111 : decode cX5_bound 111 = .ok (.lreturn, 1) := by decide +kernel
theorem dX5_test_0 : decode cX5_test 0 = .ok (.iload_n 1, 1) := by decide +kernel
theorem dX5_test_1 : decode cX5_test 1 = .ok (.invokestatic 108, 3) := by decide +kernel
theorem dX5_test_4 : decode cX5_test 4 = .ok (.ifCond .eq 10, 3) := by decide +kernel
theorem dX5_test_7 : decode cX5_test 7 = .ok (.lload_n 2, 1) := by decide +kernel
theorem dX5_test_8 : decode cX5_test 8 = .ok (.invokestatic 93, 3) := by decide +kernel
theorem dX5_test_11 : decode cX5_test 11 = .ok (.ifCond .ne 5, 3) := by decide +kernel
theorem dX5_test_14 : decode cX5_test 14 = .ok (.iconst (-1), 1) := by decide +kernel
theorem dX5_test_15 : decode cX5_test 15 = .ok (.ireturn, 1) := by decide +kernel
theorem dX5_test_16 : decode cX5_test 16 = .ok (.aload_n 0, 1) := by decide +kernel
theorem dX5_test_17 : decode cX5_test 17 = .ok (.iconst (-1), 1) := by decide +kernel
theorem dX5_test_18 : decode cX5_test 18 = .ok (.iconst 0, 1) := by decide +kernel
theorem dX5_test_19 : decode cX5_test 19 = .ok (.invokevirtual 180, 3) := by decide +kernel
theorem dX5_test_22 : decode cX5_test 22 = .ok (.lstore 4, 2) := by decide +kernel
theorem dX5_test_24 : decode cX5_test 24 = .ok (.aload_n 0, 1) := by decide +kernel
theorem dX5_test_25 : decode cX5_test 25 = .ok (.iload_n 1, 1) := by decide +kernel
theorem dX5_test_26 : decode cX5_test 26 = .ok (.iconst 1, 1) := by decide +kernel
theorem dX5_test_27 : decode cX5_test 27 = .ok (.invokevirtual 180, 3) := by decide +kernel
theorem dX5_test_30 : decode cX5_test 30 = .ok (.lstore 6, 2) := by decide +kernel
theorem dX5_test_32 : decode cX5_test 32 = .ok (.aload_n 0, 1) := by decide +kernel
theorem dX5_test_33 : decode cX5_test 33 = .ok (.iload_n 1, 1) := by decide +kernel
theorem dX5_test_34 : decode cX5_test 34 = .ok (.iconst 0, 1) := by decide +kernel
theorem dX5_test_35 : decode cX5_test 35 = .ok (.invokevirtual 180, 3) := by decide +kernel
theorem dX5_test_38 : decode cX5_test 38 = .ok (.lstore 8, 2) := by decide +kernel
theorem dX5_test_40 : decode cX5_test 40 = .ok (.aload_n 0, 1) := by decide +kernel
theorem dX5_test_41 : decode cX5_test 41 = .ok (.getfield 39, 3) := by decide +kernel
theorem dX5_test_44 : decode cX5_test 44 = .ok (.iload_n 1, 1) := by decide +kernel
theorem dX5_test_45 : decode cX5_test 45 = .ok (.iaload, 1) := by decide +kernel
theorem dX5_test_46 : decode cX5_test 46 = .ok (.i2l, 1) := by decide +kernel
theorem dX5_test_47 : decode cX5_test 47 = .ok (.lload 6, 2) := by decide +kernel
theorem dX5_test_49 : decode cX5_test 49 = .ok (.lmul, 1) := by decide +kernel
theorem dX5_test_50 : decode cX5_test 50 = .ok (.aload_n 0, 1) := by decide +kernel
theorem dX5_test_51 : decode cX5_test 51 = .ok (.getfield 42, 3) := by decide +kernel
theorem dX5_test_54 : decode cX5_test 54 = .ok (.iload_n 1, 1) := by decide +kernel
theorem dX5_test_55 : decode cX5_test 55 = .ok (.iaload, 1) := by decide +kernel
theorem dX5_test_56 : decode cX5_test 56 = .ok (.aload_n 0, 1) := by decide +kernel
theorem dX5_test_57 : decode cX5_test 57 = .ok (.getfield 39, 3) := by decide +kernel
theorem dX5_test_60 : decode cX5_test 60 = .ok (.iload_n 1, 1) := by decide +kernel
theorem dX5_test_61 : decode cX5_test 61 = .ok (.iaload, 1) := by decide +kernel
theorem dX5_test_62 : decode cX5_test 62 = .ok (.isub, 1) := by decide +kernel
theorem dX5_test_63 : decode cX5_test 63 = .ok (.i2l, 1) := by decide +kernel
theorem dX5_test_64 : decode cX5_test 64 = .ok (.lload 8, 2) := by decide +kernel
theorem dX5_test_66 : decode cX5_test 66 = .ok (.lmul, 1) := by decide +kernel
theorem dX5_test_67 : decode cX5_test 67 = .ok (.ladd, 1) := by decide +kernel
theorem dX5_test_68 : decode cX5_test 68 = .ok (.aload_n 0, 1) := by decide +kernel
theorem dX5_test_69 : decode cX5_test 69 = .ok (.getfield 42, 3) := by decide +kernel
theorem dX5_test_72 : decode cX5_test 72 = .ok (.iload_n 1, 1) := by decide +kernel
theorem dX5_test_73 : decode cX5_test 73 = .ok (.iaload, 1) := by decide +kernel
theorem dX5_test_74 : decode cX5_test 74 = .ok (.i2l, 1) := by decide +kernel
theorem dX5_test_75 : decode cX5_test 75 = .ok (.ldc2_w 130, 3) := by decide +kernel
theorem dX5_test_78 : decode cX5_test 78 = .ok (.lmul, 1) := by decide +kernel
theorem dX5_test_79 : decode cX5_test 79 = .ok (.lload_n 2, 1) := by decide +kernel
theorem dX5_test_80 : decode cX5_test 80 = .ok (.lmul, 1) := by decide +kernel
theorem dX5_test_81 : decode cX5_test 81 = .ok (.lsub, 1) := by decide +kernel
theorem dX5_test_82 : decode cX5_test 82 = .ok (.lstore 10, 2) := by decide +kernel
theorem dX5_test_84 : decode cX5_test 84 = .ok (.lload 10, 2) := by decide +kernel
theorem dX5_test_86 : decode cX5_test 86 = .ok (.aload_n 0, 1) := by decide +kernel
theorem dX5_test_87 : decode cX5_test 87 = .ok (.getfield 42, 3) := by decide +kernel
theorem dX5_test_90 : decode cX5_test 90 = .ok (.iload_n 1, 1) := by decide +kernel
theorem dX5_test_91 : decode cX5_test 91 = .ok (.iaload, 1) := by decide +kernel
theorem dX5_test_92 : decode cX5_test 92 = .ok (.i2l, 1) := by decide +kernel
theorem dX5_test_93 : decode cX5_test 93 = .ok (.lload 4, 2) := by decide +kernel
theorem dX5_test_95 : decode cX5_test 95 = .ok (.lmul, 1) := by decide +kernel
theorem dX5_test_96 : decode cX5_test 96 = .ok (.lcmp, 1) := by decide +kernel
theorem dX5_test_97 : decode cX5_test 97 = .ok (.ifCond .le 7, 3) := by decide +kernel
theorem dX5_test_100 : decode cX5_test 100 = .ok (.iconst 1, 1) := by decide +kernel
theorem dX5_test_101 : decode cX5_test 101 = .ok (.goto 4, 3) := by decide +kernel
theorem dX5_test_104 : decode cX5_test 104 = .ok (.iconst 0, 1) := by decide +kernel
theorem dX5_test_105 : decode cX5_test 105 = .ok (.ireturn, 1) := by decide +kernel
theorem dX5_bestWith_0 : decode cX5_bestWith 0 = .ok (.aload_n 0, 1) := by decide +kernel
theorem dX5_bestWith_1 : decode cX5_bestWith 1 = .ok (.iload_n 1, 1) := by decide +kernel
theorem dX5_bestWith_2 : decode cX5_bestWith 2 = .ok (.putfield 64, 3) := by decide +kernel
theorem dX5_bestWith_5 : decode cX5_bestWith 5 = .ok (.aload_n 0, 1) := by decide +kernel
theorem dX5_bestWith_6 : decode cX5_bestWith 6 = .ok (.iload_n 2, 1) := by decide +kernel
theorem dX5_bestWith_7 : decode cX5_bestWith 7 = .ok (.putfield 127, 3) := by decide +kernel
theorem dX5_bestWith_10 : decode cX5_bestWith 10 = .ok (.aload_n 0, 1) := by decide +kernel
theorem dX5_bestWith_11 : decode cX5_bestWith 11 = .ok (.invokevirtual 160, 3) := by decide +kernel
theorem dX5_bestWith_14 : decode cX5_bestWith 14 = .ok (.aload_n 0, 1) := by decide +kernel
theorem dX5_bestWith_15 : decode cX5_bestWith 15 = .ok (.iconst 0, 1) := by decide +kernel
theorem dX5_bestWith_16 : decode cX5_bestWith 16 = .ok (.iconst (-1), 1) := by decide +kernel
theorem dX5_bestWith_17 : decode cX5_bestWith 17 = .ok (.lconst 0, 1) := by decide +kernel
theorem dX5_bestWith_18 : decode cX5_bestWith 18 = .ok (.invokevirtual 163, 3) := by decide +kernel
theorem dX5_bestWith_21 : decode cX5_bestWith 21 = .ok (.lstore_n 3, 1) := by decide +kernel
theorem dX5_bestWith_22 : decode cX5_bestWith 22 = .ok (.aload_n 0, 1) := by decide +kernel
theorem dX5_bestWith_23 : decode cX5_bestWith 23 = .ok (.iconst (-1), 1) := by decide +kernel
theorem dX5_bestWith_24 : decode cX5_bestWith 24 = .ok (.putfield 64, 3) := by decide +kernel
theorem dX5_bestWith_27 : decode cX5_bestWith 27 = .ok (.lload_n 3, 1) := by decide +kernel
theorem dX5_bestWith_28 : decode cX5_bestWith 28 = .ok (.lreturn, 1) := by decide +kernel
theorem dX5_stations_0 : decode cX5_stations 0 = .ok (.aload_n 0, 1) := by decide +kernel
theorem dX5_stations_1 : decode cX5_stations 1 = .ok (.getfield 54, 3) := by decide +kernel
theorem dX5_stations_4 : decode cX5_stations 4 = .ok (.ifCond .lt 13, 3) := by decide +kernel
theorem dX5_stations_7 : decode cX5_stations 7 = .ok (.iload_n 1, 1) := by decide +kernel
theorem dX5_stations_8 : decode cX5_stations 8 = .ok (.iconst 1, 1) := by decide +kernel
theorem dX5_stations_9 : decode cX5_stations 9 = .ok (.if_icmp .lt 8, 3) := by decide +kernel
theorem dX5_stations_12 : decode cX5_stations 12 = .ok (.iload_n 1, 1) := by decide +kernel
theorem dX5_stations_13 : decode cX5_stations 13 = .ok (.iconst 4, 1) := by decide +kernel
theorem dX5_stations_14 : decode cX5_stations 14 = .ok (.if_icmp .le 5, 3) := by decide +kernel
theorem dX5_stations_17 : decode cX5_stations 17 = .ok (.iconst (-1), 1) := by decide +kernel
theorem dX5_stations_18 : decode cX5_stations 18 = .ok (.ireturn, 1) := by decide +kernel
theorem dX5_stations_19 : decode cX5_stations 19 = .ok (.iconst 0, 1) := by decide +kernel
theorem dX5_stations_20 : decode cX5_stations 20 = .ok (.istore_n 2, 1) := by decide +kernel
theorem dX5_stations_21 : decode cX5_stations 21 = .ok (.iload_n 2, 1) := by decide +kernel
theorem dX5_stations_22 : decode cX5_stations 22 = .ok (.bipush 10, 2) := by decide +kernel
theorem dX5_stations_24 : decode cX5_stations 24 = .ok (.if_icmp .ge 28, 3) := by decide +kernel
theorem dX5_stations_27 : decode cX5_stations 27 = .ok (.aload_n 0, 1) := by decide +kernel
theorem dX5_stations_28 : decode cX5_stations 28 = .ok (.getfield 76, 3) := by decide +kernel
theorem dX5_stations_31 : decode cX5_stations 31 = .ok (.iload_n 2, 1) := by decide +kernel
theorem dX5_stations_32 : decode cX5_stations 32 = .ok (.aload_n 0, 1) := by decide +kernel
theorem dX5_stations_33 : decode cX5_stations 33 = .ok (.iload_n 2, 1) := by decide +kernel
theorem dX5_stations_34 : decode cX5_stations 34 = .ok (.invokevirtual 177, 3) := by decide +kernel
theorem dX5_stations_37 : decode cX5_stations 37 = .ok (.ifCond .eq 7, 3) := by decide +kernel
theorem dX5_stations_40 : decode cX5_stations 40 = .ok (.iconst 0, 1) := by decide +kernel
theorem dX5_stations_41 : decode cX5_stations 41 = .ok (.goto 4, 3) := by decide +kernel
theorem dX5_stations_44 : decode cX5_stations 44 = .ok (.iconst (-1), 1) := by decide +kernel
theorem dX5_stations_45 : decode cX5_stations 45 = .ok (.iastore, 1) := by decide +kernel
theorem dX5_stations_46 : decode cX5_stations 46 = .ok (.iinc 2 1, 3) := by decide +kernel
theorem dX5_stations_49 : decode cX5_stations 49 = .ok (.goto (-28), 3) := by decide +kernel
theorem dX5_stations_52 : decode cX5_stations 52 = .ok (.iconst 0, 1) := by decide +kernel
theorem dX5_stations_53 : decode cX5_stations 53 = .ok (.istore_n 2, 1) := by decide +kernel
theorem dX5_stations_54 : decode cX5_stations 54 = .ok (.iload_n 2, 1) := by decide +kernel
theorem dX5_stations_55 : decode cX5_stations 55 = .ok (.aload_n 0, 1) := by decide +kernel
theorem dX5_stations_56 : decode cX5_stations 56 = .ok (.getfield 86, 3) := by decide +kernel
theorem dX5_stations_59 : decode cX5_stations 59 = .ok (.if_icmp .ge 42, 3) := by decide +kernel
theorem dX5_stations_62 : decode cX5_stations 62 = .ok (.iconst 0, 1) := by decide +kernel
theorem dX5_stations_63 : decode cX5_stations 63 = .ok (.istore_n 3, 1) := by decide +kernel
theorem dX5_stations_64 : decode cX5_stations 64 = .ok (.iload_n 3, 1) := by decide +kernel
theorem dX5_stations_65 : decode cX5_stations 65 = .ok (.aload_n 0, 1) := by decide +kernel
theorem dX5_stations_66 : decode cX5_stations 66 = .ok (.getfield 86, 3) := by decide +kernel
theorem dX5_stations_69 : decode cX5_stations 69 = .ok (.if_icmp .ge 26, 3) := by decide +kernel
theorem dX5_stations_72 : decode cX5_stations 72 = .ok (.aload_n 0, 1) := by decide +kernel
theorem dX5_stations_73 : decode cX5_stations 73 = .ok (.getfield 79, 3) := by decide +kernel
theorem dX5_stations_76 : decode cX5_stations 76 = .ok (.bipush 10, 2) := by decide +kernel
theorem dX5_stations_78 : decode cX5_stations 78 = .ok (.iload_n 2, 1) := by decide +kernel
theorem dX5_stations_79 : decode cX5_stations 79 = .ok (.imul, 1) := by decide +kernel
theorem dX5_stations_80 : decode cX5_stations 80 = .ok (.iload_n 3, 1) := by decide +kernel
theorem dX5_stations_81 : decode cX5_stations 81 = .ok (.iadd, 1) := by decide +kernel
theorem dX5_stations_82 : decode cX5_stations 82 = .ok (.aload_n 0, 1) := by decide +kernel
theorem dX5_stations_83 : decode cX5_stations 83 = .ok (.iload_n 2, 1) := by decide +kernel
theorem dX5_stations_84 : decode cX5_stations 84 = .ok (.iload_n 3, 1) := by decide +kernel
theorem dX5_stations_85 : decode cX5_stations 85 = .ok (.invokevirtual 104, 3) := by decide +kernel
theorem dX5_stations_88 : decode cX5_stations 88 = .ok (.bastore, 1) := by decide +kernel
theorem dX5_stations_89 : decode cX5_stations 89 = .ok (.iinc 3 1, 3) := by decide +kernel
theorem dX5_stations_92 : decode cX5_stations 92 = .ok (.goto (-28), 3) := by decide +kernel
theorem dX5_stations_95 : decode cX5_stations 95 = .ok (.iinc 2 1, 3) := by decide +kernel
theorem dX5_stations_98 : decode cX5_stations 98 = .ok (.goto (-44), 3) := by decide +kernel
theorem dX5_stations_101 : decode cX5_stations 101 = .ok (.ldc2_w 183, 3) := by decide +kernel
theorem dX5_stations_104 : decode cX5_stations 104 = .ok (.lstore_n 2, 1) := by decide +kernel
theorem dX5_stations_105 : decode cX5_stations 105 = .ok (.iconst 1, 1) := by decide +kernel
theorem dX5_stations_106 : decode cX5_stations 106 = .ok (.istore 4, 2) := by decide +kernel
theorem dX5_stations_108 : decode cX5_stations 108 = .ok (.iload 4, 2) := by decide +kernel
theorem dX5_stations_110 : decode cX5_stations 110 = .ok (.ifCond .eq 93, 3) := by decide +kernel
theorem dX5_stations_113 : decode cX5_stations 113 = .ok (.aload_n 0, 1) := by decide +kernel
theorem dX5_stations_114 : decode cX5_stations 114 = .ok (.aload_n 0, 1) := by decide +kernel
theorem dX5_stations_115 : decode cX5_stations 115 = .ok (.getfield 76, 3) := by decide +kernel
theorem dX5_stations_118 : decode cX5_stations 118 = .ok (.invokevirtual 185, 3) := by decide +kernel
theorem dX5_stations_121 : decode cX5_stations 121 = .ok (.ifCond .eq 14, 3) := by decide +kernel
theorem dX5_stations_124 : decode cX5_stations 124 = .ok (.aload_n 0, 1) := by decide +kernel
theorem dX5_stations_125 : decode cX5_stations 125 = .ok (.aload_n 0, 1) := by decide +kernel
theorem dX5_stations_126 : decode cX5_stations 126 = .ok (.getfield 76, 3) := by decide +kernel
theorem dX5_stations_129 : decode cX5_stations 129 = .ok (.invokevirtual 189, 3) := by decide +kernel
theorem dX5_stations_132 : decode cX5_stations 132 = .ok (.goto 6, 3) := by decide +kernel
theorem dX5_stations_135 : decode cX5_stations 135 = .ok (.ldc2_w 183, 3) := by decide +kernel
theorem dX5_stations_138 : decode cX5_stations 138 = .ok (.lstore 5, 2) := by decide +kernel
theorem dX5_stations_140 : decode cX5_stations 140 = .ok (.lload 5, 2) := by decide +kernel
theorem dX5_stations_142 : decode cX5_stations 142 = .ok (.lconst 0, 1) := by decide +kernel
theorem dX5_stations_143 : decode cX5_stations 143 = .ok (.lcmp, 1) := by decide +kernel
theorem dX5_stations_144 : decode cX5_stations 144 = .ok (.ifCond .lt 49, 3) := by decide +kernel
theorem dX5_stations_147 : decode cX5_stations 147 = .ok (.lload_n 2, 1) := by decide +kernel
theorem dX5_stations_148 : decode cX5_stations 148 = .ok (.lconst 0, 1) := by decide +kernel
theorem dX5_stations_149 : decode cX5_stations 149 = .ok (.lcmp, 1) := by decide +kernel
theorem dX5_stations_150 : decode cX5_stations 150 = .ok (.ifCond .lt 10, 3) := by decide +kernel
theorem dX5_stations_153 : decode cX5_stations 153 = .ok (.lload 5, 2) := by decide +kernel
theorem dX5_stations_155 : decode cX5_stations 155 = .ok (.lload_n 2, 1) := by decide +kernel
theorem dX5_stations_156 : decode cX5_stations 156 = .ok (.lcmp, 1) := by decide +kernel
theorem dX5_stations_157 : decode cX5_stations 157 = .ok (.ifCond .ge 36, 3) := by decide +kernel
theorem dX5_stations_160 : decode cX5_stations 160 = .ok (.lload 5, 2) := by decide +kernel
theorem dX5_stations_162 : decode cX5_stations 162 = .ok (.lstore_n 2, 1) := by decide +kernel
theorem dX5_stations_163 : decode cX5_stations 163 = .ok (.iconst 0, 1) := by decide +kernel
theorem dX5_stations_164 : decode cX5_stations 164 = .ok (.istore 7, 2) := by decide +kernel
theorem dX5_stations_166 : decode cX5_stations 166 = .ok (.iload 7, 2) := by decide +kernel
theorem dX5_stations_168 : decode cX5_stations 168 = .ok (.bipush 10, 2) := by decide +kernel
theorem dX5_stations_170 : decode cX5_stations 170 = .ok (.if_icmp .ge 23, 3) := by decide +kernel
theorem dX5_stations_173 : decode cX5_stations 173 = .ok (.aload_n 0, 1) := by decide +kernel
theorem dX5_stations_174 : decode cX5_stations 174 = .ok (.getfield 61, 3) := by decide +kernel
theorem dX5_stations_177 : decode cX5_stations 177 = .ok (.iload 7, 2) := by decide +kernel
theorem dX5_stations_179 : decode cX5_stations 179 = .ok (.aload_n 0, 1) := by decide +kernel
theorem dX5_stations_180 : decode cX5_stations 180 = .ok (.getfield 76, 3) := by decide +kernel
theorem dX5_stations_183 : decode cX5_stations 183 = .ok (.iload 7, 2) := by decide +kernel
theorem dX5_stations_185 : decode cX5_stations 185 = .ok (.iaload, 1) := by decide +kernel
theorem dX5_stations_186 : decode cX5_stations 186 = .ok (.iastore, 1) := by decide +kernel
theorem dX5_stations_187 : decode cX5_stations 187 = .ok (.iinc 7 1, 3) := by decide +kernel
theorem dX5_stations_190 : decode cX5_stations 190 = .ok (.goto (-24), 3) := by decide +kernel
theorem dX5_stations_193 : decode cX5_stations 193 = .ok (.aload_n 0, 1) := by decide +kernel
theorem dX5_stations_194 : decode cX5_stations 194 = .ok (.iload_n 1, 1) := by decide +kernel
theorem dX5_stations_195 : decode cX5_stations 195 = .ok (.invokevirtual 193, 3) := by decide +kernel
theorem dX5_stations_198 : decode cX5_stations 198 = .ok (.istore 4, 2) := by decide +kernel
theorem dX5_stations_200 : decode cX5_stations 200 = .ok (.goto (-92), 3) := by decide +kernel
theorem dX5_stations_203 : decode cX5_stations 203 = .ok (.aload_n 0, 1) := by decide +kernel
theorem dX5_stations_204 : decode cX5_stations 204 = .ok (.iconst 1, 1) := by decide +kernel
theorem dX5_stations_205 : decode cX5_stations 205 = .ok (.putfield 196, 3) := by decide +kernel
theorem dX5_stations_208 : decode cX5_stations 208 = .ok (.lload_n 2, 1) := by decide +kernel
theorem dX5_stations_209 : decode cX5_stations 209 = .ok (.l2i, 1) := by decide +kernel
theorem dX5_stations_210 : decode cX5_stations 210 = .ok (.ireturn, 1) := by decide +kernel
theorem dX5_keeps_0 : decode cX5_keeps 0 = .ok (.iconst 1, 1) := by decide +kernel
theorem dX5_keeps_1 : decode cX5_keeps 1 = .ok (.istore_n 2, 1) := by decide +kernel
theorem dX5_keeps_2 : decode cX5_keeps 2 = .ok (.iconst 0, 1) := by decide +kernel
theorem dX5_keeps_3 : decode cX5_keeps 3 = .ok (.istore_n 3, 1) := by decide +kernel
theorem dX5_keeps_4 : decode cX5_keeps 4 = .ok (.iload_n 3, 1) := by decide +kernel
theorem dX5_keeps_5 : decode cX5_keeps 5 = .ok (.aload_n 0, 1) := by decide +kernel
theorem dX5_keeps_6 : decode cX5_keeps 6 = .ok (.getfield 86, 3) := by decide +kernel
theorem dX5_keeps_9 : decode cX5_keeps 9 = .ok (.if_icmp .ge 75, 3) := by decide +kernel
theorem dX5_keeps_12 : decode cX5_keeps 12 = .ok (.iconst 0, 1) := by decide +kernel
theorem dX5_keeps_13 : decode cX5_keeps 13 = .ok (.istore 4, 2) := by decide +kernel
theorem dX5_keeps_15 : decode cX5_keeps 15 = .ok (.iload 4, 2) := by decide +kernel
theorem dX5_keeps_17 : decode cX5_keeps 17 = .ok (.aload_n 0, 1) := by decide +kernel
theorem dX5_keeps_18 : decode cX5_keeps 18 = .ok (.getfield 86, 3) := by decide +kernel
theorem dX5_keeps_21 : decode cX5_keeps 21 = .ok (.if_icmp .ge 57, 3) := by decide +kernel
theorem dX5_keeps_24 : decode cX5_keeps 24 = .ok (.iload_n 2, 1) := by decide +kernel
theorem dX5_keeps_25 : decode cX5_keeps 25 = .ok (.ifCond .eq 45, 3) := by decide +kernel
theorem dX5_keeps_28 : decode cX5_keeps 28 = .ok (.aload_n 1, 1) := by decide +kernel
theorem dX5_keeps_29 : decode cX5_keeps 29 = .ok (.iload_n 3, 1) := by decide +kernel
theorem dX5_keeps_30 : decode cX5_keeps 30 = .ok (.iaload, 1) := by decide +kernel
theorem dX5_keeps_31 : decode cX5_keeps 31 = .ok (.ifCond .lt 35, 3) := by decide +kernel
theorem dX5_keeps_34 : decode cX5_keeps 34 = .ok (.aload_n 1, 1) := by decide +kernel
theorem dX5_keeps_35 : decode cX5_keeps 35 = .ok (.iload 4, 2) := by decide +kernel
theorem dX5_keeps_37 : decode cX5_keeps 37 = .ok (.iaload, 1) := by decide +kernel
theorem dX5_keeps_38 : decode cX5_keeps 38 = .ok (.ifCond .lt 28, 3) := by decide +kernel
theorem dX5_keeps_41 : decode cX5_keeps 41 = .ok (.aload_n 0, 1) := by decide +kernel
theorem dX5_keeps_42 : decode cX5_keeps 42 = .ok (.getfield 79, 3) := by decide +kernel
theorem dX5_keeps_45 : decode cX5_keeps 45 = .ok (.bipush 10, 2) := by decide +kernel
theorem dX5_keeps_47 : decode cX5_keeps 47 = .ok (.iload_n 3, 1) := by decide +kernel
theorem dX5_keeps_48 : decode cX5_keeps 48 = .ok (.imul, 1) := by decide +kernel
theorem dX5_keeps_49 : decode cX5_keeps 49 = .ok (.iload 4, 2) := by decide +kernel
theorem dX5_keeps_51 : decode cX5_keeps 51 = .ok (.iadd, 1) := by decide +kernel
theorem dX5_keeps_52 : decode cX5_keeps 52 = .ok (.baload, 1) := by decide +kernel
theorem dX5_keeps_53 : decode cX5_keeps 53 = .ok (.ifCond .eq 13, 3) := by decide +kernel
theorem dX5_keeps_56 : decode cX5_keeps 56 = .ok (.aload_n 1, 1) := by decide +kernel
theorem dX5_keeps_57 : decode cX5_keeps 57 = .ok (.iload 4, 2) := by decide +kernel
theorem dX5_keeps_59 : decode cX5_keeps 59 = .ok (.iaload, 1) := by decide +kernel
theorem dX5_keeps_60 : decode cX5_keeps 60 = .ok (.aload_n 1, 1) := by decide +kernel
theorem dX5_keeps_61 : decode cX5_keeps 61 = .ok (.iload_n 3, 1) := by decide +kernel
theorem dX5_keeps_62 : decode cX5_keeps 62 = .ok (.iaload, 1) := by decide +kernel
theorem dX5_keeps_63 : decode cX5_keeps 63 = .ok (.if_icmp .gt 7, 3) := by decide +kernel
theorem dX5_keeps_66 : decode cX5_keeps 66 = .ok (.iconst 1, 1) := by decide +kernel
theorem dX5_keeps_67 : decode cX5_keeps 67 = .ok (.goto 4, 3) := by decide +kernel
theorem dX5_keeps_70 : decode cX5_keeps 70 = .ok (.iconst 0, 1) := by decide +kernel
theorem dX5_keeps_71 : decode cX5_keeps 71 = .ok (.istore_n 2, 1) := by decide +kernel
theorem dX5_keeps_72 : decode cX5_keeps 72 = .ok (.iinc 4 1, 3) := by decide +kernel
theorem dX5_keeps_75 : decode cX5_keeps 75 = .ok (.goto (-60), 3) := by decide +kernel
theorem dX5_keeps_78 : decode cX5_keeps 78 = .ok (.iinc 3 1, 3) := by decide +kernel
theorem dX5_keeps_81 : decode cX5_keeps 81 = .ok (.goto (-77), 3) := by decide +kernel
theorem dX5_keeps_84 : decode cX5_keeps 84 = .ok (.iload_n 2, 1) := by decide +kernel
theorem dX5_keeps_85 : decode cX5_keeps 85 = .ok (.ireturn, 1) := by decide +kernel
theorem dX5_longestOf_0 : decode cX5_longestOf 0 = .ok (.lconst 0, 1) := by decide +kernel
theorem dX5_longestOf_1 : decode cX5_longestOf 1 = .ok (.lstore_n 2, 1) := by decide +kernel
theorem dX5_longestOf_2 : decode cX5_longestOf 2 = .ok (.iconst 0, 1) := by decide +kernel
theorem dX5_longestOf_3 : decode cX5_longestOf 3 = .ok (.istore 4, 2) := by decide +kernel
theorem dX5_longestOf_5 : decode cX5_longestOf 5 = .ok (.iload 4, 2) := by decide +kernel
theorem dX5_longestOf_7 : decode cX5_longestOf 7 = .ok (.iconst 4, 1) := by decide +kernel
theorem dX5_longestOf_8 : decode cX5_longestOf 8 = .ok (.if_icmp .ge 69, 3) := by decide +kernel
theorem dX5_longestOf_11 : decode cX5_longestOf 11 = .ok (.lconst 0, 1) := by decide +kernel
theorem dX5_longestOf_12 : decode cX5_longestOf 12 = .ok (.lstore 5, 2) := by decide +kernel
theorem dX5_longestOf_14 : decode cX5_longestOf 14 = .ok (.iconst 0, 1) := by decide +kernel
theorem dX5_longestOf_15 : decode cX5_longestOf 15 = .ok (.istore 7, 2) := by decide +kernel
theorem dX5_longestOf_17 : decode cX5_longestOf 17 = .ok (.iload 7, 2) := by decide +kernel
theorem dX5_longestOf_19 : decode cX5_longestOf 19 = .ok (.aload_n 0, 1) := by decide +kernel
theorem dX5_longestOf_20 : decode cX5_longestOf 20 = .ok (.getfield 86, 3) := by decide +kernel
theorem dX5_longestOf_23 : decode cX5_longestOf 23 = .ok (.if_icmp .ge 34, 3) := by decide +kernel
theorem dX5_longestOf_26 : decode cX5_longestOf 26 = .ok (.lload 5, 2) := by decide +kernel
theorem dX5_longestOf_28 : decode cX5_longestOf 28 = .ok (.aload_n 1, 1) := by decide +kernel
theorem dX5_longestOf_29 : decode cX5_longestOf 29 = .ok (.iload 7, 2) := by decide +kernel
theorem dX5_longestOf_31 : decode cX5_longestOf 31 = .ok (.iaload, 1) := by decide +kernel
theorem dX5_longestOf_32 : decode cX5_longestOf 32 = .ok (.iload 4, 2) := by decide +kernel
theorem dX5_longestOf_34 : decode cX5_longestOf 34 = .ok (.if_icmp .ne 13, 3) := by decide +kernel
theorem dX5_longestOf_37 : decode cX5_longestOf 37 = .ok (.aload_n 0, 1) := by decide +kernel
theorem dX5_longestOf_38 : decode cX5_longestOf 38 = .ok (.getfield 19, 3) := by decide +kernel
theorem dX5_longestOf_41 : decode cX5_longestOf 41 = .ok (.iload 7, 2) := by decide +kernel
theorem dX5_longestOf_43 : decode cX5_longestOf 43 = .ok (.laload, 1) := by decide +kernel
theorem dX5_longestOf_44 : decode cX5_longestOf 44 = .ok (.goto 4, 3) := by decide +kernel
theorem dX5_longestOf_47 : decode cX5_longestOf 47 = .ok (.lconst 0, 1) := by decide +kernel
theorem dX5_longestOf_48 : decode cX5_longestOf 48 = .ok (.ladd, 1) := by decide +kernel
theorem dX5_longestOf_49 : decode cX5_longestOf 49 = .ok (.lstore 5, 2) := by decide +kernel
theorem dX5_longestOf_51 : decode cX5_longestOf 51 = .ok (.iinc 7 1, 3) := by decide +kernel
theorem dX5_longestOf_54 : decode cX5_longestOf 54 = .ok (.goto (-37), 3) := by decide +kernel
theorem dX5_longestOf_57 : decode cX5_longestOf 57 = .ok (.lload 5, 2) := by decide +kernel
theorem dX5_longestOf_59 : decode cX5_longestOf 59 = .ok (.lload_n 2, 1) := by decide +kernel
theorem dX5_longestOf_60 : decode cX5_longestOf 60 = .ok (.lcmp, 1) := by decide +kernel
theorem dX5_longestOf_61 : decode cX5_longestOf 61 = .ok (.ifCond .le 8, 3) := by decide +kernel
theorem dX5_longestOf_64 : decode cX5_longestOf 64 = .ok (.lload 5, 2) := by decide +kernel
theorem dX5_longestOf_66 : decode cX5_longestOf 66 = .ok (.goto 4, 3) := by decide +kernel
theorem dX5_longestOf_69 : decode cX5_longestOf 69 = .ok (.lload_n 2, 1) := by decide +kernel
theorem dX5_longestOf_70 : decode cX5_longestOf 70 = .ok (.lstore_n 2, 1) := by decide +kernel
theorem dX5_longestOf_71 : decode cX5_longestOf 71 = .ok (.iinc 4 1, 3) := by decide +kernel
theorem dX5_longestOf_74 : decode cX5_longestOf 74 = .ok (.goto (-69), 3) := by decide +kernel
theorem dX5_longestOf_77 : decode cX5_longestOf 77 = .ok (.lload_n 2, 1) := by decide +kernel
theorem dX5_longestOf_78 : decode cX5_longestOf 78 = .ok (.lreturn, 1) := by decide +kernel
theorem dX5_next_0 : decode cX5_next 0 = .ok (.aload_n 0, 1) := by decide +kernel
theorem dX5_next_1 : decode cX5_next 1 = .ok (.getfield 86, 3) := by decide +kernel
theorem dX5_next_4 : decode cX5_next 4 = .ok (.iconst 1, 1) := by decide +kernel
theorem dX5_next_5 : decode cX5_next 5 = .ok (.isub, 1) := by decide +kernel
theorem dX5_next_6 : decode cX5_next 6 = .ok (.istore_n 2, 1) := by decide +kernel
theorem dX5_next_7 : decode cX5_next 7 = .ok (.iload_n 2, 1) := by decide +kernel
theorem dX5_next_8 : decode cX5_next 8 = .ok (.ifCond .lt 62, 3) := by decide +kernel
theorem dX5_next_11 : decode cX5_next 11 = .ok (.aload_n 0, 1) := by decide +kernel
theorem dX5_next_12 : decode cX5_next 12 = .ok (.getfield 76, 3) := by decide +kernel
theorem dX5_next_15 : decode cX5_next 15 = .ok (.iload_n 2, 1) := by decide +kernel
theorem dX5_next_16 : decode cX5_next 16 = .ok (.iaload, 1) := by decide +kernel
theorem dX5_next_17 : decode cX5_next 17 = .ok (.ifCond .lt 27, 3) := by decide +kernel
theorem dX5_next_20 : decode cX5_next 20 = .ok (.aload_n 0, 1) := by decide +kernel
theorem dX5_next_21 : decode cX5_next 21 = .ok (.getfield 76, 3) := by decide +kernel
theorem dX5_next_24 : decode cX5_next 24 = .ok (.iload_n 2, 1) := by decide +kernel
theorem dX5_next_25 : decode cX5_next 25 = .ok (.iaload, 1) := by decide +kernel
theorem dX5_next_26 : decode cX5_next 26 = .ok (.iload_n 1, 1) := by decide +kernel
theorem dX5_next_27 : decode cX5_next 27 = .ok (.iconst 1, 1) := by decide +kernel
theorem dX5_next_28 : decode cX5_next 28 = .ok (.isub, 1) := by decide +kernel
theorem dX5_next_29 : decode cX5_next 29 = .ok (.if_icmp .ge 15, 3) := by decide +kernel
theorem dX5_next_32 : decode cX5_next 32 = .ok (.aload_n 0, 1) := by decide +kernel
theorem dX5_next_33 : decode cX5_next 33 = .ok (.getfield 76, 3) := by decide +kernel
theorem dX5_next_36 : decode cX5_next 36 = .ok (.iload_n 2, 1) := by decide +kernel
theorem dX5_next_37 : decode cX5_next 37 = .ok (.dup2, 1) := by decide +kernel
theorem dX5_next_38 : decode cX5_next 38 = .ok (.iaload, 1) := by decide +kernel
theorem dX5_next_39 : decode cX5_next 39 = .ok (.iconst 1, 1) := by decide +kernel
theorem dX5_next_40 : decode cX5_next 40 = .ok (.iadd, 1) := by decide +kernel
theorem dX5_next_41 : decode cX5_next 41 = .ok (.iastore, 1) := by decide +kernel
theorem dX5_next_42 : decode cX5_next 42 = .ok (.iconst 1, 1) := by decide +kernel
theorem dX5_next_43 : decode cX5_next 43 = .ok (.ireturn, 1) := by decide +kernel
theorem dX5_next_44 : decode cX5_next 44 = .ok (.aload_n 0, 1) := by decide +kernel
theorem dX5_next_45 : decode cX5_next 45 = .ok (.getfield 76, 3) := by decide +kernel
theorem dX5_next_48 : decode cX5_next 48 = .ok (.iload_n 2, 1) := by decide +kernel
theorem dX5_next_49 : decode cX5_next 49 = .ok (.aload_n 0, 1) := by decide +kernel
theorem dX5_next_50 : decode cX5_next 50 = .ok (.getfield 76, 3) := by decide +kernel
theorem dX5_next_53 : decode cX5_next 53 = .ok (.iload_n 2, 1) := by decide +kernel
theorem dX5_next_54 : decode cX5_next 54 = .ok (.iaload, 1) := by decide +kernel
theorem dX5_next_55 : decode cX5_next 55 = .ok (.ifCond .ge 7, 3) := by decide +kernel
theorem dX5_next_58 : decode cX5_next 58 = .ok (.iconst (-1), 1) := by decide +kernel
theorem dX5_next_59 : decode cX5_next 59 = .ok (.goto 4, 3) := by decide +kernel
theorem dX5_next_62 : decode cX5_next 62 = .ok (.iconst 0, 1) := by decide +kernel
theorem dX5_next_63 : decode cX5_next 63 = .ok (.iastore, 1) := by decide +kernel
theorem dX5_next_64 : decode cX5_next 64 = .ok (.iinc 2 (-1), 3) := by decide +kernel
theorem dX5_next_67 : decode cX5_next 67 = .ok (.goto (-60), 3) := by decide +kernel
theorem dX5_next_70 : decode cX5_next 70 = .ok (.iconst 0, 1) := by decide +kernel
theorem dX5_next_71 : decode cX5_next 71 = .ok (.ireturn, 1) := by decide +kernel
theorem dX5_station_0 : decode cX5_station 0 = .ok (.aload_n 0, 1) := by decide +kernel
theorem dX5_station_1 : decode cX5_station 1 = .ok (.getfield 196, 3) := by decide +kernel
theorem dX5_station_4 : decode cX5_station 4 = .ok (.ifCond .eq 22, 3) := by decide +kernel
theorem dX5_station_7 : decode cX5_station 7 = .ok (.iload_n 1, 1) := by decide +kernel
theorem dX5_station_8 : decode cX5_station 8 = .ok (.ifCond .lt 18, 3) := by decide +kernel
theorem dX5_station_11 : decode cX5_station 11 = .ok (.iload_n 1, 1) := by decide +kernel
theorem dX5_station_12 : decode cX5_station 12 = .ok (.bipush 10, 2) := by decide +kernel
theorem dX5_station_14 : decode cX5_station 14 = .ok (.if_icmp .ge 12, 3) := by decide +kernel
theorem dX5_station_17 : decode cX5_station 17 = .ok (.aload_n 0, 1) := by decide +kernel
theorem dX5_station_18 : decode cX5_station 18 = .ok (.getfield 61, 3) := by decide +kernel
theorem dX5_station_21 : decode cX5_station 21 = .ok (.iload_n 1, 1) := by decide +kernel
theorem dX5_station_22 : decode cX5_station 22 = .ok (.iaload, 1) := by decide +kernel
theorem dX5_station_23 : decode cX5_station 23 = .ok (.goto 4, 3) := by decide +kernel
theorem dX5_station_26 : decode cX5_station 26 = .ok (.iconst (-1), 1) := by decide +kernel
theorem dX5_station_27 : decode cX5_station 27 = .ok (.ireturn, 1) := by decide +kernel
