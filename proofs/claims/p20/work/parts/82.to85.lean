theorem lw_lt6 {L i : Nat} (hL : L ≤ 3072) (hi : i ≤ 3100) : nI L - 6 < nI i ↔ L < i + 6 := by
  have e6 : (6 : Int32).toInt = 6 := by decide +kernel
  have eL : (nI L).toInt = (L : Int) := nI_toInt (by omega)
  have ei : (nI i).toInt = (i : Int) := nI_toInt (by omega)
  have es : (nI L - 6).toInt = (L : Int) - 6 := by
    rw [Int32.toInt_sub, eL, e6]
    exact Int.bmod_eq_of_le (by omega) (by omega)
  rw [Int32.lt_iff_toInt_lt, es, ei]
  omega
set_option maxHeartbeats 4000000 in
set_option maxRecDepth 100000 in
theorem law_loop {p : Program} {l : Launch} {e : Env} {s : State} {m : MethodId} {below : List Frame} {meth : Method} {c : Code} {b L : Nat} {xs : Nat → Int32} (hL : L ≤ 3072) (C0 : lw_At p s m meth c b L xs) {D : va_G} {ad bd : Nat → Nat} {cI cL cZ : ClassId} (hF : lw_Fix s D ad bd cI cL cZ) {cells slots : Nat} (hce : cells ≤ room_1.cells) (hsl : slots ≤ room_1.slots) (hc2 : cells ≤ 600000) (hs2 : slots ≤ 7302250) :
    ∀ (n i : Nat), i ≤ L + 6 → L + 7 ≤ i + 6 * n → ∀ (H : Heap) (locs : List Loc), lw_Inv i s D ad bd cI cL cZ H locs → ∀ (ls : Array Slot), lv_has ls 4 [(0, .ref b), (1, .ref (ad 0)), (2, .ref (bd 0)), (3, .int (nI i))] → W p l e room_1 s m #[Value.ref b] below meth c H locs cells slots (lw_Z below #[Value.ref b] s) (F0 m 18 ls []) := by
  intro n
  induction n with
  | zero =>
    intro i h1 h2
    exact absurd h2 (by omega)
  | succ n ih =>
    intro i h1 h2 H locs hI ls hl
    have C1 := C0
    obtain ⟨hx, hb, hr, hml, hown, hts, hX, hbl, hlocks, hgv⟩ := C1
    have hbA : ¬ (fun q : Nat => s.heap.size ≤ q) b := Nat.not_le.mpr hbl
    have hS : va_S (fun q : Nat => s.heap.size ≤ q) s.heap H locs := by
      obtain ⟨fi, fl, ai, al, gi, gl, bi, bl, na, nr, na2, nr2, hk, hk2, hR, hPc, hPr, hS⟩ := hI
      exact hS
    refine lv_iload_n hx hb dL_law_18 rfl (lv_at hl 3 rfl) ?_
    refine lv_aload_n hx hb dL_law_19 rfl (lv_at hl 0 rfl) ?_
    refine va_slen hx hb hX hbl hbA hS dL_law_20 ?_
    refine lv_bipush (v := 6) hx hb dL_law_21 (by decide) ?_
    refine lv_isub hx hb dL_law_23 ?_
    refine lv_icmp_gt (tgt := 967) hx hb dL_law_24 (by decide) (fun c_24 => ?_) (fun c_24 => ?_)
    · refine lv_iconst (v := 1) hx hb dL_law_967 (by decide) ?_
      refine va_forget (fun q hq => hS.2.2 q hq) ?_
      refine W.widen (k := 600000) (n := 7302250) hc2 hs2 ?_
      exact lw_ret hx hb hr hlocks dL_law_968
    · have hi : i + 6 ≤ L := by
        rcases Nat.lt_or_ge L (i + 6) with y | y
        · exact absurd ((lw_lt6 (Nat.le_trans hL (by decide)) (by omega)).mpr y) c_24
        · exact y
      refine lv_aload_n hx hb dL_law_27 rfl (lv_at hl 0 rfl) ?_
      refine lv_iload_n hx hb dL_law_28 rfl (lv_at hl 3 rfl) ?_
      refine va_sld hx hb hX hbl hbA hS (i := nI i) (vp_in_nI (by omega) (by omega)) dL_law_29 ?_
      refine lv_bipush (v := 31) hx hb dL_law_30 (by decide) ?_
      refine lv_iand hx hb dL_law_32 ?_
      refine lv_topi (fun y ey => ?_)
      have kk : ∀ (H : Heap) (locs : List Loc), lw_Inv (i + 6) s D ad bd cI cL cZ H locs → W p l e room_1 s m #[Value.ref b] below meth c H locs cells slots (lw_Z below #[Value.ref b] s) (F0 m 961 ls []) := by
        intro H locs hI
        refine lv_iinc (v := nI (i + 6)) (lv' := [(3, .int (nI (i + 6))), (0, .ref b), (1, .ref (ad 0)), (2, .ref (bd 0))]) hx hb dL_law_961 hl (k := 3) rfl (nI_add i 6) (by decide) rfl (fun ls hl => ?_)
        refine lv_goto (tgt := 18) hx hb dL_law_964 (by decide) ?_
        exact ih (i + 6) (by omega) (by omega) H locs hI ls (lv_sub hl [1, 2, 3, 0] rfl)
      by_cases c_100 : y.toInt = 0
      · exact lv_tableIn (tgt := 124) hx hb dL_law_33 (by omega) (by omega) (off := 91) (by rw [c_100]; rfl) (by decide) (lc_0 hL C0 hF hi hce hsl hI hl kk)
      by_cases c_101 : y.toInt = 1
      · exact lv_tableIn (tgt := 207) hx hb dL_law_33 (by omega) (by omega) (off := 174) (by rw [c_101]; rfl) (by decide) (lc_1 hL C0 hF hi hce hsl hI hl kk)
      by_cases c_102 : y.toInt = 2
      · exact lv_tableIn (tgt := 240) hx hb dL_law_33 (by omega) (by omega) (off := 207) (by rw [c_102]; rfl) (by decide) (lc_2 hL C0 hF hi hce hsl hI hl kk)
      by_cases c_103 : y.toInt = 3
      · exact lv_tableIn (tgt := 313) hx hb dL_law_33 (by omega) (by omega) (off := 280) (by rw [c_103]; rfl) (by decide) (lc_3 hL C0 hF hi hce hsl hI hl kk)
      by_cases c_104 : y.toInt = 4
      · exact lv_tableIn (tgt := 386) hx hb dL_law_33 (by omega) (by omega) (off := 353) (by rw [c_104]; rfl) (by decide) (lc_4 hL C0 hF hi hce hsl hI hl kk)
      by_cases c_105 : y.toInt = 5
      · exact lv_tableIn (tgt := 449) hx hb dL_law_33 (by omega) (by omega) (off := 416) (by rw [c_105]; rfl) (by decide) (lc_5 hL C0 hF hi hce hsl hI hl kk)
      by_cases c_106 : y.toInt = 6
      · exact lv_tableIn (tgt := 542) hx hb dL_law_33 (by omega) (by omega) (off := 509) (by rw [c_106]; rfl) (by decide) (lc_6 hL C0 hF hi hce hsl hI hl kk)
      by_cases c_107 : y.toInt = 7
      · exact lv_tableIn (tgt := 565) hx hb dL_law_33 (by omega) (by omega) (off := 532) (by rw [c_107]; rfl) (by decide) (lc_7 hL C0 hF hi hce hsl hI hl kk)
      by_cases c_108 : y.toInt = 8
      · exact lv_tableIn (tgt := 668) hx hb dL_law_33 (by omega) (by omega) (off := 635) (by rw [c_108]; rfl) (by decide) (lc_8 hL C0 hF hi hce hsl hI hl kk)
      by_cases c_109 : y.toInt = 9
      · exact lv_tableIn (tgt := 681) hx hb dL_law_33 (by omega) (by omega) (off := 648) (by rw [c_109]; rfl) (by decide) (lc_9 hL C0 hF hi hce hsl hI hl kk)
      by_cases c_110 : y.toInt = 10
      · exact lv_tableIn (tgt := 734) hx hb dL_law_33 (by omega) (by omega) (off := 701) (by rw [c_110]; rfl) (by decide) (lc_10 hL C0 hF hi hce hsl hI hl kk)
      by_cases c_111 : y.toInt = 11
      · exact lv_tableIn (tgt := 757) hx hb dL_law_33 (by omega) (by omega) (off := 724) (by rw [c_111]; rfl) (by decide) (lc_11 hL C0 hF hi hce hsl hI hl kk)
      by_cases c_112 : y.toInt = 12
      · exact lv_tableIn (tgt := 780) hx hb dL_law_33 (by omega) (by omega) (off := 747) (by rw [c_112]; rfl) (by decide) (lc_12 hL C0 hF hi hce hsl hI hl kk)
      by_cases c_113 : y.toInt = 13
      · exact lv_tableIn (tgt := 803) hx hb dL_law_33 (by omega) (by omega) (off := 770) (by rw [c_113]; rfl) (by decide) (lc_13 hL C0 hF hi hce hsl hI hl kk)
      by_cases c_114 : y.toInt = 14
      · exact lv_tableIn (tgt := 826) hx hb dL_law_33 (by omega) (by omega) (off := 793) (by rw [c_114]; rfl) (by decide) (lc_14 hL C0 hF hi hce hsl hI hl kk)
      by_cases c_115 : y.toInt = 15
      · exact lv_tableIn (tgt := 839) hx hb dL_law_33 (by omega) (by omega) (off := 806) (by rw [c_115]; rfl) (by decide) (lc_15 hL C0 hF hi hce hsl hI hl kk)
      by_cases c_116 : y.toInt = 16
      · exact lv_tableIn (tgt := 852) hx hb dL_law_33 (by omega) (by omega) (off := 819) (by rw [c_116]; rfl) (by decide) (lc_16 hL C0 hF hi hce hsl hI hl kk)
      by_cases c_117 : y.toInt = 17
      · exact lv_tableIn (tgt := 915) hx hb dL_law_33 (by omega) (by omega) (off := 882) (by rw [c_117]; rfl) (by decide) (lc_17 hL C0 hF hi hce hsl hI hl kk)
      by_cases c_118 : y.toInt = 18
      · exact lv_tableIn (tgt := 938) hx hb dL_law_33 (by omega) (by omega) (off := 905) (by rw [c_118]; rfl) (by decide) (lc_18 hL C0 hF hi hce hsl hI hl kk)
      exact lv_tableOut (tgt := 961) hx hb dL_law_33 (by omega) (by decide) (kk H locs (lw_Inv_up hI))
theorem lw_nwin : ∀ q ∈ nwL, Cond.methodLinkNest q.1 q.2.1 q.2.2.1 q.2.2.2 ∈ lw_tbl := by decide +kernel
theorem lw_nw {args : Array Value} {s : State} (hts : ∀ w ∈ lw_tbl, w.before args s = true) : am_nw nwL s := fun q hq => va_Nw.of rfl (hts _ (lw_nwin q hq))
theorem lw_arrI {args : Array Value} {s : State} (h : (Cond.arrayClass .int).before args s = true) : ∃ cA, ArrOfT s cA .int ∧ va_RA s cA .int := by
  obtain ⟨c, k, comp, f1, f2, f3⟩ := Cond.arrayClass_spec h
  exact ⟨c, fun N z => ⟨(fun k h => by cases h), k, f2, comp, f3⟩, f1⟩
theorem lw_arrL {args : Array Value} {s : State} (h : (Cond.arrayClass .long).before args s = true) : ∃ cA, ArrOfT s cA .long ∧ va_RA s cA .long := by
  obtain ⟨c, k, comp, f1, f2, f3⟩ := Cond.arrayClass_spec h
  exact ⟨c, fun N z => ⟨(fun k h => by cases h), k, f2, comp, f3⟩, f1⟩
theorem lw_arrZ {args : Array Value} {s : State} (h : (Cond.arrayClass .boolean).before args s = true) : ∃ cA, ArrOfT s cA .boolean ∧ va_RA s cA .boolean := by
  obtain ⟨c, k, comp, f1, f2, f3⟩ := Cond.arrayClass_spec h
  exact ⟨c, fun N z => ⟨(fun k h => by cases h), k, f2, comp, f3⟩, f1⟩
theorem lw_in {C : String} {T : u_T} {N : Nat} (h : ∀ w ∈ u_ws C T N, w ∈ am_big) : ∀ w ∈ u_ws C T N, w ∈ lw_tbl := fun w hw => (am_big_good w (h w hw)).1
theorem lw_pick {wa : va_W} {u : Nat → Nat} {n : Nat} (ha : wa.map Prod.fst = (List.range n).map u) {k : Nat} (hk : k < n) : ∃ q, wa[k]? = some q ∧ q.1 = u k := by
  have h : (wa.map Prod.fst)[k]? = some (u k) := by rw [ha, List.getElem?_map, List.getElem?_range hk]; rfl
  rw [List.getElem?_map] at h
  cases hq : wa[k]? with
  | none => rw [hq] at h; cases h
  | some q => rw [hq] at h; exact ⟨q, rfl, Option.some.inj h⟩
theorem lw_back {wa : va_W} {u : Nat → Nat} {n : Nat} (ha : wa.map Prod.fst = (List.range n).map u) {k : Nat} {q : Nat × va_E} (h : wa[k]? = some q) : ∃ k, k < n ∧ q.1 = u k := by
  have h1 : q.1 ∈ (List.range n).map u := by rw [← ha]; exact List.mem_map_of_mem (List.mem_of_getElem? h)
  obtain ⟨k, hk, e⟩ := List.mem_map.mp h1
  exact ⟨k, List.mem_range.mp hk, e.symm⟩
theorem lw_split {A : Nat → Prop} {wa wb : va_W} {u v : Nat → Nat} (ha : wa.map Prod.fst = (List.range 24).map u) (hb : wb.map Prod.fst = (List.range 22).map v) (hl : wa.length = 24) (hD : va_D A (wa ++ wb)) :
    (∀ q, lw_Ac u q → A q) ∧ (∀ q, lw_Ar v q → A q) ∧ (∀ q, lw_Ac u q → ¬ lw_Ar v q) ∧ va_D (lw_Ac u) wa ∧ va_D (lw_Ar v) wb := by
  have ga : ∀ (k : Nat) (q : Nat × va_E), wa[k]? = some q → (wa ++ wb)[k]? = some q := fun k q h => by rw [List.getElem?_append_left (List.getElem?_eq_some_iff.mp h).1]; exact h
  have gb : ∀ (k : Nat) (q : Nat × va_E), wb[k]? = some q → (wa ++ wb)[24 + k]? = some q := fun k q h => by rw [List.getElem?_append_right (by omega), hl, show 24 + k - 24 = k by omega]; exact h
  refine ⟨?_, ?_, ?_, ⟨?_, ?_⟩, ?_, ?_⟩
  · rintro q ⟨k, hk, rfl⟩
    obtain ⟨x, h1, h2⟩ := lw_pick ha hk
    rw [← h2]; exact hD.2 _ _ (ga k x h1)
  · rintro q ⟨k, hk, rfl⟩
    obtain ⟨x, h1, h2⟩ := lw_pick hb hk
    rw [← h2]; exact hD.2 _ _ (gb k x h1)
  · rintro q ⟨k, hk, rfl⟩ ⟨j, hj, e⟩
    obtain ⟨x, h1, h2⟩ := lw_pick ha hk
    obtain ⟨y, h3, h4⟩ := lw_pick hb hj
    have hkl := (List.getElem?_eq_some_iff.mp h1).1
    have := hD.1 _ _ x y (ga k x h1) (gb j y h3) (by rw [h2, h4]; exact e)
    omega
  · intro i j x y h1 h2 h3
    exact hD.1 i j x y (ga i x h1) (ga j y h2) h3
  · intro k q h
    exact lw_back ha h
  · intro i j x y h1 h2 h3
    have := hD.1 _ _ x y (gb i x h1) (gb j y h2) h3
    omega
  · intro k q h
    exact lw_back hb h
theorem lw_gN {y : MethodName} {b : ByteArray} {mL : Nat} {ret : Option FieldType} (h : Cond.code y b mL ret ∈ am_big) : GoodIn lw_tbl (Cond.code y b mL ret :: am_big) := fun w hw => by
  rcases List.mem_cons.mp hw with rfl | hw
  · exact am_big_good _ h
  · exact am_big_good w hw
theorem ac_K0 : ac_K 0 0 (fun _ => 0) ac_ai0 := ⟨rfl, by omega, rfl, by omega, ⟨0, by omega, rfl⟩, fun a h => by omega, fun a h => by omega⟩
theorem rc_K0 : rc_K 0 0 rc_fi0 (rc_ai0 12) (fun _ _ => 0) := by
  have e0 : (0 : Int64).toInt = 0 := by decide +kernel
  have h1 : ∀ p, p < 12 → (rc_ai0 12) 11 p = 1 := by decide +kernel
  have e1 : (1 : Int32).toInt = 1 := by decide +kernel
  have hf : ∀ (f : Nat → Int32), (∀ p, f p = 0) → ∀ k p, ac_fillI 1 f k p = 0 ∨ ac_fillI 1 f k p = 1 := by
    intro f hf0 k
    induction k with
    | zero => intro p; exact Or.inl (hf0 p)
    | succ k ih =>
      intro p
      rw [ac_fillI]
      by_cases e : p = k
      · exact Or.inr (if_pos e)
      · rw [show upd (ac_fillI 1 f k) k 1 p = ac_fillI 1 f k p from if_neg e]; exact ih p
  refine ⟨⟨rfl, by omega, rfl, by omega, ⟨0, by omega, Or.inr rfl⟩, Or.inl rfl, ⟨0, by omega, rfl⟩⟩, ⟨fun a h => by omega, fun a h => by omega, fun p => ?_, fun p hp => ?_⟩, ⟨fun k => ?_, fun k => ?_, fun k => ?_, fun k => ?_, fun k => ?_⟩⟩
  · show 0 ≤ (ac_fillI 1 (fun _ => 0) 12 p).toInt ∧ (ac_fillI 1 (fun _ => 0) 12 p).toInt ≤ 12
    rcases hf (fun _ => 0) (fun _ => rfl) 12 p with h | h <;> rw [h] <;> decide +kernel
  · rw [h1 p hp, e1]; omega
  all_goals (first | (show rc_cents 0; rw [rc_cents, e0]; omega) | (show rc_wor 0; rw [rc_wor, e0]; omega))
set_option maxHeartbeats 4000000 in
set_option maxRecDepth 100000 in
/-- THE LAW, from its entry -/
theorem whole_start {p : Program} {e : Env} {s : State} {m : MethodId} {below : List Frame} {meth : Method} {c : Code} (l : Launch) {b L : Nat} {xs : Nat → Int32} (hL : L ≤ 3072) (C0 : lw_At p s m meth c b L xs) : W p l e room_1 s m #[Value.ref b] below meth c s.heap [] 0 0 (lw_Z below #[Value.ref b] s) (entryFrame m ([Value.ref b] : List Value).toArray 4) := by
  obtain ⟨hx, hb, hr, hml, hown, hts, hX, hbl, hlocks, hgv⟩ := id C0
  have hown : s.vm.findClass RL = some m.cls := hown
  have hA : ∀ q : Nat, s.heap.size ≤ q → (fun q : Nat => s.heap.size ≤ q) q := fun _ h => h
  obtain ⟨c0, i0, k0⟩ := u_known (C := RX0) (T := TX0) (N := 4) (n := 4) hts (lw_in am_inX0) (lw_ht hts 39 _ rfl)
  obtain ⟨c1, i1, k1⟩ := u_known (C := RX1) (T := TX1) (N := 14) (n := 14) hts (lw_in am_inX1) (lw_ht hts 47 _ rfl)
  obtain ⟨c2, i2, k2⟩ := u_known (C := RX2) (T := TX2) (N := 4) (n := 4) hts (lw_in am_inX2) (lw_ht hts 101 _ rfl)
  obtain ⟨c3, i3, k3⟩ := u_known (C := RX3) (T := TX3) (N := 8) (n := 8) hts (lw_in am_inX3) (lw_ht hts 117 _ rfl)
  obtain ⟨c4, i4, k4⟩ := u_known (C := RX4) (T := TX4) (N := 8) (n := 8) hts (lw_in am_inX4) (lw_ht hts 145 _ rfl)
  obtain ⟨c5, i5, k5⟩ := u_known (C := RX5) (T := TX5) (N := 31) (n := 31) hts (lw_in am_inX5) (lw_ht hts 425 _ rfl)
  obtain ⟨cI, aI⟩ := lw_arrI (lw_ht hts 98 _ rfl)
  obtain ⟨cL, aL⟩ := lw_arrL (lw_ht hts 99 _ rfl)
  obtain ⟨cZ, aZ⟩ := lw_arrZ (lw_ht hts 492 _ rfl)
  obtain ⟨D, hKc⟩ : ∃ (D : va_G), ∀ (k : Nat) (q : vw_C), vwCl[k]? = some q → u_Kn s q.1 q.2.1 q.2.2 (D.1 k) (D.2 k) := by
    refine ⟨(fun k => if k = 0 then c0 else if k = 1 then c1 else if k = 2 then c2 else if k = 3 then c3 else if k = 4 then c4 else c5, fun k => if k = 0 then i0 else if k = 1 then i1 else if k = 2 then i2 else if k = 3 then i3 else if k = 4 then i4 else i5), ?_⟩
    intro k q hq
    match k, hq with
    | 0, hq => cases hq; exact k0
    | 1, hq => cases hq; exact k1
    | 2, hq => cases hq; exact k2
    | 3, hq => cases hq; exact k3
    | 4, hq => cases hq; exact k4
    | 5, hq => cases hq; exact k5
    | k + 6, hq => simp [vwCl] at hq
  have hK3 : va_K D vwCl [(cI, .int), (cL, .long), (cZ, .boolean)] s := ⟨hKc, fun k q h => by
    match k, h with
    | 0, h => cases h; exact aI
    | 1, h => cases h; exact aL
    | 2, h => cases h; exact aZ
    | k + 3, h => simp at h⟩
  have hK2 : va_K D vwCl [(cI, .int), (cL, .long)] s := hK3.sub [0, 1] rfl
  have hN := lw_nw hts
  have hS : va_S (fun q : Nat => s.heap.size ≤ q) s.heap s.heap [] := va_S.rf
  have hP : va_P D vwCl [] s.heap := fun k q h => by simp at h
  have hD : va_D (fun q : Nat => s.heap.size ≤ q) [] := ⟨fun i j p q h => by simp at h, fun k q h => by simp at h⟩
  have hl := lv_entry ([.ref b]) (n := 4) (Nat.le_of_ble_eq_true rfl)
  rw [lg_entry_eq]
  generalize (lg_sl ([.ref b]) ++ List.replicate (4 - (lg_sl ([.ref b])).length) Slot.unset).toArray = ls at hl ⊢
  have hl : lv_has ls 4 [(0, .ref b)] := hl
  refine va_new (ci := 0) (fs := [.null, .null, .null, .null]) (C := RX0) (T := TX0) (N := 4) hx hb hts (lw_in am_inX0) tyX0 tyX0_ok hown (lw_ht hts 38 _ rfl) (lw_ht hts 39 _ rfl) (lw_ht hts 29 _ rfl) hK2 hP hD hS hA rfl (fun j hj => by rcases (show j = 0 ∨ j = 1 ∨ j = 2 ∨ j = 3 by omega) with rfl | rfl | rfl | rfl <;> rfl) (Nat.le_of_ble_eq_true rfl) (Nat.le_of_ble_eq_true rfl) dL_law_0 (fun q0 H hP hD hS => ?_)
  have hP : va_P D vwCl [(q0, .inr (0, [.null, .null, .null, .null]))] H := hP
  have hD : va_D (fun q : Nat => s.heap.size ≤ q) [(q0, .inr (0, [.null, .null, .null, .null]))] := hD
  refine W.widen (k := 1) (n := 4) (by omega) (by omega) ?_
  refine lv_dup hx hb dL_law_3 rfl ?_
  have hPc := hP.sub (ws' := [(q0, .inr (0, [.null, .null, .null, .null]))]) [0] rfl
  have hDc := hD.sub (ws' := [(q0, .inr (0, [.null, .null, .null, .null]))]) [0] (by decide) rfl
  have hFc := va_free (wc := [(q0, .inr (0, [.null, .null, .null, .null]))]) hD hS hA [0] rfl
  refine va_callv (va_runI (As := []) (rest := [.ref q0]) ⟨hx, hb, hml, hown, hts⟩ (c_X0_init l D cI cL q0 H.size) (cwI 0 hts (lw_gN (am_in 42 rfl)) rfl rfl rfl (lw_ht hts 29 _ rfl) (lw_ht hts 40 _ rfl) (lw_ht hts 41 _ rfl) rfl (by decide +kernel) ⟨Nat.le_of_ble_eq_true rfl, Nat.le_of_ble_eq_true rfl⟩) ⟨am_blindC, fun U hU hW => ⟨rfl, by rw [hU], by rw [hU]; exact hPc, va_K.moved hW.alike hK2, am_nw_warm hW hN, hDc.weaken (fun _ _ _ _ => trivial)⟩⟩ rfl rfl hl.1 rfl (lv_room (Nat.le_of_ble_eq_true rfl)) dL_law_4 ⟨Nat.le_of_ble_eq_true rfl, Nat.le_of_ble_eq_true rfl⟩) hS (fun q _ h => hFc q h) hFc (fun u t H1 locs ht9 hvm hw_u hB hz1 hk1 hS => ?_)
  obtain ⟨hP1, hD1⟩ := hB
  rw [ht9] at hP1
  obtain ⟨hP, hD⟩ := va_join (wr := []) (w1 := (ac_w u cI cL (fun _ => 0) (fun _ => 0) ac_ai0 ac_al0)) hP hD [0] [] rfl rfl (by decide) (by decide) hk1 hFc hP1 hD1
  generalize H1 = H at hP hS ⊢
  have hP : va_P D vwCl (ac_w u cI cL (fun _ => 0) (fun _ => 0) ac_ai0 ac_al0) H := hP
  have hD : va_D (fun q : Nat => s.heap.size ≤ q) (ac_w u cI cL (fun _ => 0) (fun _ => 0) ac_ai0 ac_al0) := hD
  refine W.widen (k := 24) (n := 10624) (by omega) (by omega) ?_
  refine lv_astore_n (lv' := [(1, .ref q0), (0, .ref b)]) hx hb dL_law_7 rfl hl (by decide) rfl (fun ls hl => ?_)
  refine va_new (ci := 5) (fs := [.int 0, .null, .null, .null, .null, .null, .null, .null, .null, .null, .null, .null, .null, .null, .int 0, .null, .int 0, .long 0, .null, .int 0, .int 0, .int 0, .null, .int 0, .int 0, .int 0, .null, .null, .null, .null, .null]) (C := RX5) (T := TX5) (N := 31) hx hb hts (lw_in am_inX5) tyX5 tyX5_ok hown (lw_ht hts 424 _ rfl) (lw_ht hts 425 _ rfl) (lw_ht hts 35 _ rfl) hK3 hP hD hS hA rfl (fun j hj => by rcases (show j = 0 ∨ j = 1 ∨ j = 2 ∨ j = 3 ∨ j = 4 ∨ j = 5 ∨ j = 6 ∨ j = 7 ∨ j = 8 ∨ j = 9 ∨ j = 10 ∨ j = 11 ∨ j = 12 ∨ j = 13 ∨ j = 14 ∨ j = 15 ∨ j = 16 ∨ j = 17 ∨ j = 18 ∨ j = 19 ∨ j = 20 ∨ j = 21 ∨ j = 22 ∨ j = 23 ∨ j = 24 ∨ j = 25 ∨ j = 26 ∨ j = 27 ∨ j = 28 ∨ j = 29 ∨ j = 30 by omega) with rfl | rfl | rfl | rfl | rfl | rfl | rfl | rfl | rfl | rfl | rfl | rfl | rfl | rfl | rfl | rfl | rfl | rfl | rfl | rfl | rfl | rfl | rfl | rfl | rfl | rfl | rfl | rfl | rfl | rfl | rfl <;> rfl) (Nat.le_of_ble_eq_true rfl) (Nat.le_of_ble_eq_true rfl) dL_law_8 (fun q1 H hP hD hS => ?_)
  have hP : va_P D vwCl ((ac_w u cI cL (fun _ => 0) (fun _ => 0) ac_ai0 ac_al0) ++ [(q1, .inr (5, [.int 0, .null, .null, .null, .null, .null, .null, .null, .null, .null, .null, .null, .null, .null, .int 0, .null, .int 0, .long 0, .null, .int 0, .int 0, .int 0, .null, .int 0, .int 0, .int 0, .null, .null, .null, .null, .null]))]) H := hP
  have hD : va_D (fun q : Nat => s.heap.size ≤ q) ((ac_w u cI cL (fun _ => 0) (fun _ => 0) ac_ai0 ac_al0) ++ [(q1, .inr (5, [.int 0, .null, .null, .null, .null, .null, .null, .null, .null, .null, .null, .null, .null, .null, .int 0, .null, .int 0, .long 0, .null, .int 0, .int 0, .int 0, .null, .int 0, .int 0, .int 0, .null, .null, .null, .null, .null]))]) := hD
  refine W.widen (k := 25) (n := 10655) (by omega) (by omega) ?_
  refine lv_dup hx hb dL_law_11 rfl ?_
  have hPc := hP.sub (ws' := [(q1, .inr (5, [.int 0, .null, .null, .null, .null, .null, .null, .null, .null, .null, .null, .null, .null, .null, .int 0, .null, .int 0, .long 0, .null, .int 0, .int 0, .int 0, .null, .int 0, .int 0, .int 0, .null, .null, .null, .null, .null]))]) [24] rfl
  have hDc := hD.sub (ws' := [(q1, .inr (5, [.int 0, .null, .null, .null, .null, .null, .null, .null, .null, .null, .null, .null, .null, .null, .int 0, .null, .int 0, .long 0, .null, .int 0, .int 0, .int 0, .null, .int 0, .int 0, .int 0, .null, .null, .null, .null, .null]))]) [24] (by decide) rfl
  have hFc := va_free (wc := [(q1, .inr (5, [.int 0, .null, .null, .null, .null, .null, .null, .null, .null, .null, .null, .null, .null, .null, .int 0, .null, .int 0, .long 0, .null, .int 0, .int 0, .int 0, .null, .int 0, .int 0, .int 0, .null, .null, .null, .null, .null]))]) hD hS hA [24] rfl
  refine va_callv (va_runI (As := []) (rest := [.ref q1]) ⟨hx, hb, hml, hown, hts⟩ (c_X5_init l D cI cL cZ q1 H.size) (cwI 0 hts (lw_gN (am_in 428 rfl)) rfl rfl rfl (lw_ht hts 35 _ rfl) (lw_ht hts 426 _ rfl) (lw_ht hts 427 _ rfl) rfl (by decide +kernel) ⟨Nat.le_of_ble_eq_true rfl, Nat.le_of_ble_eq_true rfl⟩) ⟨am_blindC, fun U hU hW => ⟨rfl, by rw [hU], by rw [hU]; exact hPc, va_K.moved hW.alike hK3, am_nw_warm hW hN, hDc.weaken (fun _ _ _ _ => trivial)⟩⟩ rfl rfl hl.1 rfl (lv_room (Nat.le_of_ble_eq_true rfl)) dL_law_12 ⟨Nat.le_of_ble_eq_true rfl, Nat.le_of_ble_eq_true rfl⟩) hS (fun q _ h => hFc q h) hFc (fun v t H1 locs ht9 hvm hw_v hB hz1 hk1 hS => ?_)
  obtain ⟨hP1, hD1⟩ := hB
  rw [ht9] at hP1
  obtain ⟨hP, hD⟩ := va_join (wr := (ac_w u cI cL (fun _ => 0) (fun _ => 0) ac_ai0 ac_al0)) (w1 := (rm_w v cI cL cZ rc_fi0 (fun _ => 0) (rc_ai0 12) (fun _ _ => 0))) hP hD [24] [0, 1, 2, 3, 4, 5, 6, 7, 8, 9, 10, 11, 12, 13, 14, 15, 16, 17, 18, 19, 20, 21, 22, 23] rfl rfl (by decide) (by decide) hk1 hFc hP1 hD1
  generalize H1 = H at hP hS ⊢
  refine W.widen (k := 46) (n := 22361) (by omega) (by omega) ?_
  refine lv_astore_n (lv' := [(2, .ref q1), (1, .ref q0), (0, .ref b)]) hx hb dL_law_15 rfl hl (by decide) rfl (fun ls hl => ?_)
  refine lv_iconst (v := 0) hx hb dL_law_16 (by decide) ?_
  refine lv_istore_n (lv' := [(3, .int 0), (2, .ref q1), (1, .ref q0), (0, .ref b)]) hx hb dL_law_17 rfl hl (by decide) rfl (fun ls hl => ?_)
  obtain ⟨s1, s2, s3, s4, s5⟩ := lw_split (wa := (ac_w u cI cL (fun _ => 0) (fun _ => 0) ac_ai0 ac_al0)) (wb := (rm_w v cI cL cZ rc_fi0 (fun _ => 0) (rc_ai0 12) (fun _ _ => 0))) (u := u) (v := v) rfl rfl rfl hD
  have hF : lw_Fix s D u v cI cL cZ := ⟨hK2, hK3, hN, fun fi fl ai al => am_D s4 rfl, fun fi fl ai al => am_D s5 rfl, s1, s2, s3⟩
  have hPa : va_P D vwCl (ac_w u cI cL (fun _ => 0) (fun _ => 0) ac_ai0 ac_al0) H := fun k q h => hP k q (by rw [List.getElem?_append_left (List.getElem?_eq_some_iff.mp h).1]; exact h)
  have hPb : va_P D vwCl (rm_w v cI cL cZ rc_fi0 (fun _ => 0) (rc_ai0 12) (fun _ _ => 0)) H := fun k q h => hP (24 + k) q (by rw [List.getElem?_append_right (show 24 ≤ 24 + k by omega)]; rw [show 24 + k - ((ac_w u cI cL (fun _ => 0) (fun _ => 0) ac_ai0 ac_al0)).length = k from Nat.add_sub_cancel_left 24 k]; exact h)
  rw [← hw_u, ← hw_v] at hl
  exact law_loop hL C0 hF (cells := 46) (slots := 22361) (Nat.le_of_ble_eq_true rfl) (Nat.le_of_ble_eq_true rfl) (by omega) (by omega) (L + 7) 0 (by omega) (by omega) H locs ⟨_, _, _, _, _, _, _, _, _, _, _, _, ac_K0, rc_K0, lw_R0, hPa, hPb, hS⟩ ls (lv_sub hl [3, 2, 1, 0] rfl)
