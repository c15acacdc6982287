theorem lw_lt6 {L i : Nat} (hL : L ≤ 3072) (hi : i ≤ 3100) : nI L - 6 < nI i ↔ L < i + 6 := by
  have e6 : (6 : Int32).toInt = 6 := by decide +kernel
  have eL : (nI L).toInt = (L : Int) := nI_toInt (by omega)
  have ei : (nI i).toInt = (i : Int) := nI_toInt (by omega)
  have es : (nI L - 6).toInt = (L : Int) - 6 := by
    rw [Int32.toInt_sub, eL, e6]
    exact Int.bmod_eq_of_le (by omega) (by omega)
  rw [Int32.lt_iff_toInt_lt, es, ei]
  omega
set_option maxHeartbeats 4000000 in
set_option maxRecDepth 100000 in
theorem law_loop {p : Program} {l : Launch} {e : Env} {s : State} {m : MethodId} {below : List Frame} {meth : Method} {c : Code} {b L : Nat} {xs : Nat → Int32} (hL : L ≤ 3072) (C0 : lw_At p s m meth c b L xs) {D : va_G} {ad bd : Nat → Nat} {cI cL cZ : ClassId} (hF : lw_Fix s D ad bd cI cL cZ) {cells slots : Nat} (hce : cells ≤ room_1.cells) (hsl : slots ≤ room_1.slots) (hc2 : cells ≤ 600000) (hs2 : slots ≤ 7302250) :
    ∀ (n i : Nat), i ≤ L + 6 → L + 7 ≤ i + 6 * n → ∀ (H : Heap) (locs : List Loc), lw_Inv i s D ad bd cI cL cZ H locs → ∀ (ls : Array Slot), lv_has ls 4 [(0, .ref b), (1, .ref (ad 0)), (2, .ref (bd 0)), (3, .int (nI i))] → W p l e room_1 s m #[Value.ref b] below meth c H locs cells slots (lw_Z below #[Value.ref b] s) (F0 m 18 ls []) := by
  intro n
  induction n with
  | zero =>
    intro i h1 h2
    exact absurd h2 (by omega)
  | succ n ih =>
    intro i h1 h2 H locs hI ls hl
    have C1 := C0
    obtain ⟨hx, hb, hr, hml, hown, hts, hX, hbl, hlocks, hgv⟩ := C1
    have hbA : ¬ (fun q : Nat => s.heap.size ≤ q) b := Nat.not_le.mpr hbl
    have hS : va_S (fun q : Nat => s.heap.size ≤ q) s.heap H locs := by
      obtain ⟨fi, fl, ai, al, gi, gl, bi, bl, na, nr, na2, nr2, hk, hk2, hR, hPc, hPr, hS⟩ := hI
      exact hS
    refine lv_iload_n hx hb dL_law_18 rfl (lv_at hl 3 rfl) ?_
    refine lv_aload_n hx hb dL_law_19 rfl (lv_at hl 0 rfl) ?_
    refine va_slen hx hb hX hbl hbA hS dL_law_20 ?_
    refine lv_bipush (v := 6) hx hb dL_law_21 (by decide) ?_
    refine lv_isub hx hb dL_law_23 ?_
    refine lv_icmp_gt (tgt := 967) hx hb dL_law_24 (by decide) (fun c_24 => ?_) (fun c_24 => ?_)
    · refine lv_iconst (v := 1) hx hb dL_law_967 (by decide) ?_
      refine va_forget (fun q hq => hS.2.2 q hq) ?_
      refine W.widen (k := 600000) (n := 7302250) hc2 hs2 ?_
      exact lw_ret hx hb hr hlocks dL_law_968
    · have hi : i + 6 ≤ L := by
        rcases Nat.lt_or_ge L (i + 6) with y | y
        · exact absurd ((lw_lt6 (Nat.le_trans hL (by decide)) (by omega)).mpr y) c_24
        · exact y
      refine lv_aload_n hx hb dL_law_27 rfl (lv_at hl 0 rfl) ?_
      refine lv_iload_n hx hb dL_law_28 rfl (lv_at hl 3 rfl) ?_
      refine va_sld hx hb hX hbl hbA hS (i := nI i) (vp_in_nI (by omega) (by omega)) dL_law_29 ?_
      refine lv_bipush (v := 31) hx hb dL_law_30 (by decide) ?_
      refine lv_iand hx hb dL_law_32 ?_
      refine lv_topi (fun y ey => ?_)
      have kk : ∀ (H : Heap) (locs : List Loc), lw_Inv (i + 6) s D ad bd cI cL cZ H locs → W p l e room_1 s m #[Value.ref b] below meth c H locs cells slots (lw_Z below #[Value.ref b] s) (F0 m 961 ls []) := by
        intro H locs hI
        refine lv_iinc (v := nI (i + 6)) (lv' := [(3, .int (nI (i + 6))), (0, .ref b), (1, .ref (ad 0)), (2, .ref (bd 0))]) hx hb dL_law_961 hl (k := 3) rfl (nI_add i 6) (by decide) rfl (fun ls hl => ?_)
        refine lv_goto (tgt := 18) hx hb dL_law_964 (by decide) ?_
        exact ih (i + 6) (by omega) (by omega) H locs hI ls (lv_sub hl [1, 2, 3, 0] rfl)
      by_cases c_100 : y.toInt = 0
      · exact lv_tableIn (tgt := 124) hx hb dL_law_33 (by omega) (by omega) (off := 91) (by rw [c_100]; rfl) (by decide) (lc_0 hL C0 hF hi hce hsl hI hl kk)
      by_cases c_101 : y.toInt = 1
      · exact lv_tableIn (tgt := 207) hx hb dL_law_33 (by omega) (by omega) (off := 174) (by rw [c_101]; rfl) (by decide) (lc_1 hL C0 hF hi hce hsl hI hl kk)
      by_cases c_102 : y.toInt = 2
      · exact lv_tableIn (tgt := 240) hx hb dL_law_33 (by omega) (by omega) (off := 207) (by rw [c_102]; rfl) (by decide) (lc_2 hL C0 hF hi hce hsl hI hl kk)
      by_cases c_103 : y.toInt = 3
      · exact lv_tableIn (tgt := 313) hx hb dL_law_33 (by omega) (by omega) (off := 280) (by rw [c_103]; rfl) (by decide) (lc_3 hL C0 hF hi hce hsl hI hl kk)
      by_cases c_104 : y.toInt = 4
      · exact lv_tableIn (tgt := 386) hx hb dL_law_33 (by omega) (by omega) (off := 353) (by rw [c_104]; rfl) (by decide) (lc_4 hL C0 hF hi hce hsl hI hl kk)
      by_cases c_105 : y.toInt = 5
      · exact lv_tableIn (tgt := 449) hx hb dL_law_33 (by omega) (by omega) (off := 416) (by rw [c_105]; rfl) (by decide) (lc_5 hL C0 hF hi hce hsl hI hl kk)
      by_cases c_106 : y.toInt = 6
      · exact lv_tableIn (tgt := 542) hx hb dL_law_33 (by omega) (by omega) (off := 509) (by rw [c_106]; rfl) (by decide) (lc_6 hL C0 hF hi hce hsl hI hl kk)
      by_cases c_107 : y.toInt = 7
      · exact lv_tableIn (tgt := 565) hx hb dL_law_33 (by omega) (by omega) (off := 532) (by rw [c_107]; rfl) (by decide) (lc_7 hL C0 hF hi hce hsl hI hl kk)
      by_cases c_108 : y.toInt = 8
      · exact lv_tableIn (tgt := 668) hx hb dL_law_33 (by omega) (by omega) (off := 635) (by rw [c_108]; rfl) (by decide) (lc_8 hL C0 hF hi hce hsl hI hl kk)
      by_cases c_109 : y.toInt = 9
      · exact lv_tableIn (tgt := 681) hx hb dL_law_33 (by omega) (by omega) (off := 648) (by rw [c_109]; rfl) (by decide) (lc_9 hL C0 hF hi hce hsl hI hl kk)
      by_cases c_110 : y.toInt = 10
      · exact lv_tableIn (tgt := 734) hx hb dL_law_33 (by omega) (by omega) (off := 701) (by rw [c_110]; rfl) (by decide) (lc_10 hL C0 hF hi hce hsl hI hl kk)
      by_cases c_111 : y.toInt = 11
      · exact lv_tableIn (tgt := 757) hx hb dL_law_33 (by omega) (by omega) (off := 724) (by rw [c_111]; rfl) (by decide) (lc_11 hL C0 hF hi hce hsl hI hl kk)
      by_cases c_112 : y.toInt = 12
      · exact lv_tableIn (tgt := 780) hx hb dL_law_33 (by omega) (by omega) (off := 747) (by rw [c_112]; rfl) (by decide) (lc_12 hL C0 hF hi hce hsl hI hl kk)
      by_cases c_113 : y.toInt = 13
      · exact lv_tableIn (tgt := 803) hx hb dL_law_33 (by omega) (by omega) (off := 770) (by rw [c_113]; rfl) (by decide) (lc_13 hL C0 hF hi hce hsl hI hl kk)
      by_cases c_114 : y.toInt = 14
      · exact lv_tableIn (tgt := 826) hx hb dL_law_33 (by omega) (by omega) (off := 793) (by rw [c_114]; rfl) (by decide) (lc_14 hL C0 hF hi hce hsl hI hl kk)
      by_cases c_115 : y.toInt = 15
      · exact lv_tableIn (tgt := 839) hx hb dL_law_33 (by omega) (by omega) (off := 806) (by rw [c_115]; rfl) (by decide) (lc_15 hL C0 hF hi hce hsl hI hl kk)
      by_cases c_116 : y.toInt = 16
      · exact lv_tableIn (tgt := 852) hx hb dL_law_33 (by omega) (by omega) (off := 819) (by rw [c_116]; rfl) (by decide) (lc_16 hL C0 hF hi hce hsl hI hl kk)
      by_cases c_117 : y.toInt = 17
      · exact lv_tableIn (tgt := 915) hx hb dL_law_33 (by omega) (by omega) (off := 882) (by rw [c_117]; rfl) (by decide) (lc_17 hL C0 hF hi hce hsl hI hl kk)
      by_cases c_118 : y.toInt = 18
      · exact lv_tableIn (tgt := 938) hx hb dL_law_33 (by omega) (by omega) (off := 905) (by rw [c_118]; rfl) (by decide) (lc_18 hL C0 hF hi hce hsl hI hl kk)
      exact lv_tableOut (tgt := 961) hx hb dL_law_33 (by omega) (by decide) (kk H locs (lw_Inv_up hI))
