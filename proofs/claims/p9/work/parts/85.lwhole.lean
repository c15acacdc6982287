set_option maxHeartbeats 4000000 in
set_option maxRecDepth 100000 in
/-- THE LAW, from its entry -/
theorem whole_start {p : Program} {e : Env} {s : State} {m : MethodId} {below : List Frame} {meth : Method} {c : Code} (l : Launch) {b L : Nat} {xs : Nat → Int32} (hL : L ≤ 3072) (C0 : lw_At p s m meth c b L xs) : W p l e room_1 s m #[Value.ref b] below meth c s.heap [] 0 0 (lw_Z below #[Value.ref b] s) (entryFrame m ([Value.ref b] : List Value).toArray 4) := by
  obtain ⟨hx, hb, hr, hml, hown, hts, hX, hbl, hlocks, hgv⟩ := id C0
  have hown : s.vm.findClass RL = some m.cls := hown
  have hA : ∀ q : Nat, s.heap.size ≤ q → (fun q : Nat => s.heap.size ≤ q) q := fun _ h => h
  obtain ⟨c0, i0, k0⟩ := u_known (C := RX0) (T := TX0) (N := 4) (n := 4) hts (lw_in am_inX0) (lw_ht hts 39 _ rfl)
  obtain ⟨c1, i1, k1⟩ := u_known (C := RX1) (T := TX1) (N := 14) (n := 14) hts (lw_in am_inX1) (lw_ht hts 47 _ rfl)
  obtain ⟨c2, i2, k2⟩ := u_known (C := RX2) (T := TX2) (N := 4) (n := 4) hts (lw_in am_inX2) (lw_ht hts 101 _ rfl)
  obtain ⟨c3, i3, k3⟩ := u_known (C := RX3) (T := TX3) (N := 8) (n := 8) hts (lw_in am_inX3) (lw_ht hts 117 _ rfl)
  obtain ⟨c4, i4, k4⟩ := u_known (C := RX4) (T := TX4) (N := 8) (n := 8) hts (lw_in am_inX4) (lw_ht hts 145 _ rfl)
  obtain ⟨c5, i5, k5⟩ := u_known (C := RX5) (T := TX5) (N := 31) (n := 31) hts (lw_in am_inX5) (lw_ht hts 425 _ rfl)
  obtain ⟨cI, aI⟩ := lw_arrI (lw_ht hts 98 _ rfl)
  obtain ⟨cL, aL⟩ := lw_arrL (lw_ht hts 99 _ rfl)
  obtain ⟨cZ, aZ⟩ := lw_arrZ (lw_ht hts 492 _ rfl)
  obtain ⟨D, hKc⟩ : ∃ (D : va_G), ∀ (k : Nat) (q : vw_C), vwCl[k]? = some q → u_Kn s q.1 q.2.1 q.2.2 (D.1 k) (D.2 k) := by
    refine ⟨(fun k => if k = 0 then c0 else if k = 1 then c1 else if k = 2 then c2 else if k = 3 then c3 else if k = 4 then c4 else c5, fun k => if k = 0 then i0 else if k = 1 then i1 else if k = 2 then i2 else if k = 3 then i3 else if k = 4 then i4 else i5), ?_⟩
    intro k q hq
    match k, hq with
    | 0, hq => cases hq; exact k0
    | 1, hq => cases hq; exact k1
    | 2, hq => cases hq; exact k2
    | 3, hq => cases hq; exact k3
    | 4, hq => cases hq; exact k4
    | 5, hq => cases hq; exact k5
    | k + 6, hq => simp [vwCl] at hq
  have hK3 : va_K D vwCl [(cI, .int), (cL, .long), (cZ, .boolean)] s := ⟨hKc, fun k q h => by
    match k, h with
    | 0, h => cases h; exact aI
    | 1, h => cases h; exact aL
    | 2, h => cases h; exact aZ
    | k + 3, h => simp at h⟩
  have hK2 : va_K D vwCl [(cI, .int), (cL, .long)] s := hK3.sub [0, 1] rfl
  have hN := lw_nw hts
  have hS : va_S (fun q : Nat => s.heap.size ≤ q) s.heap s.heap [] := va_S.rf
  have hP : va_P D vwCl [] s.heap := fun k q h => by simp at h
  have hD : va_D (fun q : Nat => s.heap.size ≤ q) [] := ⟨fun i j p q h => by simp at h, fun k q h => by simp at h⟩
  have hl := lv_entry ([.ref b]) (n := 4) (Nat.le_of_ble_eq_true rfl)
  rw [lg_entry_eq]
  generalize (lg_sl ([.ref b]) ++ List.replicate (4 - (lg_sl ([.ref b])).length) Slot.unset).toArray = ls at hl ⊢
  have hl : lv_has ls 4 [(0, .ref b)] := hl
  refine va_new (ci := 0) (fs := [.null, .null, .null, .null]) (C := RX0) (T := TX0) (N := 4) hx hb hts (lw_in am_inX0) tyX0 tyX0_ok hown (lw_ht hts 38 _ rfl) (lw_ht hts 39 _ rfl) (lw_ht hts 29 _ rfl) hK2 hP hD hS hA rfl (fun j hj => by rcases (show j = 0 ∨ j = 1 ∨ j = 2 ∨ j = 3 by omega) with rfl | rfl | rfl | rfl <;> rfl) (Nat.le_of_ble_eq_true rfl) (Nat.le_of_ble_eq_true rfl) dL_law_0 (fun q0 H hP hD hS => ?_)
  have hP : va_P D vwCl [(q0, .inr (0, [.null, .null, .null, .null]))] H := hP
  have hD : va_D (fun q : Nat => s.heap.size ≤ q) [(q0, .inr (0, [.null, .null, .null, .null]))] := hD
  refine W.widen (k := 1) (n := 4) (by omega) (by omega) ?_
  refine lv_dup hx hb dL_law_3 rfl ?_
  have hPc := hP.sub (ws' := [(q0, .inr (0, [.null, .null, .null, .null]))]) [0] rfl
  have hDc := hD.sub (ws' := [(q0, .inr (0, [.null, .null, .null, .null]))]) [0] (by decide) rfl
  have hFc := va_free (wc := [(q0, .inr (0, [.null, .null, .null, .null]))]) hD hS hA [0] rfl
  refine va_callv (va_runI (As := []) (rest := [.ref q0]) ⟨hx, hb, hml, hown, hts⟩ (c_X0_init l D cI cL q0 H.size) (cwI 0 hts (lw_gN (am_in 42 rfl)) rfl rfl rfl (lw_ht hts 29 _ rfl) (lw_ht hts 40 _ rfl) (lw_ht hts 41 _ rfl) rfl (by decide +kernel) ⟨Nat.le_of_ble_eq_true rfl, Nat.le_of_ble_eq_true rfl⟩) ⟨am_blindC, fun U hU hW => ⟨rfl, by rw [hU], by rw [hU]; exact hPc, va_K.moved hW.alike hK2, am_nw_warm hW hN, hDc.weaken (fun _ _ _ _ => trivial)⟩⟩ rfl rfl hl.1 rfl (lv_room (Nat.le_of_ble_eq_true rfl)) dL_law_4 ⟨Nat.le_of_ble_eq_true rfl, Nat.le_of_ble_eq_true rfl⟩) hS (fun q _ h => hFc q h) hFc (fun u t H1 locs ht9 hvm hw_u hB hz1 hk1 hS => ?_)
  obtain ⟨hP1, hD1⟩ := hB
  rw [ht9] at hP1
  obtain ⟨hP, hD⟩ := va_join (wr := []) (w1 := (ac_w u cI cL (fun _ => 0) (fun _ => 0) ac_ai0 ac_al0)) hP hD [0] [] rfl rfl (by decide) (by decide) hk1 hFc hP1 hD1
  generalize H1 = H at hP hS ⊢
  have hP : va_P D vwCl (ac_w u cI cL (fun _ => 0) (fun _ => 0) ac_ai0 ac_al0) H := hP
  have hD : va_D (fun q : Nat => s.heap.size ≤ q) (ac_w u cI cL (fun _ => 0) (fun _ => 0) ac_ai0 ac_al0) := hD
  refine W.widen (k := 24) (n := 10624) (by omega) (by omega) ?_
  refine lv_astore_n (lv' := [(1, .ref q0), (0, .ref b)]) hx hb dL_law_7 rfl hl (by decide) rfl (fun ls hl => ?_)
  refine va_new (ci := 5) (fs := [.int 0, .null, .null, .null, .null, .null, .null, .null, .null, .null, .null, .null, .null, .null, .int 0, .null, .int 0, .long 0, .null, .int 0, .int 0, .int 0, .null, .int 0, .int 0, .int 0, .null, .null, .null, .null, .null]) (C := RX5) (T := TX5) (N := 31) hx hb hts (lw_in am_inX5) tyX5 tyX5_ok hown (lw_ht hts 424 _ rfl) (lw_ht hts 425 _ rfl) (lw_ht hts 35 _ rfl) hK3 hP hD hS hA rfl (fun j hj => by rcases (show j = 0 ∨ j = 1 ∨ j = 2 ∨ j = 3 ∨ j = 4 ∨ j = 5 ∨ j = 6 ∨ j = 7 ∨ j = 8 ∨ j = 9 ∨ j = 10 ∨ j = 11 ∨ j = 12 ∨ j = 13 ∨ j = 14 ∨ j = 15 ∨ j = 16 ∨ j = 17 ∨ j = 18 ∨ j = 19 ∨ j = 20 ∨ j = 21 ∨ j = 22 ∨ j = 23 ∨ j = 24 ∨ j = 25 ∨ j = 26 ∨ j = 27 ∨ j = 28 ∨ j = 29 ∨ j = 30 by omega) with rfl | rfl | rfl | rfl | rfl | rfl | rfl | rfl | rfl | rfl | rfl | rfl | rfl | rfl | rfl | rfl | rfl | rfl | rfl | rfl | rfl | rfl | rfl | rfl | rfl | rfl | rfl | rfl | rfl | rfl | rfl <;> rfl) (Nat.le_of_ble_eq_true rfl) (Nat.le_of_ble_eq_true rfl) dL_law_8 (fun q1 H hP hD hS => ?_)
  have hP : va_P D vwCl ((ac_w u cI cL (fun _ => 0) (fun _ => 0) ac_ai0 ac_al0) ++ [(q1, .inr (5, [.int 0, .null, .null, .null, .null, .null, .null, .null, .null, .null, .null, .null, .null, .null, .int 0, .null, .int 0, .long 0, .null, .int 0, .int 0, .int 0, .null, .int 0, .int 0, .int 0, .null, .null, .null, .null, .null]))]) H := hP
  have hD : va_D (fun q : Nat => s.heap.size ≤ q) ((ac_w u cI cL (fun _ => 0) (fun _ => 0) ac_ai0 ac_al0) ++ [(q1, .inr (5, [.int 0, .null, .null, .null, .null, .null, .null, .null, .null, .null, .null, .null, .null, .null, .int 0, .null, .int 0, .long 0, .null, .int 0, .int 0, .int 0, .null, .int 0, .int 0, .int 0, .null, .null, .null, .null, .null]))]) := hD
  refine W.widen (k := 25) (n := 10655) (by omega) (by omega) ?_
  refine lv_dup hx hb dL_law_11 rfl ?_
  have hPc := hP.sub (ws' := [(q1, .inr (5, [.int 0, .null, .null, .null, .null, .null, .null, .null, .null, .null, .null, .null, .null, .null, .int 0, .null, .int 0, .long 0, .null, .int 0, .int 0, .int 0, .null, .int 0, .int 0, .int 0, .null, .null, .null, .null, .null]))]) [24] rfl
  have hDc := hD.sub (ws' := [(q1, .inr (5, [.int 0, .null, .null, .null, .null, .null, .null, .null, .null, .null, .null, .null, .null, .null, .int 0, .null, .int 0, .long 0, .null, .int 0, .int 0, .int 0, .null, .int 0, .int 0, .int 0, .null, .null, .null, .null, .null]))]) [24] (by decide) rfl
  have hFc := va_free (wc := [(q1, .inr (5, [.int 0, .null, .null, .null, .null, .null, .null, .null, .null, .null, .null, .null, .null, .null, .int 0, .null, .int 0, .long 0, .null, .int 0, .int 0, .int 0, .null, .int 0, .int 0, .int 0, .null, .null, .null, .null, .null]))]) hD hS hA [24] rfl
  refine va_callv (va_runI (As := []) (rest := [.ref q1]) ⟨hx, hb, hml, hown, hts⟩ (c_X5_init l D cI cL cZ q1 H.size) (cwI 0 hts (lw_gN (am_in 428 rfl)) rfl rfl rfl (lw_ht hts 35 _ rfl) (lw_ht hts 426 _ rfl) (lw_ht hts 427 _ rfl) rfl (by decide +kernel) ⟨Nat.le_of_ble_eq_true rfl, Nat.le_of_ble_eq_true rfl⟩) ⟨am_blindC, fun U hU hW => ⟨rfl, by rw [hU], by rw [hU]; exact hPc, va_K.moved hW.alike hK3, am_nw_warm hW hN, hDc.weaken (fun _ _ _ _ => trivial)⟩⟩ rfl rfl hl.1 rfl (lv_room (Nat.le_of_ble_eq_true rfl)) dL_law_12 ⟨Nat.le_of_ble_eq_true rfl, Nat.le_of_ble_eq_true rfl⟩) hS (fun q _ h => hFc q h) hFc (fun v t H1 locs ht9 hvm hw_v hB hz1 hk1 hS => ?_)
  obtain ⟨hP1, hD1⟩ := hB
  rw [ht9] at hP1
  obtain ⟨hP, hD⟩ := va_join (wr := (ac_w u cI cL (fun _ => 0) (fun _ => 0) ac_ai0 ac_al0)) (w1 := (rm_w v cI cL cZ rc_fi0 (fun _ => 0) (rc_ai0 12) (fun _ _ => 0))) hP hD [24] [0, 1, 2, 3, 4, 5, 6, 7, 8, 9, 10, 11, 12, 13, 14, 15, 16, 17, 18, 19, 20, 21, 22, 23] rfl rfl (by decide) (by decide) hk1 hFc hP1 hD1
  generalize H1 = H at hP hS ⊢
  refine W.widen (k := 46) (n := 22361) (by omega) (by omega) ?_
  refine lv_astore_n (lv' := [(2, .ref q1), (1, .ref q0), (0, .ref b)]) hx hb dL_law_15 rfl hl (by decide) rfl (fun ls hl => ?_)
  refine lv_iconst (v := 0) hx hb dL_law_16 (by decide) ?_
  refine lv_istore_n (lv' := [(3, .int 0), (2, .ref q1), (1, .ref q0), (0, .ref b)]) hx hb dL_law_17 rfl hl (by decide) rfl (fun ls hl => ?_)
  obtain ⟨s1, s2, s3, s4, s5⟩ := lw_split (wa := (ac_w u cI cL (fun _ => 0) (fun _ => 0) ac_ai0 ac_al0)) (wb := (rm_w v cI cL cZ rc_fi0 (fun _ => 0) (rc_ai0 12) (fun _ _ => 0))) (u := u) (v := v) rfl rfl rfl hD
  have hF : lw_Fix s D u v cI cL cZ := ⟨hK2, hK3, hN, fun fi fl ai al => am_D s4 rfl, fun fi fl ai al => am_D s5 rfl, s1, s2, s3⟩
  have hPa : va_P D vwCl (ac_w u cI cL (fun _ => 0) (fun _ => 0) ac_ai0 ac_al0) H := fun k q h => hP k q (by rw [List.getElem?_append_left (List.getElem?_eq_some_iff.mp h).1]; exact h)
  have hPb : va_P D vwCl (rm_w v cI cL cZ rc_fi0 (fun _ => 0) (rc_ai0 12) (fun _ _ => 0)) H := fun k q h => hP (24 + k) q (by rw [List.getElem?_append_right (show 24 ≤ 24 + k by omega)]; rw [show 24 + k - ((ac_w u cI cL (fun _ => 0) (fun _ => 0) ac_ai0 ac_al0)).length = k from Nat.add_sub_cancel_left 24 k]; exact h)
  rw [← hw_u, ← hw_v] at hl
  exact law_loop hL C0 hF (cells := 46) (slots := 22361) (Nat.le_of_ble_eq_true rfl) (Nat.le_of_ble_eq_true rfl) (by omega) (by omega) (L + 7) 0 (by omega) (by omega) H locs ⟨_, _, _, _, _, _, _, _, _, _, _, _, ac_K0, rc_K0, lw_R0, hPa, hPb, hS⟩ ls (lv_sub hl [3, 2, 1, 0] rfl)
