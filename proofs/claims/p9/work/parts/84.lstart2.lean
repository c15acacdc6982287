theorem lw_pick {wa : va_W} {u : Nat → Nat} {n : Nat} (ha : wa.map Prod.fst = (List.range n).map u) {k : Nat} (hk : k < n) : ∃ q, wa[k]? = some q ∧ q.1 = u k := by
  have h : (wa.map Prod.fst)[k]? = some (u k) := by rw [ha, List.getElem?_map, List.getElem?_range hk]; rfl
  rw [List.getElem?_map] at h
  cases hq : wa[k]? with
  | none => rw [hq] at h; cases h
  | some q => rw [hq] at h; exact ⟨q, rfl, Option.some.inj h⟩
theorem lw_back {wa : va_W} {u : Nat → Nat} {n : Nat} (ha : wa.map Prod.fst = (List.range n).map u) {k : Nat} {q : Nat × va_E} (h : wa[k]? = some q) : ∃ k, k < n ∧ q.1 = u k := by
  have h1 : q.1 ∈ (List.range n).map u := by rw [← ha]; exact List.mem_map_of_mem (List.mem_of_getElem? h)
  obtain ⟨k, hk, e⟩ := List.mem_map.mp h1
  exact ⟨k, List.mem_range.mp hk, e.symm⟩
theorem lw_split {A : Nat → Prop} {wa wb : va_W} {u v : Nat → Nat} (ha : wa.map Prod.fst = (List.range 24).map u) (hb : wb.map Prod.fst = (List.range 22).map v) (hl : wa.length = 24) (hD : va_D A (wa ++ wb)) :
    (∀ q, lw_Ac u q → A q) ∧ (∀ q, lw_Ar v q → A q) ∧ (∀ q, lw_Ac u q → ¬ lw_Ar v q) ∧ va_D (lw_Ac u) wa ∧ va_D (lw_Ar v) wb := by
  have ga : ∀ (k : Nat) (q : Nat × va_E), wa[k]? = some q → (wa ++ wb)[k]? = some q := fun k q h => by rw [List.getElem?_append_left (List.getElem?_eq_some_iff.mp h).1]; exact h
  have gb : ∀ (k : Nat) (q : Nat × va_E), wb[k]? = some q → (wa ++ wb)[24 + k]? = some q := fun k q h => by rw [List.getElem?_append_right (by omega), hl, show 24 + k - 24 = k by omega]; exact h
  refine ⟨?_, ?_, ?_, ⟨?_, ?_⟩, ?_, ?_⟩
  · rintro q ⟨k, hk, rfl⟩
    obtain ⟨x, h1, h2⟩ := lw_pick ha hk
    rw [← h2]; exact hD.2 _ _ (ga k x h1)
  · rintro q ⟨k, hk, rfl⟩
    obtain ⟨x, h1, h2⟩ := lw_pick hb hk
    rw [← h2]; exact hD.2 _ _ (gb k x h1)
  · rintro q ⟨k, hk, rfl⟩ ⟨j, hj, e⟩
    obtain ⟨x, h1, h2⟩ := lw_pick ha hk
    obtain ⟨y, h3, h4⟩ := lw_pick hb hj
    have hkl := (List.getElem?_eq_some_iff.mp h1).1
    have := hD.1 _ _ x y (ga k x h1) (gb j y h3) (by rw [h2, h4]; exact e)
    omega
  · intro i j x y h1 h2 h3
    exact hD.1 i j x y (ga i x h1) (ga j y h2) h3
  · intro k q h
    exact lw_back ha h
  · intro i j x y h1 h2 h3
    have := hD.1 _ _ x y (gb i x h1) (gb j y h2) h3
    omega
  · intro k q h
    exact lw_back hb h
theorem lw_gN {y : MethodName} {b : ByteArray} {mL : Nat} {ret : Option FieldType} (h : Cond.code y b mL ret ∈ am_big) : GoodIn lw_tbl (Cond.code y b mL ret :: am_big) := fun w hw => by
  rcases List.mem_cons.mp hw with rfl | hw
  · exact am_big_good _ h
  · exact am_big_good w hw
theorem ac_K0 : ac_K 0 0 (fun _ => 0) ac_ai0 := ⟨rfl, by omega, rfl, by omega, ⟨0, by omega, rfl⟩, fun a h => by omega, fun a h => by omega⟩
theorem rc_K0 : rc_K 0 0 rc_fi0 (rc_ai0 12) (fun _ _ => 0) := by
  have e0 : (0 : Int64).toInt = 0 := by decide +kernel
  have h1 : ∀ p, p < 12 → (rc_ai0 12) 11 p = 1 := by decide +kernel
  have e1 : (1 : Int32).toInt = 1 := by decide +kernel
  have hf : ∀ (f : Nat → Int32), (∀ p, f p = 0) → ∀ k p, ac_fillI 1 f k p = 0 ∨ ac_fillI 1 f k p = 1 := by
    intro f hf0 k
    induction k with
    | zero => intro p; exact Or.inl (hf0 p)
    | succ k ih =>
      intro p
      rw [ac_fillI]
      by_cases e : p = k
      · exact Or.inr (if_pos e)
      · rw [show upd (ac_fillI 1 f k) k 1 p = ac_fillI 1 f k p from if_neg e]; exact ih p
  refine ⟨⟨rfl, by omega, rfl, by omega, ⟨0, by omega, Or.inr rfl⟩, Or.inl rfl, ⟨0, by omega, rfl⟩⟩, ⟨fun a h => by omega, fun a h => by omega, fun p => ?_, fun p hp => ?_⟩, ⟨fun k => ?_, fun k => ?_, fun k => ?_, fun k => ?_, fun k => ?_⟩⟩
  · show 0 ≤ (ac_fillI 1 (fun _ => 0) 12 p).toInt ∧ (ac_fillI 1 (fun _ => 0) 12 p).toInt ≤ 12
    rcases hf (fun _ => 0) (fun _ => rfl) 12 p with h | h <;> rw [h] <;> decide +kernel
  · rw [h1 p hp, e1]; omega
  all_goals (first | (show rc_cents 0; rw [rc_cents, e0]; omega) | (show rc_wor 0; rw [rc_wor, e0]; omega))
