-- ===== the forward search is right: what bestFrom answers is the best over all rows of acts =====
theorem i64_add {a b : Int64} (h1 : -9000000000000000000 ≤ a.toInt + b.toInt) (h2 : a.toInt + b.toInt ≤ 9000000000000000000) : (a + b).toInt = a.toInt + b.toInt := by
  rw [Int64.toInt_add]
  exact Int.bmod_eq_of_le (by omega) (by omega)
theorem i64_sub {a b : Int64} (h1 : -9000000000000000000 ≤ a.toInt - b.toInt) (h2 : a.toInt - b.toInt ≤ 9000000000000000000) : (a - b).toInt = a.toInt - b.toInt := by
  rw [Int64.toInt_sub]
  exact Int.bmod_eq_of_le (by omega) (by omega)
theorem rc_has_gt : ∀ s, s < 1024 → ∀ a, a < 10 → rc_has (nI s) (nI a) = 0 → s < s ||| 2 ^ a := by decide +kernel
/-- a row of k + 1 acts leads from s0 (last act j) to the set s with last act e, and costs c -/
def rc_R (cd : Nat → Nat → Prop) (sp : Nat → Nat → Int) (n s0 j : Nat) (z : Int) : Nat → Nat → Nat → Int → Prop
  | 0, s, e, c => e < n ∧ cd s0 e ∧ s = s0 ||| 2 ^ e ∧ c = z + sp j e
  | k + 1, s, e, c => ∃ s' e' c', rc_R cd sp n s0 j z k s' e' c' ∧ e < n ∧ cd s' e ∧ s = s' ||| 2 ^ e ∧ c = c' + sp (e' + 1) e
theorem rc_R_first {cd : Nat → Nat → Prop} {sp : Nat → Nat → Int} {n s0 j : Nat} {z : Int} : ∀ k s e c, rc_R cd sp n s0 j z k s e c →
    ∃ a, a < n ∧ cd s0 a ∧ ((s = s0 ||| 2 ^ a ∧ e = a ∧ c = z + sp j a ∧ k = 0) ∨ ∃ k', k = k' + 1 ∧ rc_R cd sp n (s0 ||| 2 ^ a) (a + 1) (z + sp j a) k' s e c)
  | 0, s, e, c, h => ⟨e, h.1, h.2.1, Or.inl ⟨h.2.2.1, rfl, h.2.2.2, rfl⟩⟩
  | k + 1, s, e, c, ⟨s', e', c', h, he, hc, hs, hz⟩ => by
    obtain ⟨a, ha, hca, h2⟩ := rc_R_first k s' e' c' h
    refine ⟨a, ha, hca, Or.inr ?_⟩
    rcases h2 with ⟨r1, r2, r3, r4⟩ | ⟨k', r1, r2⟩
    · subst r1 r2 r3 r4
      exact ⟨0, rfl, he, hc, hs, hz⟩
    · subst r1
      exact ⟨k' + 1, rfl, s', e', c', r2, he, hc, hs, hz⟩
theorem rc_R_cons {cd : Nat → Nat → Prop} {sp : Nat → Nat → Int} {n s0 j : Nat} {z : Int} {a : Nat} (ha : a < n) (hc : cd s0 a) : ∀ k s e c, rc_R cd sp n (s0 ||| 2 ^ a) (a + 1) (z + sp j a) k s e c → rc_R cd sp n s0 j z (k + 1) s e c
  | 0, s, e, c, h => ⟨s0 ||| 2 ^ a, a, z + sp j a, ⟨ha, hc, rfl, rfl⟩, h⟩
  | k + 1, s, e, c, ⟨s', e', c', h, r⟩ => ⟨s', e', c', rc_R_cons ha hc k s' e' c' h, r⟩
def rc_isB (cd : Nat → Nat → Prop) (sp : Nat → Nat → Int) (va : Nat → Int) (n s0 j : Nat) (z v : Int) : Prop :=
  (v = va s0 - z ∨ ∃ k s e c, rc_R cd sp n s0 j z k s e c ∧ v = va s - c) ∧ va s0 - z ≤ v ∧ ∀ k s e c, rc_R cd sp n s0 j z k s e c → va s - c ≤ v
theorem rc_isB_uniq {cd : Nat → Nat → Prop} {sp : Nat → Nat → Int} {va : Nat → Int} {n s0 j : Nat} {z v w : Int} (h : rc_isB cd sp va n s0 j z v) (g : rc_isB cd sp va n s0 j z w) : v = w := by
  have le : ∀ v w : Int, rc_isB cd sp va n s0 j z v → rc_isB cd sp va n s0 j z w → v ≤ w := by
    intro v w h g
    rcases h.1 with e | ⟨k, s, e, c, hR, e2⟩
    · rw [e]; exact g.2.1
    · rw [e2]; exact g.2.2 k s e c hR
  exact Int.le_antisymm (le v w h g) (le w v g h)
theorem rc_isB_step {cd : Nat → Nat → Prop} {sp : Nat → Nat → Int} {va : Nat → Int} {n s0 j : Nat} {z v : Int} (h : rc_isB cd sp va n s0 j z v) (hv : ¬ va s0 - z = v) :
    ∃ a, a < n ∧ cd s0 a ∧ rc_isB cd sp va n (s0 ||| 2 ^ a) (a + 1) (z + sp j a) v := by
  rcases h.1 with e | ⟨k, s, e, c, hR, e2⟩
  · exact absurd e.symm hv
  · obtain ⟨a, ha, hc, h2⟩ := rc_R_first k s e c hR
    refine ⟨a, ha, hc, ?_, h.2.2 0 _ _ _ ⟨ha, hc, rfl, rfl⟩, fun k s e c g => h.2.2 (k + 1) s e c (rc_R_cons ha hc k s e c g)⟩
    rcases h2 with ⟨r1, r2, r3, r4⟩ | ⟨k', r1, r2⟩
    · left; rw [e2, r1, r3]
    · exact Or.inr ⟨k', s, e, c, r2, e2⟩
-- what the search's pieces write
abbrev rc_cd (nd : Nat → Int32) (s a : Nat) : Prop := ¬ rc_can nd (nI s) a = 0
abbrev rc_sp (stp : Nat → Nat → Int64) (j a : Nat) : Int := (stp j a).toInt
theorem rc_cd_gt {nd : Nat → Int32} {s a : Nat} (hs : s < 1024) (ha : a < 10) (h : rc_cd nd s a) : s < s ||| 2 ^ a := by
  refine rc_has_gt s hs a ha ?_
  rcases rc_has_z (nI s) (nI a) with z | z
  · exact z
  · exact absurd (by rw [rc_can, z]; rfl) h
theorem am_updL_s {f : Nat → Int64} {k : Nat} {v : Int64} : vp_updL f k v k = v := if_pos rfl
theorem am_updL_n {f : Nat → Int64} {k i : Nat} {v : Int64} (h : ¬ i = k) : vp_updL f k v i = f i := if_neg h
theorem rc_far_at (f : Nat → Int64) : ∀ k i, i < k → rc_far f k i = 1000000000000000
  | 0, i, h => by omega
  | k + 1, i, h => by
    rw [rc_far]
    by_cases e : i = k
    · subst e; exact am_updL_s
    · rw [am_updL_n e]; exact rc_far_at f k i (by omega)
theorem rc_b2_ok (nd : Nat → Int32) (stp : Nat → Nat → Int64) (j s : Nat) (z : Int64) (f : Nat → Int64) : ∀ a, a ≤ 10 →
    (∀ i, rc_b2 nd stp j s z f a i = f i ∨ ∃ b, b < a ∧ rc_cd nd s b ∧ i = 10 * (s ||| 2 ^ b) + b ∧ rc_b2 nd stp j s z f a i = z + stp j b) ∧
    (∀ b, b < a → rc_cd nd s b → rc_b2 nd stp j s z f a (10 * (s ||| 2 ^ b) + b) = z + stp j b)
  | 0, _ => ⟨fun _ => Or.inl rfl, fun b h => by omega⟩
  | a + 1, ha => by
    obtain ⟨i1, i2⟩ := rc_b2_ok nd stp j s z f a (by omega)
    rw [rc_b2]
    by_cases c : rc_can nd (nI s) a = 0
    · rw [if_pos c]
      refine ⟨fun i => (i1 i).imp id (fun ⟨b, h1, h2⟩ => ⟨b, by omega, h2⟩), fun b hb hcd => ?_⟩
      rcases Nat.lt_or_ge b a with h | h
      · exact i2 b h hcd
      · rw [show b = a by omega] at hcd; exact absurd c hcd
    · rw [if_neg c]
      refine ⟨fun i => ?_, fun b hb hcd => ?_⟩
      · by_cases e : i = 10 * (s ||| 2 ^ a) + a
        · subst e; rw [am_updL_s]; exact Or.inr ⟨a, by omega, c, rfl, rfl⟩
        · rw [am_updL_n e]; exact (i1 i).imp id (fun ⟨b, h1, h2⟩ => ⟨b, by omega, h2⟩)
      · rcases Nat.lt_or_ge b a with h | h
        · rw [am_updL_n (by omega)]; exact i2 b h hcd
        · rw [show b = a by omega, am_updL_s]
theorem rc_spr_ok (nd : Nat → Int32) (stp : Nat → Nat → Int64) (s e : Nat) (way : Int64) (f : Nat → Int64) : ∀ a,
    (∀ i, (rc_spr nd stp s e way f a i).toInt ≤ (f i).toInt) ∧
    (∀ i, rc_spr nd stp s e way f a i = f i ∨ ∃ b, b < a ∧ rc_cd nd s b ∧ i = 10 * (s ||| 2 ^ b) + b ∧ rc_spr nd stp s e way f a i = way + stp (e + 1) b) ∧
    (∀ b, b < a → rc_cd nd s b → (rc_spr nd stp s e way f a (10 * (s ||| 2 ^ b) + b)).toInt ≤ (way + stp (e + 1) b).toInt)
  | 0 => ⟨fun _ => Int.le_refl _, fun _ => Or.inl rfl, fun b h => by omega⟩
  | a + 1 => by
    obtain ⟨i0, i1, i2⟩ := rc_spr_ok nd stp s e way f a
    rw [rc_spr]
    by_cases c : rc_can nd (nI s) a = 0
    · rw [if_pos c]
      refine ⟨i0, fun i => (i1 i).imp id (fun ⟨b, h1, h2⟩ => ⟨b, by omega, h2⟩), fun b hb hcd => ?_⟩
      rcases Nat.lt_or_ge b a with h | h
      · exact i2 b h hcd
      · rw [show b = a by omega] at hcd; exact absurd c hcd
    · rw [if_neg c]
      generalize hG : rc_spr nd stp s e way f a = G at i0 i1 i2 ⊢
      have key : ∀ i, (vp_updL G (10 * (s ||| 2 ^ a) + a) (if G (10 * (s ||| 2 ^ a) + a) ≤ way + stp (e + 1) a then G (10 * (s ||| 2 ^ a) + a) else way + stp (e + 1) a) i).toInt ≤ (G i).toInt := by
        intro i
        by_cases ei : i = 10 * (s ||| 2 ^ a) + a
        · subst ei; rw [am_updL_s]
          split
          · exact Int.le_refl _
          · rename_i h; exact Int.le_of_lt (Int.not_le.mp (fun z => h (Int64.le_iff_toInt_le.mpr z)))
        · rw [am_updL_n ei]; exact Int.le_refl _
      refine ⟨fun i => Int.le_trans (key i) (i0 i), fun i => ?_, fun b hb hcd => ?_⟩
      · by_cases ei : i = 10 * (s ||| 2 ^ a) + a
        · subst ei; rw [am_updL_s]
          split
          · exact (i1 _).imp id (fun ⟨b, h1, h2⟩ => ⟨b, by omega, h2⟩)
          · exact Or.inr ⟨a, by omega, c, rfl, rfl⟩
        · rw [am_updL_n ei]; exact (i1 i).imp id (fun ⟨b, h1, h2⟩ => ⟨b, by omega, h2⟩)
      · rcases Nat.lt_or_ge b a with h | h
        · exact Int.le_trans (key _) (i2 b h hcd)
        · rw [show b = a by omega, am_updL_s]
          split
          · rename_i h2; exact Int64.le_iff_toInt_le.mp h2
          · exact Int.le_refl _
-- the room of the numbers
abbrev rc_spOk (stp : Nat → Nat → Int64) (n : Nat) : Prop := ∀ j a, j ≤ n → a < n → 0 ≤ (stp j a).toInt ∧ (stp j a).toInt ≤ 83160000000
abbrev rc_vaOk (va : Nat → Int64) (n : Nat) : Prop := ∀ s, s < 2 ^ n → -1000000000000000000 ≤ (va s).toInt ∧ (va s).toInt ≤ 1000000000000000000
theorem rc_or_lt {n s a : Nat} (hs : s < 2 ^ n) (ha : a < n) : s ||| 2 ^ a < 2 ^ n := Nat.or_lt_two_pow hs (Nat.pow_lt_pow_right (by decide) ha)
theorem rc_R_bd {nd : Nat → Int32} {stp : Nat → Nat → Int64} {n s0 j : Nat} {z : Int} (hn : n ≤ 10) (hsp : rc_spOk stp n) (hs0 : s0 < 2 ^ n) (hj : j ≤ n) (hz0 : 0 ≤ z) (hz1 : z ≤ 83160000000 * (s0 : Int)) :
    ∀ k s e c, rc_R (rc_cd nd) (rc_sp stp) n s0 j z k s e c → s0 < s ∧ s < 2 ^ n ∧ e < n ∧ 0 ≤ c ∧ c ≤ 83160000000 * (s : Int) := by
  have hp := am_p2 hn
  intro k
  induction k with
  | zero =>
    intro s e c ⟨he, hc, hs, hcc⟩
    have h1 := hsp j e hj he
    have h2 := rc_cd_gt (show s0 < 1024 by omega) (show e < 10 by omega) hc
    have h3 := rc_or_lt hs0 he
    rw [← hs] at h2 h3
    have h4 : rc_sp stp j e = (stp j e).toInt := rfl
    refine ⟨h2, h3, he, ?_, ?_⟩ <;> omega
  | succ k ih =>
    intro s e c ⟨s', e', c', hR, he, hc, hs, hcc⟩
    obtain ⟨b1, b2, b3, b4, b5⟩ := ih s' e' c' hR
    have h1 := hsp (e' + 1) e (by omega) he
    have h2 := rc_cd_gt (show s' < 1024 by omega) (show e < 10 by omega) hc
    have h3 := rc_or_lt b2 he
    rw [← hs] at h2 h3
    have h4 : rc_sp stp (e' + 1) e = (stp (e' + 1) e).toInt := rfl
    refine ⟨by omega, h3, he, ?_, ?_⟩ <;> omega
def rc_Inv (nd : Nat → Int32) (stp : Nat → Nat → Int64) (va : Nat → Int64) (n s0 j : Nat) (z : Int64) (S E : Nat) (q : Int64 × (Nat → Int64)) : Prop :=
  (∀ i, i < 10 * 2 ^ n → (q.2 i).toInt = 1000000000000000 ∨ ∃ k s e, i = 10 * s + e ∧ rc_R (rc_cd nd) (rc_sp stp) n s0 j z.toInt k s e (q.2 i).toInt) ∧
  (∀ a, a < n → rc_cd nd s0 a → (q.2 (10 * (s0 ||| 2 ^ a) + a)).toInt ≤ z.toInt + (stp j a).toInt) ∧
  (∀ s e, s0 < s → s < 2 ^ n → e < n → (s < S ∨ (s = S ∧ e < E)) → (q.2 (10 * s + e)).toInt < 1000000000000000 →
    (va s).toInt - (q.2 (10 * s + e)).toInt ≤ q.1.toInt ∧ ∀ a, a < n → rc_cd nd s a → (q.2 (10 * (s ||| 2 ^ a) + a)).toInt ≤ (q.2 (10 * s + e)).toInt + (stp (e + 1) a).toInt) ∧
  (q.1.toInt = (va s0).toInt - z.toInt ∨ ∃ k s e c, rc_R (rc_cd nd) (rc_sp stp) n s0 j z.toInt k s e c ∧ q.1.toInt = (va s).toInt - c) ∧
  (va s0).toInt - z.toInt ≤ q.1.toInt
theorem rc_Inv_e {nd : Nat → Int32} {stp : Nat → Nat → Int64} {va : Nat → Int64} {n s0 j : Nat} {z : Int64} (hn : n ≤ 10) (hsp : rc_spOk stp n) (hva : rc_vaOk va n) (hs0 : s0 < 2 ^ n) (hj : j ≤ n) (hz0 : 0 ≤ z.toInt) (hz1 : z.toInt ≤ 83160000000 * (s0 : Int))
    {S E : Nat} (hS : s0 < S) (hS2 : S < 2 ^ n) (hE : E < n) {q : Int64 × (Nat → Int64)} (h : rc_Inv nd stp va n s0 j z S E q) : rc_Inv nd stp va n s0 j z S (E + 1) (rc_b3e nd stp va n S E q) := by
  have hp := am_p2 hn
  obtain ⟨h1, h2, h3, h4, h5⟩ := h
  have hfar : (1000000000000000 : Int64).toInt = 1000000000000000 := by decide +kernel
  rw [rc_b3e]
  by_cases c : 1000000000000000 ≤ q.2 (10 * S + E)
  · rw [if_pos c]
    refine ⟨h1, h2, fun s e r1 r2 r3 r4 r5 => ?_, h4, h5⟩
    by_cases d : s = S ∧ e = E
    · obtain ⟨rfl, rfl⟩ := d
      have := Int64.le_iff_toInt_le.mp c
      omega
    · exact h3 s e r1 r2 r3 (by omega) r5
  · rw [if_neg c]
    have hlt : (q.2 (10 * S + E)).toInt < 1000000000000000 := by
      have := Int.not_le.mp (fun y => c (Int64.le_iff_toInt_le.mpr y))
      omega
    obtain ⟨k, hR⟩ : ∃ k, rc_R (rc_cd nd) (rc_sp stp) n s0 j z.toInt k S E (q.2 (10 * S + E)).toInt := by
      rcases h1 (10 * S + E) (by omega) with y | ⟨k, s, e, y, hR⟩
      · omega
      · have hb := rc_R_bd hn hsp hs0 hj hz0 hz1 k s e _ hR
        have e1 : s = S := by omega
        have e2 : e = E := by omega
        rw [e1, e2] at hR
        exact ⟨k, hR⟩
    obtain ⟨-, -, -, w0, w1⟩ := rc_R_bd hn hsp hs0 hj hz0 hz1 k S E _ hR
    generalize hw : q.2 (10 * S + E) = way at hR w0 w1 hlt ⊢
    have hvs := hva S hS2
    have hsub : (va S - way).toInt = (va S).toInt - way.toInt := i64_sub (by omega) (by omega)
    have hadd : ∀ b, b < n → (way + stp (E + 1) b).toInt = way.toInt + (stp (E + 1) b).toInt := fun b hb => by
      have := hsp (E + 1) b (by omega) hb
      exact i64_add (by omega) (by omega)
    obtain ⟨p0, p1, p2⟩ := rc_spr_ok nd stp S E way q.2 n
    generalize rc_spr nd stp S E way q.2 n = G at p0 p1 p2 ⊢
    have hbm : q.1.toInt ≤ (if va S - way ≤ q.1 then q.1 else va S - way).toInt ∧ (va S).toInt - way.toInt ≤ (if va S - way ≤ q.1 then q.1 else va S - way).toInt := by
      split
      · rename_i y
        have := Int64.le_iff_toInt_le.mp y
        omega
      · rename_i y
        have := Int.not_le.mp (fun x => y (Int64.le_iff_toInt_le.mpr x))
        omega
    have hsame : ∀ s e, s ≤ S → e < n → G (10 * s + e) = q.2 (10 * s + e) := by
      intro s e r1 r2
      rcases p1 (10 * s + e) with y | ⟨b, y1, y2, y3, y4⟩
      · exact y
      · have := rc_cd_gt (show S < 1024 by omega) (show b < 10 by omega) y2
        omega
    refine ⟨fun i hi => ?_, fun a ha hc => Int.le_trans (p0 _) (h2 a ha hc), fun s e r1 r2 r3 r4 r5 => ?_, ?_, Int.le_trans h5 hbm.1⟩
    · show (G i).toInt = 1000000000000000 ∨ ∃ k s e, i = 10 * s + e ∧ rc_R (rc_cd nd) (rc_sp stp) n s0 j z.toInt k s e (G i).toInt
      rcases p1 i with y | ⟨b, y1, y2, y3, y4⟩
      · rw [y]; exact h1 i hi
      · right
        refine ⟨k + 1, S ||| 2 ^ b, b, y3, S, E, way.toInt, hR, y1, y2, rfl, ?_⟩
        rw [y4, hadd b y1]
    · have hes := hsame s e (by omega) r3
      have r5' : (G (10 * s + e)).toInt < 1000000000000000 := r5
      rw [hes] at r5'
      by_cases d : s = S ∧ e = E
      · obtain ⟨rfl, rfl⟩ := d
        refine ⟨?_, fun a ha hc => ?_⟩
        · show (va s).toInt - (G (10 * s + e)).toInt ≤ _
          rw [hes, hw]; exact hbm.2
        · show (G (10 * (s ||| 2 ^ a) + a)).toInt ≤ (G (10 * s + e)).toInt + _
          rw [hes, hw, ← hadd a ha]; exact p2 a ha hc
      · obtain ⟨o1, o2⟩ := h3 s e r1 r2 r3 (by omega) r5'
        refine ⟨?_, fun a ha hc => ?_⟩
        · show (va s).toInt - (G (10 * s + e)).toInt ≤ _
          rw [hes]; exact Int.le_trans o1 hbm.1
        · show (G (10 * (s ||| 2 ^ a) + a)).toInt ≤ (G (10 * s + e)).toInt + _
          rw [hes]; exact Int.le_trans (p0 _) (o2 a ha hc)
    · show (if va S - way ≤ q.1 then q.1 else va S - way).toInt = _ ∨ _
      split
      · rename_i y; simp only [if_pos y]; exact h4
      · rename_i y; simp only [if_neg y]; exact Or.inr ⟨k, S, E, way.toInt, hR, hsub⟩
theorem rc_Inv_i {nd : Nat → Int32} {stp : Nat → Nat → Int64} {va : Nat → Int64} {n s0 j : Nat} {z : Int64} (hn : n ≤ 10) (hsp : rc_spOk stp n) (hva : rc_vaOk va n) (hs0 : s0 < 2 ^ n) (hj : j ≤ n) (hz0 : 0 ≤ z.toInt) (hz1 : z.toInt ≤ 83160000000 * (s0 : Int))
    {S : Nat} (hS : s0 < S) (hS2 : S < 2 ^ n) {q : Int64 × (Nat → Int64)} (h : rc_Inv nd stp va n s0 j z S 0 q) : ∀ E, E ≤ n → rc_Inv nd stp va n s0 j z S E (rc_b3i nd stp va n S q E)
  | 0, _ => h
  | E + 1, hE => rc_Inv_e hn hsp hva hs0 hj hz0 hz1 hS hS2 (by omega) (rc_Inv_i hn hsp hva hs0 hj hz0 hz1 hS hS2 h E (by omega))
theorem rc_Inv_t {nd : Nat → Int32} {stp : Nat → Nat → Int64} {va : Nat → Int64} {n s0 j : Nat} {z : Int64} (hn : n ≤ 10) (hsp : rc_spOk stp n) (hva : rc_vaOk va n) (hs0 : s0 < 2 ^ n) (hj : j ≤ n) (hz0 : 0 ≤ z.toInt) (hz1 : z.toInt ≤ 83160000000 * (s0 : Int))
    {q : Int64 × (Nat → Int64)} (h : rc_Inv nd stp va n s0 j z (s0 + 1) 0 q) : ∀ t, t ≤ 2 ^ n - (s0 + 1) → rc_Inv nd stp va n s0 j z (s0 + 1 + t) 0 (rc_b3 nd stp va n s0 q t)
  | 0, _ => h
  | t + 1, ht => by
    obtain ⟨h1, h2, h3, h4, h5⟩ := rc_Inv_i hn hsp hva hs0 hj hz0 hz1 (show s0 < s0 + 1 + t by omega) (by omega) (rc_Inv_t hn hsp hva hs0 hj hz0 hz1 h t (by omega)) n (Nat.le_refl n)
    exact ⟨h1, h2, fun s e r1 r2 r3 r4 r5 => h3 s e r1 r2 r3 (by omega) r5, h4, h5⟩
theorem rc_best_ok {nd : Nat → Int32} {stp : Nat → Nat → Int64} {va : Nat → Int64} {n s0 j : Nat} {z : Int64} (hn : n ≤ 10) (hsp : rc_spOk stp n) (hva : rc_vaOk va n) (hs0 : s0 < 2 ^ n) (hj : j ≤ n) (hz0 : 0 ≤ z.toInt) (hz1 : z.toInt ≤ 83160000000 * (s0 : Int)) (f : Nat → Int64) :
    rc_isB (rc_cd nd) (rc_sp stp) (fun s => (va s).toInt) n s0 j z.toInt (rc_best nd stp va n s0 j z f).1.toInt := by
  have hp := am_p2 hn
  have hfar : (1000000000000000 : Int64).toInt = 1000000000000000 := by decide +kernel
  have hv0 := hva s0 hs0
  have hsub : (va s0 - z).toInt = (va s0).toInt - z.toInt := i64_sub (by omega) (by omega)
  have hadd : ∀ b, b < n → (z + stp j b).toInt = z.toInt + (stp j b).toInt := fun b hb => by
    have := hsp j b hj hb
    exact i64_add (by omega) (by omega)
  obtain ⟨g1, g2⟩ := rc_b2_ok nd stp j s0 z (rc_far f (10 * 2 ^ n)) n hn
  have h0 : rc_Inv nd stp va n s0 j z (s0 + 1) 0 (va s0 - z, rc_b2 nd stp j s0 z (rc_far f (10 * 2 ^ n)) n) := by
    refine ⟨fun i hi => ?_, fun a ha hc => ?_, fun s e r1 r2 r3 r4 r5 => by omega, Or.inl hsub, Int.le_of_eq hsub.symm⟩
    · show (rc_b2 nd stp j s0 z (rc_far f (10 * 2 ^ n)) n i).toInt = _ ∨ ∃ k s e, i = 10 * s + e ∧ rc_R (rc_cd nd) (rc_sp stp) n s0 j z.toInt k s e (rc_b2 nd stp j s0 z (rc_far f (10 * 2 ^ n)) n i).toInt
      rcases g1 i with y | ⟨b, y1, y2, y3, y4⟩
      · left; rw [y, rc_far_at f _ i hi]; exact hfar
      · right; rw [y4]; exact ⟨0, s0 ||| 2 ^ b, b, y3, y1, y2, rfl, hadd b y1⟩
    · show (rc_b2 nd stp j s0 z (rc_far f (10 * 2 ^ n)) n (10 * (s0 ||| 2 ^ a) + a)).toInt ≤ _
      rw [g2 a ha hc, hadd a ha]; exact Int.le_refl _
  obtain ⟨h1, h2, h3, h4, h5⟩ := rc_Inv_t hn hsp hva hs0 hj hz0 hz1 h0 (2 ^ n - (s0 + 1)) (Nat.le_refl _)
  rw [rc_best]
  generalize rc_b3 nd stp va n s0 (va s0 - z, rc_b2 nd stp j s0 z (rc_far f (10 * 2 ^ n)) n) (2 ^ n - (s0 + 1)) = q at h1 h2 h3 h4 h5 ⊢
  have comp : ∀ k s e c, rc_R (rc_cd nd) (rc_sp stp) n s0 j z.toInt k s e c → (q.2 (10 * s + e)).toInt ≤ c := by
    intro k
    induction k with
    | zero =>
      intro s e c ⟨he, hc, hs, hcc⟩
      rw [hs, hcc]; exact h2 e he hc
    | succ k ih =>
      intro s e c ⟨s', e', c', hR, he, hc, hs, hcc⟩
      have b := rc_R_bd hn hsp hs0 hj hz0 hz1 k s' e' c' hR
      have i := ih s' e' c' hR
      have := (h3 s' e' b.1 b.2.1 b.2.2.1 (by omega) (by omega)).2 e he hc
      have h9 : rc_sp stp (e' + 1) e = (stp (e' + 1) e).toInt := rfl
      rw [hs]; omega
  refine ⟨h4, h5, fun k s e c hR => ?_⟩
  have b := rc_R_bd hn hsp hs0 hj hz0 hz1 k s e c hR
  have i := comp k s e c hR
  have := (h3 s e b.1 b.2.1 b.2.2.1 (by omega) (by omega)).1
  show (va s).toInt - c ≤ _
  omega
/-- the step of run: where the best is not to stop, an act leads on to it -/
theorem rc_run_step {nd : Nat → Int32} {stp : Nat → Nat → Int64} {va : Nat → Int64} {n s0 j : Nat} {z v : Int64} (hn : n ≤ 10) (hsp : rc_spOk stp n) (hva : rc_vaOk va n) (hs0 : s0 < 2 ^ n) (hj : j ≤ n) (hz0 : 0 ≤ z.toInt) (hz1 : z.toInt ≤ 83160000000 * (s0 : Int))
    (hv : ∀ f, (rc_best nd stp va n s0 j z f).1 = v) (hne : ¬ va s0 - z = v) : ∃ a, a < n ∧ ¬ rc_can nd (nI s0) a = 0 ∧ ∀ f, (rc_best nd stp va n (s0 ||| 2 ^ a) (a + 1) (z + stp j a) f).1 = v := by
  have hp := am_p2 hn
  have hv0 := hva s0 hs0
  have hsub : (va s0 - z).toInt = (va s0).toInt - z.toInt := i64_sub (by omega) (by omega)
  have hB := rc_best_ok (nd := nd) hn hsp hva hs0 hj hz0 hz1 (fun _ => 0)
  rw [hv] at hB
  obtain ⟨a, ha, hc, hb⟩ := rc_isB_step hB (fun y => hne (Int64.toInt_inj.mp (hsub.trans y)))
  have hs := hsp j a hj ha
  have hadd : (z + stp j a).toInt = z.toInt + (stp j a).toInt := i64_add (by omega) (by omega)
  have hgt := rc_cd_gt (show s0 < 1024 by omega) (show a < 10 by omega) hc
  refine ⟨a, ha, hc, fun f => Int64.toInt_inj.mp ?_⟩
  have hB2 := rc_best_ok (nd := nd) (z := z + stp j a) (j := a + 1) hn hsp hva (rc_or_lt hs0 ha) (by omega) (by rw [hadd]; omega) (by rw [hadd]; omega) f
  rw [hadd] at hB2
  exact rc_isB_uniq hB2 hb
/-- what bestFrom answers does not hang on what lay in the table -/
theorem rc_best_f {nd : Nat → Int32} {stp : Nat → Nat → Int64} {va : Nat → Int64} {n s0 j : Nat} {z : Int64} (hn : n ≤ 10) (hsp : rc_spOk stp n) (hva : rc_vaOk va n) (hs0 : s0 < 2 ^ n) (hj : j ≤ n) (hz0 : 0 ≤ z.toInt) (hz1 : z.toInt ≤ 83160000000 * (s0 : Int)) (f g : Nat → Int64) :
    (rc_best nd stp va n s0 j z f).1 = (rc_best nd stp va n s0 j z g).1 :=
  Int64.toInt_inj.mp (rc_isB_uniq (rc_best_ok hn hsp hva hs0 hj hz0 hz1 f) (rc_best_ok hn hsp hva hs0 hj hz0 hz1 g))
