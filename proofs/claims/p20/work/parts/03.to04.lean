-- ===== rows of my own over the kit: loops, arrays by a natural index, contracts that read, contracts that write =====
/-- the links to hidden methods of nest mates that the system uses: (own name, place in its pool, method, host) -/
def am_nw (L : List (String × Nat × MethodName × String)) (U : State) : Prop := ∀ q ∈ L, va_Nw (.methodLinkNest q.1 q.2.1 q.2.2.1 q.2.2.2) U
theorem am_nw_warm {L : List (String × Nat × MethodName × String)} {s U : State} (hW : s.WarmedH U.vm) (h : am_nw L s) : am_nw L U := fun q hq => va_Nw.warmM hW (h q hq)
theorem am_nw_call {L : List (String × Nat × MethodName × String)} {U : State} {g : JFrame} {mk : MethodId} {a : Array Value} (h : am_nw L U) : am_nw L (U.calling g mk a) := fun q hq => va_Nw.same (u := U) (U := U.calling g mk a) rfl rfl (h q hq)
theorem am_nw_at {L : List (String × Nat × MethodName × String)} {U : State} (h : am_nw L U) (k : Nat) {a : String} {i : Nat} {x : MethodName} {b : String} (hk : L[k]? = some (a, i, x, b)) : va_Nw (.methodLinkNest a i x b) U := h (a, i, x, b) (List.mem_of_getElem? hk)
/-- the same addresses: apart as before -/
theorem am_D {A : Nat → Prop} {w w' : va_W} (hD : va_D A w) (h : w.map Prod.fst = w'.map Prod.fst) : va_D A w' := by
  have key : ∀ (k : Nat) (q : Nat × va_E), w'[k]? = some q → ∃ q0, w[k]? = some q0 ∧ q0.1 = q.1 := by
    intro k q hk
    have e : (w.map Prod.fst)[k]? = (w'.map Prod.fst)[k]? := by rw [h]
    rw [List.getElem?_map, List.getElem?_map, hk] at e
    cases hw : w[k]? with
    | none => rw [hw] at e; cases e
    | some q0 => rw [hw] at e; exact ⟨q0, rfl, Option.some.inj e⟩
  refine ⟨fun i j x y hi hj hxy => ?_, fun k q hk => ?_⟩
  · obtain ⟨x0, h1, h2⟩ := key i x hi
    obtain ⟨y0, h3, h4⟩ := key j y hj
    exact hD.1 i j x0 y0 h1 h3 (h2.trans (hxy.trans h4.symm))
  · obtain ⟨q0, h1, h2⟩ := key k q hk
    rw [← h2]
    exact hD.2 k q0 h1
section AMK
variable {p : Program} {l : Launch} {e : Env} {R : Room} {s : State} {m : MethodId} {args : Array Value} {below : List Frame} {meth : Method} {c : Code} {H : Heap} {locs : List Loc} {cells slots : Nat} {Q : State → Prop}
/-- a loop that only reads -/
theorem am_loopR {σ : Type} {pc : Nat} {st : List Value} (I : σ → Nat → Array Slot → Prop)
    (step : ∀ (x : σ) (n : Nat) (ls : Array Slot), I x n ls → (∀ (x' : σ) (n' : Nat) (ls' : Array Slot), n' < n → I x' n' ls' → W p l e R s m args below meth c H locs cells slots Q (F0 m pc ls' st)) → W p l e R s m args below meth c H locs cells slots Q (F0 m pc ls st)) :
    ∀ (x : σ) (n : Nat) (ls : Array Slot), I x n ls → W p l e R s m args below meth c H locs cells slots Q (F0 m pc ls st) := by
  have key : ∀ (N : Nat) (x : σ) (n : Nat) (ls : Array Slot), n < N → I x n ls → W p l e R s m args below meth c H locs cells slots Q (F0 m pc ls st) := by
    intro N
    induction N with
    | zero => intro x n ls h; exact absurd h (Nat.not_lt_zero _)
    | succ N ih => intro x n ls h hI; exact step x n ls hI (fun x' n' ls' h' hI' => ih x' n' ls' (Nat.lt_of_lt_of_le h' (Nat.le_of_lt_succ h)) hI')
  intro x n ls hI
  exact key (n + 1) x n ls (Nat.lt_succ_self n) hI
/-- a loop that writes -/
theorem am_loop {σ : Type} {pc : Nat} {st : List Value} (I : σ → Nat → Heap → List Loc → Array Slot → Prop)
    (step : ∀ (x : σ) (n : Nat) (H : Heap) (locs : List Loc) (ls : Array Slot), I x n H locs ls → (∀ (x' : σ) (n' : Nat) (H' : Heap) (locs' : List Loc) (ls' : Array Slot), n' < n → I x' n' H' locs' ls' → W p l e R s m args below meth c H' locs' cells slots Q (F0 m pc ls' st)) → W p l e R s m args below meth c H locs cells slots Q (F0 m pc ls st)) :
    ∀ (x : σ) (n : Nat) (H : Heap) (locs : List Loc) (ls : Array Slot), I x n H locs ls → W p l e R s m args below meth c H locs cells slots Q (F0 m pc ls st) := by
  have key : ∀ (N : Nat) (x : σ) (n : Nat) (H : Heap) (locs : List Loc) (ls : Array Slot), n < N → I x n H locs ls → W p l e R s m args below meth c H locs cells slots Q (F0 m pc ls st) := by
    intro N
    induction N with
    | zero => intro x n H locs ls h; exact absurd h (Nat.not_lt_zero _)
    | succ N ih => intro x n H locs ls h hI; exact step x n H locs ls hI (fun x' n' H' locs' ls' h' hI' => ih x' n' H' locs' ls' (Nat.lt_of_lt_of_le h' (Nat.le_of_lt_succ h)) hI')
  intro x n H locs ls hI
  exact key (n + 1) x n H locs ls (Nat.lt_succ_self n) hI
variable {cc : ByteArray} {pc : Nat} {ls : Array Slot} {rest : List Value} {D : va_G} {cl : List vw_C} {A : Nat → Prop} {a : Nat} {tys : List (ClassId × FieldType)} {ws : va_W} {H0 : Heap}
/-- the value on top is another term -/
theorem am_topi {x y : Int32} (h : x = y) (kk : W p l e R s m args below meth c H locs cells slots Q (F0 m pc ls (.int y :: rest))) : W p l e R s m args below meth c H locs cells slots Q (F0 m pc ls (.int x :: rest)) := by
  subst h; exact kk
theorem am_topl {x y : Int64} (h : x = y) (kk : W p l e R s m args below meth c H locs cells slots Q (F0 m pc ls (.long y :: rest))) : W p l e R s m args below meth c H locs cells slots Q (F0 m pc ls (.long x :: rest)) := by
  subst h; exact kk
theorem am_iald (hexec : p.tables.exec = Jvm.exec) (hb : c.code = cc) (hK : va_K D cl tys s) (hP : va_P D cl ws H) (q0 t0 : Nat) {cA : ClassId} {n : Nat} {f : Nat → Int32} (ha : ws[q0]? = some (a, .inl (cA, n, .inl f))) (ht : tys[t0]? = some (cA, .int)) {i : Int32} (k : Nat) (hi : i = nI k) (hk : k < n) (hn : n < 2 ^ 31) (hdg : decode cc pc = .ok (.iaload, 1))
    (kk : W p l e R s m args below meth c H locs cells slots Q (F0 m (pc + 1) ls (.int (f k) :: rest))) : W p l e R s m args below meth c H locs cells slots Q (F0 m pc ls (.int i :: .ref a :: rest)) := by
  subst hi
  refine va_iald hexec hb hK hP q0 t0 ha ht (vp_in_nI hk hn) hdg ?_
  rw [nI_clamp (Nat.lt_trans hk hn)]
  exact kk
theorem am_lald (hexec : p.tables.exec = Jvm.exec) (hb : c.code = cc) (hK : va_K D cl tys s) (hP : va_P D cl ws H) (q0 t0 : Nat) {cA : ClassId} {n : Nat} {f : Nat → Int64} (ha : ws[q0]? = some (a, .inl (cA, n, .inr (.inl f)))) (ht : tys[t0]? = some (cA, .long)) {i : Int32} (k : Nat) (hi : i = nI k) (hk : k < n) (hn : n < 2 ^ 31) (hdg : decode cc pc = .ok (.laload, 1))
    (kk : W p l e R s m args below meth c H locs cells slots Q (F0 m (pc + 1) ls (.long (f k) :: rest))) : W p l e R s m args below meth c H locs cells slots Q (F0 m pc ls (.int i :: .ref a :: rest)) := by
  subst hi
  refine va_lald hexec hb hK hP q0 t0 ha ht (vp_in_nI hk hn) hdg ?_
  rw [nI_clamp (Nat.lt_trans hk hn)]
  exact kk
theorem am_zald (hexec : p.tables.exec = Jvm.exec) (hb : c.code = cc) (hK : va_K D cl tys s) (hP : va_P D cl ws H) (q0 t0 : Nat) {cA : ClassId} {n : Nat} {f : Nat → Int32} (ha : ws[q0]? = some (a, .inl (cA, n, .inl f))) (ht : tys[t0]? = some (cA, .boolean)) {i : Int32} (k : Nat) (hi : i = nI k) (hk : k < n) (hn : n < 2 ^ 31) (hdg : decode cc pc = .ok (.baload, 1))
    (kk : W p l e R s m args below meth c H locs cells slots Q (F0 m (pc + 1) ls (.int (f k) :: rest))) : W p l e R s m args below meth c H locs cells slots Q (F0 m pc ls (.int i :: .ref a :: rest)) := by
  subst hi
  refine va_zald hexec hb hK hP q0 t0 ha ht (vp_in_nI hk hn) hdg ?_
  rw [nI_clamp (Nat.lt_trans hk hn)]
  exact kk
theorem am_zast (hexec : p.tables.exec = Jvm.exec) (hb : c.code = cc) (hK : va_K D cl tys s) (hP : va_P D cl ws H) (hD : va_D A ws) (hS : va_S A H0 H locs) (q0 t0 : Nat) {cA : ClassId} {n : Nat} {f : Nat → Int32} (ha : ws[q0]? = some (a, .inl (cA, n, .inl f))) (ht : tys[t0]? = some (cA, .boolean)) {i x : Int32} (k : Nat) (hi : i = nI k) (hk : k < n) (hn : n < 2 ^ 31) (hz : vp_nar .boolean x = x) (ws' : va_W) (hw : ws.set q0 (a, .inl (cA, n, .inl (upd f k x))) = ws') (hdg : decode cc pc = .ok (.bastore, 1))
    (kk : ∀ (H1 : Heap) (locs1 : List Loc), va_P D cl ws' H1 → va_D A ws' → va_S A H0 H1 locs1 → W p l e R s m args below meth c H1 locs1 cells slots Q (F0 m (pc + 1) ls rest)) : W p l e R s m args below meth c H locs cells slots Q (F0 m pc ls (.int x :: .int i :: .ref a :: rest)) := by
  subst hi
  subst hw
  refine va_zast hexec hb hK hP hD hS q0 t0 ha ht (vp_in_nI hk hn) hdg ?_
  rw [nI_clamp (Nat.lt_trans hk hn), hz]
  exact kk
theorem am_iast (hexec : p.tables.exec = Jvm.exec) (hb : c.code = cc) (hK : va_K D cl tys s) (hP : va_P D cl ws H) (hD : va_D A ws) (hS : va_S A H0 H locs) (q0 t0 : Nat) {cA : ClassId} {n : Nat} {f : Nat → Int32} (ha : ws[q0]? = some (a, .inl (cA, n, .inl f))) (ht : tys[t0]? = some (cA, .int)) {i x : Int32} (k : Nat) (hi : i = nI k) (hk : k < n) (hn : n < 2 ^ 31) (ws' : va_W) (hw : ws.set q0 (a, .inl (cA, n, .inl (upd f k x))) = ws') (hdg : decode cc pc = .ok (.iastore, 1))
    (kk : ∀ (H1 : Heap) (locs1 : List Loc), va_P D cl ws' H1 → va_D A ws' → va_S A H0 H1 locs1 → W p l e R s m args below meth c H1 locs1 cells slots Q (F0 m (pc + 1) ls rest)) : W p l e R s m args below meth c H locs cells slots Q (F0 m pc ls (.int x :: .int i :: .ref a :: rest)) := by
  subst hi
  subst hw
  refine va_iast hexec hb hK hP hD hS q0 t0 ha ht (vp_in_nI hk hn) hdg ?_
  rw [nI_clamp (Nat.lt_trans hk hn)]
  exact kk
theorem am_last (hexec : p.tables.exec = Jvm.exec) (hb : c.code = cc) (hK : va_K D cl tys s) (hP : va_P D cl ws H) (hD : va_D A ws) (hS : va_S A H0 H locs) (q0 t0 : Nat) {cA : ClassId} {n : Nat} {f : Nat → Int64} (ha : ws[q0]? = some (a, .inl (cA, n, .inr (.inl f)))) (ht : tys[t0]? = some (cA, .long)) {i : Int32} {x : Int64} (k : Nat) (hi : i = nI k) (hk : k < n) (hn : n < 2 ^ 31) (ws' : va_W) (hw : ws.set q0 (a, .inl (cA, n, .inr (.inl (vp_updL f k x)))) = ws') (hdg : decode cc pc = .ok (.lastore, 1))
    (kk : ∀ (H1 : Heap) (locs1 : List Loc), va_P D cl ws' H1 → va_D A ws' → va_S A H0 H1 locs1 → W p l e R s m args below meth c H1 locs1 cells slots Q (F0 m (pc + 1) ls rest)) : W p l e R s m args below meth c H locs cells slots Q (F0 m pc ls (.long x :: .int i :: .ref a :: rest)) := by
  subst hi
  subst hw
  refine va_last hexec hb hK hP hD hS q0 t0 ha ht (vp_in_nI hk hn) hdg ?_
  rw [nI_clamp (Nat.lt_trans hk hn)]
  exact kk
end AMK
-- contracts: what a method finds, what it leaves
def am_R (L : List (String × Nat × MethodName × String)) (cl : List vw_C) (D : va_G) (w : va_W) (tys : List (ClassId × FieldType)) (U : State) : Prop := va_P D cl w U.heap ∧ va_K D cl tys U ∧ am_nw L U
def am_M (L : List (String × Nat × MethodName × String)) (cl : List vw_C) (D : va_G) (A : Nat → Prop) (w : va_W) (tys : List (ClassId × FieldType)) (U : State) : Prop := va_P D cl w U.heap ∧ va_K D cl tys U ∧ am_nw L U ∧ va_D A w
def am_rm (fr lo : Nat) : Room := { frames := fr, cells := 0, slots := 0, locals := lo }
def am_No : Nat → Prop := fun _ => False
def am_Mi (cl : List vw_C) (D : va_G) (v : Int32) (w : va_W) (A : Nat → Prop) : Array Value → State → Outcome → State → Prop := va_Qi (fun (r : Int32) (_ : Unit) => r = v) (fun _ t => va_P D cl w t.heap) A
def am_Ml (cl : List vw_C) (D : va_G) (v : Int64) (w : va_W) (A : Nat → Prop) : Array Value → State → Outcome → State → Prop := va_Ql (fun (r : Int64) (_ : Unit) => r = v) (fun _ t => va_P D cl w t.heap) A
def am_Mv (cl : List vw_C) (D : va_G) (w : va_W) (A : Nat → Prop) : Array Value → State → Outcome → State → Prop := va_Qv (fun (_ : Unit) => True) (fun _ t => va_P D cl w t.heap) A
section AMC
variable {p : Program} {l : Launch} {e : Env} {R : Room} {s : State} {m : MethodId} {args : Array Value} {below : List Frame} {meth : Method} {c : Code} {H : Heap} {locs : List Loc} {cells slots : Nat} {Q : State → Prop}
variable {cc : ByteArray} {pc : Nat} {ls : Array Slot} {rest st0 : List Value} {D : va_G} {cl : List vw_C} {A : Nat → Prop} {tys : List (ClassId × FieldType)} {w w' : va_W} {H0 : Heap} {L : List (String × Nat × MethodName × String)} {a : Array Value}
theorem am_startR {y : MethodName} {ws ws' : List Cond} {fr lo maxL : Nat} {av : List Value} {Qc : Array Value → State → Outcome → State → Prop} {ret : Option FieldType} (hy : plainName y.cls = true) (hw : ws = Cond.code y cc maxL ret :: ws') (hsl : (lg_sl av).length ≤ maxL) (lv : List (Nat × Value)) (hlv : lv_args 0 av = lv)
    (body : ∀ (p : Program) (e : Env) (s : State) (m : MethodId) (below : List Frame) (meth : Method) (c : Code) (ls : Array Slot), p.tables.exec = Jvm.exec → c.code = cc → meth.sig.returnType = ret → c.maxLocals = maxL → s.vm.findClass y.cls = some m.cls → (∀ x ∈ ws, x.before av.toArray s = true) → meth.locks = false → va_P D cl w s.heap → va_K D cl tys s → am_nw L s → lv_has ls maxL lv →
      W p l e (am_rm fr lo) s m av.toArray below meth c s.heap [] 0 0 (MQ below Qc av.toArray s 0 0 am_No) (F0 m 0 ls [])) :
    Met l y ws (am_rm fr lo) (va_Pc av (am_R L cl D w tys)) Qc 0 0 am_No := by
  refine Met.ofW (cc := cc) (maxL := maxL) (ret := ret) hy hw ?_
  intro p e s m args below meth c s₁ B hml hv
  obtain ⟨rfl, hP, hK, hN⟩ := hv
  have hl := lv_entry av (n := maxL) hsl
  rw [lg_entry_eq]
  subst hlv
  exact body p e s m below meth c _ B.exec B.bytes B.returns hml (findClass_of_methodNamed B.named) (atoms_spec (ws := ws) B.pre) B.notSynchronized hP hK hN hl
theorem am_startM {y : MethodName} {ws ws' : List Cond} {fr lo maxL : Nat} {av : List Value} {Qc : Array Value → State → Outcome → State → Prop} {ret : Option FieldType} (hy : plainName y.cls = true) (hw : ws = Cond.code y cc maxL ret :: ws') (hsl : (lg_sl av).length ≤ maxL) (lv : List (Nat × Value)) (hlv : lv_args 0 av = lv)
    (body : ∀ (p : Program) (e : Env) (s : State) (m : MethodId) (below : List Frame) (meth : Method) (c : Code) (ls : Array Slot), p.tables.exec = Jvm.exec → c.code = cc → meth.sig.returnType = ret → c.maxLocals = maxL → s.vm.findClass y.cls = some m.cls → (∀ x ∈ ws, x.before av.toArray s = true) → meth.locks = false → va_K D cl tys s → am_nw L s → va_D A w → ∀ (H : Heap) (locs : List Loc), va_P D cl w H → va_S A s.heap H locs → lv_has ls maxL lv →
      W p l e (am_rm fr lo) s m av.toArray below meth c H locs 0 0 (MQ below Qc av.toArray s 0 0 A) (F0 m 0 ls [])) :
    Met l y ws (am_rm fr lo) (va_Pc av (am_M L cl D A w tys)) Qc 0 0 A := by
  refine Met.ofW (cc := cc) (maxL := maxL) (ret := ret) hy hw ?_
  intro p e s m args below meth c s₁ B hml hv
  obtain ⟨rfl, hP, hK, hN, hD⟩ := hv
  have hl := lv_entry av (n := maxL) hsl
  rw [lg_entry_eq]
  subst hlv
  exact body p e s m below meth c _ B.exec B.bytes B.returns hml (findClass_of_methodNamed B.named) (atoms_spec (ws := ws) B.pre) B.notSynchronized hK hN hD s.heap [] hP va_S.rf hl
-- ends of methods that read
theorem am_iretR {v v' : Int32} (hexec : p.tables.exec = Jvm.exec) (hb : c.code = cc) (hr : meth.sig.returnType = some .int) (hlocks : meth.locks = false) (hp : v = v') (hdg : decode cc pc = .ok (.ireturn, 1)) : W p l e R s m args below meth c s.heap [] 0 0 (MQ below (vp_Si (fun r => r = v')) args s 0 0 am_No) (F0 m pc ls [.int v]) :=
  W.iret hexec hb hr (fun t ht _ => ⟨v, rfl, hp, ht⟩) (fun _ h => by cases h) hdg hlocks
theorem am_zretR {v v' : Int32} (hexec : p.tables.exec = Jvm.exec) (hb : c.code = cc) (hr : meth.sig.returnType = some .boolean) (hlocks : meth.locks = false) (hz : v = 0 ∨ v = 1) (hp : v = v') (hdg : decode cc pc = .ok (.ireturn, 1)) : W p l e R s m args below meth c s.heap [] 0 0 (MQ below (vp_Si (fun r => r = v')) args s 0 0 am_No) (F0 m pc ls [.int v]) :=
  W.zret hexec hb hr (by rcases hz with rfl | rfl <;> rfl) (fun t ht _ => ⟨v, rfl, hp, ht⟩) (fun _ h => by cases h) hdg hlocks
theorem am_lretR {v v' : Int64} (hexec : p.tables.exec = Jvm.exec) (hb : c.code = cc) (hr : meth.sig.returnType = some .long) (hlocks : meth.locks = false) (hp : v = v') (hdg : decode cc pc = .ok (.lreturn, 1)) : W p l e R s m args below meth c s.heap [] 0 0 (MQ below (vp_Sl (fun r => r = v')) args s 0 0 am_No) (F0 m pc ls [.long v]) :=
  W.lret hexec hb hr (fun t ht _ => ⟨v, rfl, hp, ht⟩) (fun _ h => by cases h) hdg hlocks
-- ends of methods that write
theorem am_iretM {v v' : Int32} (hexec : p.tables.exec = Jvm.exec) (hb : c.code = cc) (hr : meth.sig.returnType = some .int) (hlocks : meth.locks = false) (hP : va_P D cl w H) (hS : va_S A s.heap H locs) (hv : v = v') (hdg : decode cc pc = .ok (.ireturn, 1)) : W p l e R s m args below meth c H locs 0 0 (MQ below (am_Mi cl D v' w A) args s 0 0 A) (F0 m pc ls [.int v]) :=
  W.iret hexec hb hr (fun t ht _ => ⟨⟨v, (), rfl, hv, by show va_P D cl w t.heap; rw [ht]; exact hP⟩, hS.F ht⟩) hS.2.2 hdg hlocks
theorem am_zretM {v v' : Int32} (hexec : p.tables.exec = Jvm.exec) (hb : c.code = cc) (hr : meth.sig.returnType = some .boolean) (hlocks : meth.locks = false) (hz : v = 0 ∨ v = 1) (hP : va_P D cl w H) (hS : va_S A s.heap H locs) (hv : v = v') (hdg : decode cc pc = .ok (.ireturn, 1)) : W p l e R s m args below meth c H locs 0 0 (MQ below (am_Mi cl D v' w A) args s 0 0 A) (F0 m pc ls [.int v]) :=
  W.zret hexec hb hr (by rcases hz with rfl | rfl <;> rfl) (fun t ht _ => ⟨⟨v, (), rfl, hv, by show va_P D cl w t.heap; rw [ht]; exact hP⟩, hS.F ht⟩) hS.2.2 hdg hlocks
theorem am_lretM {v v' : Int64} (hexec : p.tables.exec = Jvm.exec) (hb : c.code = cc) (hr : meth.sig.returnType = some .long) (hlocks : meth.locks = false) (hP : va_P D cl w H) (hS : va_S A s.heap H locs) (hv : v = v') (hdg : decode cc pc = .ok (.lreturn, 1)) : W p l e R s m args below meth c H locs 0 0 (MQ below (am_Ml cl D v' w A) args s 0 0 A) (F0 m pc ls [.long v]) :=
  W.lret hexec hb hr (fun t ht _ => ⟨⟨v, (), rfl, hv, by show va_P D cl w t.heap; rw [ht]; exact hP⟩, hS.F ht⟩) hS.2.2 hdg hlocks
theorem am_vretM (hexec : p.tables.exec = Jvm.exec) (hb : c.code = cc) (hr : meth.sig.returnType = none) (hlocks : meth.locks = false) (hP : va_P D cl w H) (hS : va_S A s.heap H locs) (hdg : decode cc pc = .ok (.return_, 1)) : W p l e R s m args below meth c H locs 0 0 (MQ below (am_Mv cl D w A) args s 0 0 A) (F0 m pc ls []) :=
  W.vret hexec hb hr (fun t ht _ => ⟨⟨(), rfl, trivial, by show va_P D cl w t.heap; rw [ht]; exact hP⟩, hS.F ht⟩) hS.2.2 hdg hlocks
-- what a call finds
theorem am_blindR {av : List Value} : FrameBlind (va_Pc av (am_R L cl D w tys)) := fun a U g mk q => by
  obtain ⟨q1, q2, q3, q4⟩ := q
  exact ⟨q1, q2, va_K.moved (u := U) (U := U.calling g mk a) (Vm.Alike.refl U.vm) q3, am_nw_call q4⟩
theorem am_blindM {av : List Value} : FrameBlind (va_Pc av (am_M L cl D A w tys)) := fun a U g mk q => by
  obtain ⟨q1, q2, q3, q4, q5⟩ := q
  exact ⟨q1, q2, va_K.moved (u := U) (U := U.calling g mk a) (Vm.Alike.refl U.vm) q3, am_nw_call q4, q5⟩
theorem am_preSR {As : List Value} (hP : va_P D cl w H) (hK : va_K D cl tys s) (hN : am_nw L s) : PreS s H (va_Pc As (am_R L cl D w tys)) As :=
  ⟨am_blindR, fun U hU hW => ⟨rfl, by rw [hU]; exact hP, va_K.moved hW.alike hK, am_nw_warm hW hN⟩⟩
theorem am_preSM {As : List Value} (hP : va_P D cl w H) (hK : va_K D cl tys s) (hN : am_nw L s) (hD : va_D A w) : PreS s H (va_Pc As (am_M L cl D A w tys)) As :=
  ⟨am_blindM, fun U hU hW => ⟨rfl, by rw [hU]; exact hP, va_K.moved hW.alike hK, am_nw_warm hW hN, hD⟩⟩
theorem am_preVR {As : List Value} {b : Nat} {C : String} (ci q0 : Nat) {q : vw_C} {fs : List Value} (hc : cl[ci]? = some q) (hC : q.1 = C) (he : w[q0]? = some (b, .inr (ci, fs))) (hP : va_P D cl w H) (hK : va_K D cl tys s) (hN : am_nw L s) : PreV s H C b (va_Pc (.ref b :: As) (am_R L cl D w tys)) As :=
  ⟨am_blindR, by subst hC; exact va_recv hK hP hc he, fun U hU hW => ⟨rfl, by rw [hU]; exact hP, va_K.moved hW.alike hK, am_nw_warm hW hN⟩⟩
theorem am_preVM {As : List Value} {b : Nat} {C : String} (ci q0 : Nat) {q : vw_C} {fs : List Value} (hc : cl[ci]? = some q) (hC : q.1 = C) (he : w[q0]? = some (b, .inr (ci, fs))) (hP : va_P D cl w H) (hK : va_K D cl tys s) (hN : am_nw L s) (hD : va_D A w) : PreV s H C b (va_Pc (.ref b :: As) (am_M L cl D A w tys)) As :=
  ⟨am_blindM, by subst hC; exact va_recv hK hP hc he, fun U hU hW => ⟨rfl, by rw [hU]; exact hP, va_K.moved hW.alike hK, am_nw_warm hW hN, hD⟩⟩
-- behind a call
theorem am_callRi {v : Int32} (hr : CallRun p l e R s m args below meth c H locs cells slots 0 0 (F0 m pc ls st0) rest (vp_Si (fun r => r = v) a) am_No)
    (kk : W p l e R s m args below meth c H locs cells slots Q (F0 m (pc + 3) ls (.int v :: rest))) : W p l e R s m args below meth c H locs cells slots Q (F0 m pc ls st0) :=
  vp_callSi hr (fun r (h : r = v) => by subst h; exact kk)
theorem am_callRl {v : Int64} (hr : CallRun p l e R s m args below meth c H locs cells slots 0 0 (F0 m pc ls st0) rest (vp_Sl (fun r => r = v) a) am_No)
    (kk : W p l e R s m args below meth c H locs cells slots Q (F0 m (pc + 3) ls (.long v :: rest))) : W p l e R s m args below meth c H locs cells slots Q (F0 m pc ls st0) :=
  vp_callSl hr (fun r (h : r = v) => by subst h; exact kk)
theorem am_callMi {v : Int32} (hr : va_Run p l e R s m args below meth c H locs cells slots 0 0 (F0 m pc ls st0) rest (am_Mi cl D v w' A a) A) (hS : va_S A H0 H locs)
    (kk : ∀ (H1 : Heap) (locs1 : List Loc), va_P D cl w' H1 → va_S A H0 H1 locs1 → W p l e R s m args below meth c H1 locs1 cells slots Q (F0 m (pc + 3) ls (.int v :: rest))) : W p l e R s m args below meth c H locs cells slots Q (F0 m pc ls st0) :=
  va_calli hr hS (fun _ _ h => h) (fun _ h => h) (fun r _ t H1 locs1 ht _ (hp : r = v) hB _ _ hS1 => by subst hp; exact kk H1 locs1 (by rw [← ht]; exact hB) hS1)
theorem am_callMl {v : Int64} (hr : va_Run p l e R s m args below meth c H locs cells slots 0 0 (F0 m pc ls st0) rest (am_Ml cl D v w' A a) A) (hS : va_S A H0 H locs)
    (kk : ∀ (H1 : Heap) (locs1 : List Loc), va_P D cl w' H1 → va_S A H0 H1 locs1 → W p l e R s m args below meth c H1 locs1 cells slots Q (F0 m (pc + 3) ls (.long v :: rest))) : W p l e R s m args below meth c H locs cells slots Q (F0 m pc ls st0) :=
  va_calll hr hS (fun _ _ h => h) (fun _ h => h) (fun r _ t H1 locs1 ht _ (hp : r = v) hB _ _ hS1 => by subst hp; exact kk H1 locs1 (by rw [← ht]; exact hB) hS1)
theorem am_callMv (hr : va_Run p l e R s m args below meth c H locs cells slots 0 0 (F0 m pc ls st0) rest (am_Mv cl D w' A a) A) (hS : va_S A H0 H locs)
    (kk : ∀ (H1 : Heap) (locs1 : List Loc), va_P D cl w' H1 → va_S A H0 H1 locs1 → W p l e R s m args below meth c H1 locs1 cells slots Q (F0 m (pc + 3) ls rest)) : W p l e R s m args below meth c H locs cells slots Q (F0 m pc ls st0) :=
  va_callv hr hS (fun _ _ h => h) (fun _ h => h) (fun _ t H1 locs1 ht _ _ hB _ _ hS1 => kk H1 locs1 (by rw [← ht]; exact hB) hS1)
end AMC
theorem am_set_self {w : va_W} {q0 : Nat} {e : Nat × va_E} (h : w[q0]? = some e) : w.set q0 e = w := by
  apply List.ext_getElem?
  intro i
  by_cases hi : q0 = i
  · subst hi
    rw [List.getElem?_set_self (List.getElem?_eq_some_iff.mp h).1, h]
  · rw [List.getElem?_set_ne hi]
theorem am_set_fst {w : va_W} {q0 : Nat} {a : Nat} {e e' : va_E} (h : w[q0]? = some (a, e)) : w.map Prod.fst = (w.set q0 (a, e')).map Prod.fst := by
  apply List.ext_getElem?
  intro i
  rw [List.getElem?_map, List.getElem?_map]
  by_cases hi : q0 = i
  · subst hi
    rw [List.getElem?_set_self (List.getElem?_eq_some_iff.mp h).1, h]
    rfl
  · rw [List.getElem?_set_ne hi]
section AMN
variable {p : Program} {l : Launch} {e : Env} {R : Room} {s : State} {m : MethodId} {args : Array Value} {below : List Frame} {meth : Method} {c : Code} {H : Heap} {locs : List Loc} {cells slots : Nat} {Q : State → Prop}
variable {cc : ByteArray} {pc : Nat} {ls : Array Slot} {rest : List Value} {D : va_G} {cl : List vw_C} {A : Nat → Prop} {ws : va_W} {H0 : Heap} {cI cL : ClassId}
theorem am_newI (hexec : p.tables.exec = Jvm.exec) (hb : c.code = cc) (harr : (Cond.arrayClass .int).before args s = true) (hK : va_K D cl [(cI, .int), (cL, .long)] s) (hP : va_P D cl ws H) (hD : va_D A ws) (hS : va_S A H0 H locs) (hA : ∀ q, H0.size ≤ q → A q)
    {n : Int32} (N : Nat) (hn : ¬ n < 0) (hN : n.toNatClampNeg = N) (hbytes : N * componentBytes .int ≤ 536870912) (hcells : cells + 1 ≤ R.cells) (hslots : slots + N ≤ R.slots) (hdg : decode cc pc = .ok (.newarray .int, 2))
    (kk : ∀ (q : Nat) (H1 : Heap), va_P D cl (ws ++ [(q, .inl (cI, N, .inl (fun _ => 0)))]) H1 → va_D A (ws ++ [(q, .inl (cI, N, .inl (fun _ => 0)))]) → va_S A H0 H1 locs →
      W p l e R s m args below meth c H1 locs (cells + 1) (slots + N) Q (F0 m (pc + 2) ls (.ref q :: rest))) : W p l e R s m args below meth c H locs cells slots Q (F0 m pc ls (.int n :: rest)) :=
  va_newa (atype := .int) hexec hb harr rfl hK hP hD hS hA (a0 := (N, .inl (fun _ => 0))) (fun _ => rfl) hn hN hbytes hcells hslots hdg (fun q cA H1 hK1 hP1 hD1 hS1 => by
    have h1 := (hK1.2 0 _ rfl).2
    have h2 := (hK1.2 2 _ rfl).2
    have e : cA = cI := Option.some.inj (h2.symm.trans h1)
    subst e
    exact kk q H1 hP1 hD1 hS1)
theorem am_newL (hexec : p.tables.exec = Jvm.exec) (hb : c.code = cc) (harr : (Cond.arrayClass .long).before args s = true) (hK : va_K D cl [(cI, .int), (cL, .long)] s) (hP : va_P D cl ws H) (hD : va_D A ws) (hS : va_S A H0 H locs) (hA : ∀ q, H0.size ≤ q → A q)
    {n : Int32} (N : Nat) (hn : ¬ n < 0) (hN : n.toNatClampNeg = N) (hbytes : N * componentBytes .long ≤ 536870912) (hcells : cells + 1 ≤ R.cells) (hslots : slots + N ≤ R.slots) (hdg : decode cc pc = .ok (.newarray .long, 2))
    (kk : ∀ (q : Nat) (H1 : Heap), va_P D cl (ws ++ [(q, .inl (cL, N, .inr (.inl (fun _ => 0))))]) H1 → va_D A (ws ++ [(q, .inl (cL, N, .inr (.inl (fun _ => 0))))]) → va_S A H0 H1 locs →
      W p l e R s m args below meth c H1 locs (cells + 1) (slots + N) Q (F0 m (pc + 2) ls (.ref q :: rest))) : W p l e R s m args below meth c H locs cells slots Q (F0 m pc ls (.int n :: rest)) :=
  va_newa (atype := .long) hexec hb harr rfl hK hP hD hS hA (a0 := (N, .inr (.inl (fun _ => 0)))) (fun _ => rfl) hn hN hbytes hcells hslots hdg (fun q cA H1 hK1 hP1 hD1 hS1 => by
    have h1 := (hK1.2 1 _ rfl).2
    have h2 := (hK1.2 2 _ rfl).2
    have e : cA = cL := Option.some.inj (h2.symm.trans h1)
    subst e
    exact kk q H1 hP1 hD1 hS1)
end AMN
theorem am_blindC {L : List (String × Nat × MethodName × String)} {cl : List vw_C} {D : va_G} {A : Nat → Prop} {w : va_W} {tys : List (ClassId × FieldType)} {sz : Nat} {av : List Value} : FrameBlind (va_Pc av (fun U => U.heap.size = sz ∧ am_M L cl D A w tys U)) := fun a U g mk q => by
  obtain ⟨q0, q1, q2, q3, q4, q5⟩ := q
  exact ⟨q0, q1, q2, va_K.moved (u := U) (U := U.calling g mk a) (Vm.Alike.refl U.vm) q3, am_nw_call q4, q5⟩
-- ===== the system's world, and its methods as functions of numbers (each as its text is, loop by loop) =====
theorem am_ge {x : Int32} {k n : Nat} (hx : x = nI n) (hn : n < 2 ^ 31) (hk : k < 2 ^ 31) : (x ≤ nI k) ↔ n ≤ k := by rw [hx, nI_leI hn hk]
theorem am_gt {x : Int32} {k n : Nat} (hx : x = nI n) (hn : n < 2 ^ 31) (hk : k < 2 ^ 31) : (x < nI k) ↔ n < k := by rw [hx, nI_ltI hn hk]
theorem am_shl1 : ∀ k, k < 31 → (1 : Int32) <<< (nI k &&& 31) = nI (2 ^ k) := by decide +kernel
theorem am_or (a b : Nat) : nI a ||| nI b = nI (a ||| b) := by
  apply Int32.toBitVec_inj.mp
  simp [nI, Int32.toBitVec_or, Int32.toBitVec_ofNat', BitVec.ofNat_or]
-- the last act as a number: 0 none, j + 1 act j
def ac_la : Nat → Int32
  | 0 => -1
  | j + 1 => nI j
theorem ac_la_inc : ∀ j, ac_la j + 1 = ac_la (j + 1)
  | 0 => by decide +kernel
  | j + 1 => nI_1 j
theorem ac_la_ne (j : Nat) (h : j < 2 ^ 30) : ¬ ac_la (j + 1) = -1 := by
  intro z
  have h1 : (nI j).toInt = (j : Int) := nI_toInt (by omega)
  have h2 : (ac_la (j + 1)).toInt = -1 := by rw [z]; decide +kernel
  rw [show ac_la (j + 1) = nI j from rfl, h1] at h2
  omega
def ac_pl : Nat → Nat → Nat
  | 0, b => 100 + b
  | j + 1, b => j * 10 + b
def ac_has (x y : Int32) : Int32 := if ((x >>> (y &&& 31)) &&& 1) = 0 then 0 else 1
def ac_isPart (x : Int32) : Int32 := if x < 0 then 0 else if 12 ≤ x then 0 else 1
def ac_isKind (x : Int32) : Int32 := if x < 0 then 0 else if 6 ≤ x then 0 else 1
def ac_isMove (x y : Int32) : Int32 := if ac_isKind x = 0 then 0 else if ac_isKind y = 0 then 0 else if x = y then 0 else 1
def ac_isPrice (x : Int64) : Int32 := if x < 0 then 0 else if 1000000 < x then 0 else 1
def ac_isWorth (x : Int64) : Int32 := if x < -1000000 then 0 else if 1000000 < x then 0 else 1
/-- member: n steps are left, at number k, c members were passed -/
def ac_mem (set key : Int32) : Nat → Nat → Int32 → Int32
  | 0, _, _ => -1
  | n + 1, k, c => if ac_has set (nI k) = 0 then ac_mem set key n (k + 1) c else if c = key then nI k else ac_mem set key n (k + 1) (c + 1)
def ac_hasAct (n x : Int32) : Int32 := if x < 0 then 0 else if n ≤ x then 0 else 1
def ac_all (n : Int32) : Int32 := ((1 : Int32) <<< (n &&& 31)) - 1
def ac_addNeed (more b : Int32) (ne : Nat → Int32) : Nat → Nat → Int32
  | 0 => ne
  | k + 1 => if nI k = b then upd (ac_addNeed more b ne k) k (ac_addNeed more b ne k k ||| more) else if ac_has (ac_addNeed more b ne k k) b = 0 then ac_addNeed more b ne k else upd (ac_addNeed more b ne k) k (ac_addNeed more b ne k k ||| more)
/-- placeOfRest: n steps are left, at place k -/
def ac_place (rp : Nat → Int32) (x : Int32) : Nat → Nat → Nat
  | 0, k => k
  | n + 1, k => if rp k = x then k else ac_place rp x n (k + 1)
theorem ac_place_le (rp : Nat → Int32) (x : Int32) : ∀ n k, k ≤ ac_place rp x n k ∧ ac_place rp x n k ≤ k + n
  | 0, k => ⟨Nat.le_refl _, Nat.le_refl _⟩
  | n + 1, k => by
    rw [ac_place]
    split
    · exact ⟨Nat.le_refl _, by omega⟩
    · obtain ⟨h1, h2⟩ := ac_place_le rp x n (k + 1)
      exact ⟨by omega, by omega⟩
def ac_restW (rp : Nat → Int32) (rc : Nat → Int64) (nr : Nat) (x : Int32) : Int64 := if ac_place rp x nr 0 < nr then rc (ac_place rp x nr 0) else 0
def ac_freed (fr : Nat → Int32) (set : Int32) : Nat → Int32
  | 0 => 0
  | k + 1 => if ac_has set (nI k) = 0 then ac_freed fr set k else if fr k = -1 then ac_freed fr set k else ac_freed fr set k ||| ((1 : Int32) <<< (fr k &&& 31))
def ac_whole (fr : Nat → Int32) (brk : Int32) (n : Nat) (set : Int32) : Int32 := ac_freed fr set n &&& (ac_freed fr (set &&& brk) n ^^^ (-1))
def ac_cents (to si : Nat → Int32) (ce ch tu : Nat → Int64) : Nat → Nat → Int64
  | 0, b => ce b
  | j + 1, b => ce b + ch (to j * 6 + to b).toNatClampNeg + tu (si j * 6 + si b).toNatClampNeg
def ac_needed (ne : Nat → Int32) (set : Int32) : Nat → Int32
  | 0 => 0
  | k + 1 => if ac_has set (nI k) = 0 then ac_needed ne set k else ac_needed ne set k ||| ne k
def ac_lasts (ne : Nat → Int32) (n : Nat) (set : Int32) : Int32 := if (ac_needed ne set n &&& (set ^^^ (-1))) = 0 then set &&& (ac_needed ne set n ^^^ (-1)) else 0
def ac_nexts (ne : Nat → Int32) (set : Int32) : Nat → Int32
  | 0 => 0
  | k + 1 => if ac_has set (nI k) = 0 then (if (ne k &&& (set ^^^ (-1))) = 0 then ac_nexts ne set k ||| ((1 : Int32) <<< (nI k &&& 31)) else ac_nexts ne set k) else ac_nexts ne set k
def ac_vals (wo sh va : Nat → Int64) : Nat → Nat → Int64
  | 0 => va
  | k + 1 => vp_updL (ac_vals wo sh va k) k (wo k * sh k)
/-- setSteps: the inner loop, j lasts are through -/
def ac_ssi (cents : Nat → Nat → Int64) (b : Nat) (f : Nat → Int64) : Nat → Nat → Int64
  | 0 => f
  | j + 1 => vp_updL (ac_ssi cents b f j) (ac_pl j b) (cents j b * 27720)
def ac_sso (cents : Nat → Nat → Int64) (n : Nat) (f : Nat → Int64) : Nat → Nat → Int64
  | 0 => f
  | b + 1 => ac_ssi cents b (ac_sso cents n f b) (n + 1)
def ac_mby (mo stp : Nat → Int64) (j s b : Nat) : Int64 := mo ((s ||| 2 ^ b) * 10 + b) - stp (ac_pl j b)
def ac_max (x y : Int64) : Int64 := if y < x then x else y
def ac_mfrom (mo stp : Nat → Int64) (j s : Nat) (nexts : Int32) (ed : Int64) : Nat → Int64
  | 0 => ed
  | b + 1 => if ac_has nexts (nI b) = 0 then ac_mfrom mo stp j s nexts ed b else ac_max (ac_mfrom mo stp j s nexts ed b) (ac_mby mo stp j s b)
def ac_endl (va : Nat → Int64) (whole : Int32) (e0 : Int64) : Nat → Int64
  | 0 => e0
  | k + 1 => if ac_has whole (nI k) = 0 then ac_endl va whole e0 k else ac_endl va whole e0 k + va k
def ac_end (fr rp : Nat → Int32) (rc va : Nat → Int64) (brk : Int32) (n nr : Nat) (set : Int32) : Int64 :=
  ac_endl va (ac_whole fr brk n set) (ac_restW rp rc nr (4095 &&& (ac_freed fr set n ^^^ (-1))) * 27720) 12
/-- setMost: the loop over the last acts -/
def ac_sml (stp : Nat → Int64) (s : Nat) (lasts nexts : Int32) (ed : Int64) (n : Nat) (mo : Nat → Int64) : Nat → Nat → Int64
  | 0 => mo
  | k + 1 => if ac_has lasts (nI k) = 0 then ac_sml stp s lasts nexts ed n mo k else vp_updL (ac_sml stp s lasts nexts ed n mo k) (s * 10 + k) (ac_mfrom (ac_sml stp s lasts nexts ed n mo k) stp (k + 1) s nexts ed n)
def ac_setMost (fr rp ne : Nat → Int32) (rc va stp : Nat → Int64) (brk : Int32) (n nr : Nat) (s : Nat) (mo : Nat → Int64) : Nat → Int64 :=
  if ac_lasts ne n (nI s) = 0 then mo else ac_sml stp s (ac_lasts ne n (nI s)) (ac_nexts ne (nI s) n) (ac_end fr rp rc va brk n nr (nI s)) n mo n
/-- greatestGain: the sets from s down to 1 -/
def ac_down (fr rp ne : Nat → Int32) (rc va stp : Nat → Int64) (brk : Int32) (n nr : Nat) : Nat → (Nat → Int64) → Nat → Int64
  | 0, mo => mo
  | s + 1, mo => ac_down fr rp ne rc va stp brk n nr s (ac_setMost fr rp ne rc va stp brk n nr (s + 1) mo)
/-- bestNext's search: n steps are left, at act k; 0 none, k + 1 act k -/
def ac_bnl (mo stp : Nat → Int64) (j s : Nat) (nexts : Int32) (best : Int64) : Nat → Nat → Nat
  | 0, _ => 0
  | n + 1, k => if ac_has nexts (nI k) = 0 then ac_bnl mo stp j s nexts best n (k + 1) else if ac_mby mo stp j s k = best then k + 1 else ac_bnl mo stp j s nexts best n (k + 1)
def ac_bn (fr rp ne : Nat → Int32) (rc va stp mo : Nat → Int64) (brk : Int32) (n nr : Nat) (s j : Nat) : Nat :=
  if ac_mfrom mo stp j s (ac_nexts ne (nI s) n) (ac_end fr rp rc va brk n nr (nI s)) n = ac_end fr rp rc va brk n nr (nI s) then 0
  else ac_bnl mo stp j s (ac_nexts ne (nI s) n) (ac_mfrom mo stp j s (ac_nexts ne (nI s) n) (ac_end fr rp rc va brk n nr (nI s)) n) n 0
theorem ac_bnl_le (mo stp : Nat → Int64) (j s : Nat) (nexts : Int32) (best : Int64) : ∀ n k, ac_bnl mo stp j s nexts best n k ≤ k + n
  | 0, k => Nat.zero_le _
  | n + 1, k => by
    have h := ac_bnl_le mo stp j s nexts best n (k + 1)
    rw [ac_bnl]
    split
    · omega
    · split
      · omega
      · omega
def ac_brg (va : Nat → Int64) (whole : Int32) (br : Nat → Int64) : Nat → Nat → Int64
  | 0 => br
  | k + 1 => if ac_has whole (nI k) = 0 then vp_updL (ac_brg va whole br k) k 0 else vp_updL (ac_brg va whole br k) k (va k)
-- the line
def ac_tot (ce : Nat → Int64) (set : Int32) : Nat → Int64
  | 0 => 0
  | k + 1 => if ac_has set (nI k) = 0 then ac_tot ce set k else ac_tot ce set k + ce k
def ac_dear (ce : Nat → Int64) (set : Int32) : Nat → Int64
  | 0 => 0
  | k + 1 => if ac_has set (nI k) = 0 then ac_dear ce set k else ac_max (ac_dear ce set k) (ce k)
def ac_least (ce : Nat → Int64) (set st : Int32) (n : Nat) : Int64 :=
  if st ≤ 0 then ac_tot ce set n else ac_max (ac_dear ce set n) ((ac_tot ce set n + st.toInt64 - 1) / st.toInt64)
def ac_keep (set : Int32) (tr told : Nat → Int32) : Nat → Nat → Int32
  | 0 => told
  | k + 1 => if ac_has set (nI k) = 0 then upd (ac_keep set tr told k) k (-1) else upd (ac_keep set tr told k) k (tr k)
def ac_imax (x y : Int32) : Int32 := if x < y then y else x
def ac_imin (x y : Int32) : Int32 := if y < x then y else x
def ac_early (set nd : Int32) (tr : Nat → Int32) : Nat → Int32
  | 0 => 0
  | k + 1 => if ac_has (set &&& nd) (nI k) = 0 then ac_early set nd tr k else ac_imax (ac_early set nd tr k) (tr k)
def ac_late (set st a : Int32) (ne tr : Nat → Int32) : Nat → Int32
  | 0 => st - 1
  | k + 1 => if ac_has set (nI k) = 0 then ac_late set st a ne tr k else if ac_has (ne k) a = 0 then ac_late set st a ne tr k else ac_imin (ac_late set st a ne tr k) (tr k)
theorem am_p2 {n : Nat} (h : n ≤ 10) : 1 ≤ 2 ^ n ∧ 2 ^ n ≤ 1024 := ⟨Nat.one_le_two_pow, Nat.pow_le_pow_right (by decide) h⟩
theorem am_all {x : Int32} {n : Nat} (hx : x = nI n) (h : n ≤ 10) : ac_all x = nI (2 ^ n - 1) := by
  subst hx
  rw [ac_all, am_shl1 n (by omega)]
  exact pk_sub (am_p2 h).1
theorem am_ix6 {x y : Int32} (hx : ∃ t, t < 6 ∧ x = nI t) (hy : ∃ t, t < 6 ∧ y = nI t) : x * 6 + y = nI (x * 6 + y).toNatClampNeg ∧ (x * 6 + y).toNatClampNeg < 36 := by
  obtain ⟨t, ht, rfl⟩ := hx
  obtain ⟨u, hu, rfl⟩ := hy
  have e : nI t * 6 + nI u = nI (t * 6 + u) := by rw [show (6 : Int32) = nI 6 from rfl, pk_mul, nI_add]
  rw [e, nI_clamp (by omega)]
  exact ⟨rfl, by omega⟩
theorem am_or_lt {s b : Nat} (hs : s < 1024) (hb : b < 10) : s ||| 2 ^ b < 1024 := Nat.or_lt_two_pow (n := 10) hs (Nat.pow_lt_pow_right (by decide) hb)
theorem am_six {s b : Nat} (hb : b < 31) : (nI s ||| ((1 : Int32) <<< (nI b &&& 31))) * 10 + nI b = nI ((s ||| 2 ^ b) * 10 + b) := by
  rw [am_shl1 b hb, am_or, show (10 : Int32) = nI 10 from rfl, pk_mul, nI_add]
theorem ac_pl_lt : ∀ {j b : Nat}, j ≤ 10 → b < 10 → ac_pl j b < 110
  | 0, b, _, hb => by rw [ac_pl]; omega
  | j + 1, b, hj, hb => by rw [ac_pl]; omega
theorem ac_pl_eq0 (b : Nat) : (10 : Int32) * 10 + nI b = nI (ac_pl 0 b) := by
  rw [show (10 : Int32) * 10 = nI 100 from by decide +kernel, nI_add]; rfl
theorem ac_pl_eq1 (j b : Nat) : nI j * 10 + nI b = nI (ac_pl (j + 1) b) := by
  rw [show (10 : Int32) = nI 10 from rfl, pk_mul, nI_add]; rfl
/-- Integer.bitCount, as its text is -/
def ac_sr (x : Int32) (k : Int32) : Int32 := (x.toUInt32 >>> (k.toUInt32 &&& Int32.toUInt32 31)).toInt32
def ac_bc1 (x : Int32) : Int32 := x - (ac_sr x 1 &&& 1431655765)
def ac_bc2 (x : Int32) : Int32 := (x &&& 858993459) + (ac_sr x 2 &&& 858993459)
def ac_bc3 (x : Int32) : Int32 := (x + ac_sr x 4) &&& 252645135
def ac_bc4 (x : Int32) : Int32 := x + ac_sr x 8
def ac_bc5 (x : Int32) : Int32 := x + ac_sr x 16
def ac_bc (x : Int32) : Int32 := ac_bc5 (ac_bc4 (ac_bc3 (ac_bc2 (ac_bc1 x)))) &&& 63
def ac_count (ne : Nat → Int32) (n : Nat) : Nat → Int64
  | 0 => 1
  | k + 1 => ac_count ne n k + (ac_bc (ac_lasts ne n (nI (k + 1)))).toInt64
theorem am_lt16 {k : Nat} (h : k < 2 ^ 31) : nI k < 16 ↔ k < 16 := by rw [show (16 : Int32) = nI 16 from rfl, nI_ltI h (by decide)]
theorem am_ix10 (s k : Nat) : nI s * 10 + nI k = nI (s * 10 + k) := by rw [show (10 : Int32) = nI 10 from rfl, pk_mul, nI_add]
theorem ac_la_ge {x : Int32} {j n : Nat} (hx : x = nI n) (hn : n < 2 ^ 30) (hj : j < 2 ^ 30) : (x ≤ ac_la j) ↔ n + 1 ≤ j := by
  subst hx
  cases j with
  | zero =>
    refine ⟨fun h => ?_, fun h => by omega⟩
    have h1 := Int32.le_iff_toInt_le.mp h
    rw [nI_toInt (by omega), show (ac_la 0).toInt = -1 from by decide +kernel] at h1
    omega
  | succ j =>
    rw [show ac_la (j + 1) = nI j from rfl, nI_leI (by omega) (by omega)]
    omega
theorem ac_bn_le (fr rp ne : Nat → Int32) (rc va stp mo : Nat → Int64) (brk : Int32) (n nr s j : Nat) : ac_bn fr rp ne rc va stp mo brk n nr s j ≤ n := by
  unfold ac_bn
  split
  · exact Nat.zero_le _
  · have h := ac_bnl_le mo stp j s (ac_nexts ne (nI s) n) (ac_mfrom mo stp j s (ac_nexts ne (nI s) n) (ac_end fr rp rc va brk n nr (nI s)) n) n 0
    omega
/-- keepRow: the row so far, its length, its set, the next act -/
def ac_kr (bn : Nat → Nat → Nat) : Nat → (Nat → Int32) → Nat → Nat → Nat → (Nat → Int32) × Nat × Nat
  | 0, row, len, s, _ => (row, len, s)
  | _ + 1, row, len, s, 0 => (row, len, s)
  | n + 1, row, len, s, a + 1 => ac_kr bn n (upd row len (nI a)) (len + 1) (s ||| 2 ^ a) (bn (s ||| 2 ^ a) (a + 1))
theorem ac_kr_0 (bn : Nat → Nat → Nat) (n : Nat) (row : Nat → Int32) (len s : Nat) : ac_kr bn n row len s 0 = (row, len, s) := by
  cases n <;> rfl
theorem am_ne0 {x : Int32} (h : ¬ x ≤ 0) : ¬ x.toInt64 = 0 := by
  intro z
  apply h
  have h1 : x.toInt64.toInt = 0 := by rw [z]; rfl
  rw [Int32.toInt_toInt64] at h1
  exact Int32.le_iff_toInt_le.mpr (by rw [h1]; decide)
-- the face
abbrev ac_actOk (n x t d : Int32) (z : Int64) : Prop := ¬ 10 ≤ n ∧ (x = -1 ∨ ¬ ac_isPart x = 0) ∧ ¬ ac_isKind t = 0 ∧ ¬ ac_isKind d = 0 ∧ ¬ ac_isPrice z = 0
abbrev ac_befOk (n : Int32) (ne : Nat → Int32) (x y : Int32) : Prop := ¬ ac_hasAct n x = 0 ∧ ¬ ac_hasAct n y = 0 ∧ ¬ x = y ∧ ac_has (ne x.toNatClampNeg) y = 0
abbrev ac_movOk (x y : Int32) (z : Int64) : Prop := ¬ ac_isMove x y = 0 ∧ ¬ ac_isPrice z = 0
abbrev ac_worOk (x : Int32) (z : Int64) : Prop := ¬ ac_isPart x = 0 ∧ ¬ ac_isWorth z = 0
abbrev ac_rstOk (v z : Int64) (p : Nat) : Prop := ¬ v < 0 ∧ ¬ 4095 < v ∧ ¬ ac_isWorth z = 0 ∧ p < 16
abbrev ac_brkOk (n b x : Int32) : Prop := ¬ ac_hasAct n x = 0 ∧ ac_has b x = 0
abbrev ac_surOk (x : Int32) (u v : Int64) : Prop := ¬ ac_isPart x = 0 ∧ ¬ v < 1 ∧ ¬ 12 < v ∧ ¬ u < 0 ∧ u ≤ v
def ac_step (n : Int32) (row : Nat → Int32) (x : Int32) : Int32 := if x < 0 then -1 else if n ≤ x then -1 else row x.toNatClampNeg
def ac_gain (tot : Int64) (br : Nat → Int64) (x : Int32) : Int64 := if x = -1 then tot else if ac_isPart x = 0 then 0 else br x.toNatClampNeg
def ac_stn (told : Nat → Int32) (x : Int32) : Int32 := if x < 0 then -1 else if 10 ≤ x then -1 else told x.toNatClampNeg
def ac_bnd1 (rc : Nat → Int64) : Nat → Int64
  | 0 => 0
  | k + 1 => ac_max (ac_bnd1 rc k) (rc k * 27720)
def ac_bnd2 (wo sh : Nat → Int64) (b0 : Int64) : Nat → Int64
  | 0 => b0
  | k + 1 => ac_bnd2 wo sh b0 k + ac_max 0 (wo k * sh k)
theorem am_rng {n x : Int32} {k : Nat} (hn : n = nI k) (hk : k < 2 ^ 31) (h0 : ¬ x < 0) (h1 : ¬ n ≤ x) : ∃ z, z < k ∧ x = nI z := by
  obtain ⟨j, hj, rfl⟩ := nI_of h0
  rw [hn, nI_leI hk hj] at h1
  exact ⟨j, by omega, rfl⟩
theorem am_hasAct {n x : Int32} {k : Nat} (hn : n = nI k) (hk : k < 2 ^ 31) (h : ¬ ac_hasAct n x = 0) : ∃ z, z < k ∧ x = nI z := by
  unfold ac_hasAct at h
  split at h
  · exact absurd rfl h
  · split at h
    · exact absurd rfl h
    · exact am_rng hn hk (by assumption) (by assumption)
theorem am_isPart {x : Int32} (h : ¬ ac_isPart x = 0) : ∃ z, z < 12 ∧ x = nI z := by
  unfold ac_isPart at h
  split at h
  · exact absurd rfl h
  · split at h
    · exact absurd rfl h
    · exact am_rng (rfl : (12 : Int32) = nI 12) (by decide) (by assumption) (by assumption)
theorem am_isKind {x : Int32} (h : ¬ ac_isKind x = 0) : ∃ z, z < 6 ∧ x = nI z := by
  unfold ac_isKind at h
  split at h
  · exact absurd rfl h
  · split at h
    · exact absurd rfl h
    · exact am_rng (rfl : (6 : Int32) = nI 6) (by decide) (by assumption) (by assumption)
theorem am_isMove {x y : Int32} (h : ¬ ac_isMove x y = 0) : (∃ z, z < 6 ∧ x = nI z) ∧ ∃ z, z < 6 ∧ y = nI z := by
  unfold ac_isMove at h
  split at h
  · exact absurd rfl h
  · split at h
    · exact absurd rfl h
    · exact ⟨am_isKind (by assumption), am_isKind (by assumption)⟩
theorem am_lne0 {v : Int64} (h : ¬ v < 1) : ¬ v = 0 := fun z => h (by rw [z]; decide)
-- the planner's work and the row, of the whole state
def ac_rs (ai : Nat → Nat → Int32) (al : Nat → Nat → Int64) (na : Nat) : Nat → Int64 := ac_sso (ac_cents (ai 6) (ai 7) (al 8) (al 10) (al 11)) na (al 17) na
def ac_rd (fi : Nat → Int32) (ai : Nat → Nat → Int32) (al : Nat → Nat → Int64) (na nr : Nat) : Nat → Int64 := ac_down (ai 5) (ai 14) (ai 9) (al 15) (al 16) (ac_rs ai al na) (fi 1) na nr (2 ^ na - 1) (al 18)
def ac_rg (fi : Nat → Int32) (ai : Nat → Nat → Int32) (al : Nat → Nat → Int64) (na nr : Nat) : Int64 := ac_mfrom (ac_rd fi ai al na nr) (ac_rs ai al na) 0 0 (ac_nexts (ai 9) 0 na) (ac_end (ai 5) (ai 14) (al 15) (al 16) (fi 1) na nr 0) na
def ac_rk (fi : Nat → Int32) (ai : Nat → Nat → Int32) (al : Nat → Nat → Int64) (na nr : Nat) : (Nat → Int32) × Nat × Nat := ac_kr (ac_bn (ai 5) (ai 14) (ai 9) (al 15) (al 16) (al 17) (al 18) (fi 1) na nr) 10 (ai 19) 0 0 (ac_bn (ai 5) (ai 14) (ai 9) (al 15) (al 16) (al 17) (al 18) (fi 1) na nr 0 0)
def ac_rb (fi : Nat → Int32) (ai : Nat → Nat → Int32) (al : Nat → Nat → Int64) (na : Nat) (s : Int32) : Nat → Int64 := ac_brg (al 16) (ac_whole (ai 5) (fi 1) na s) (al 20) 12
/-- told, trial, loads, longest -/
abbrev ac_T : Type := (Nat → Int32) × (Nat → Int32) × (Nat → Int64) × Int64
def ac_tput (t : ac_T) (a p : Nat) (cen : Int64) : ac_T := (t.1, upd t.2.1 a (nI p), vp_updL t.2.2.1 p (t.2.2.1 p + cen), t.2.2.2)
def ac_toff (u : ac_T) (p : Nat) (cen : Int64) : ac_T := (u.1, u.2.1, vp_updL u.2.2.1 p (u.2.2.1 p - cen), u.2.2.2)
def ac_tl (go : Int64 → ac_T → ac_T) (cen least : Int64) (late : Int32) (a : Nat) (load : Int64) : Nat → Nat → ac_T → ac_T
  | 0, _, t => t
  | m + 1, p, t => if late < nI p then t else if t.2.2.2 ≤ least then t else if t.2.2.2 ≤ ac_max load (t.2.2.1 p + cen) then ac_tl go cen least late a load m (p + 1) t
    else ac_tl go cen least late a load m (p + 1) (ac_toff (go (ac_max load (t.2.2.1 p + cen)) (ac_tput t a p cen)) p cen)
def ac_try (ce : Nat → Int64) (ne : Nat → Int32) (set st : Int32) (least : Int64) (na : Nat) : Nat → Nat → Int64 → ac_T → ac_T
  | 0, _, load, t => (ac_keep set t.2.1 t.1 na, t.2.1, t.2.2.1, load)
  | n + 1, a, load, t => if ac_has set (nI a) = 0 then ac_try ce ne set st least na n (a + 1) load t
    else ac_tl (fun m u => ac_try ce ne set st least na n (a + 1) m u) (ce a) least (ac_late set st (nI a) ne t.2.1 a) a load (4 - (ac_early set (ne a) t.2.1 a).toNatClampNeg) (ac_early set (ne a) t.2.1 a).toNatClampNeg t
def ac_fillL (z : Int64) (f : Nat → Int64) : Nat → Nat → Int64
  | 0 => f
  | k + 1 => vp_updL (ac_fillL z f k) k z
def ac_fillI (z : Int32) (f : Nat → Int32) : Nat → Nat → Int32
  | 0 => f
  | k + 1 => upd (ac_fillI z f k) k z
theorem ac_early_nn (set nd : Int32) (tr : Nat → Int32) : ∀ k, ¬ ac_early set nd tr k < 0
  | 0 => by
    show ¬ (0 : Int32) < 0
    decide
  | k + 1 => by
    have h := ac_early_nn set nd tr k
    rw [ac_early]
    split
    · exact h
    · unfold ac_imax
      split
      · intro z
        exact h (Int32.lt_trans (by assumption) z)
      · exact h
theorem ac_late_le (set st a : Int32) (ne tr : Nat → Int32) : ∀ k, ac_late set st a ne tr k ≤ st - 1
  | 0 => Int32.le_refl _
  | k + 1 => by
    have h := ac_late_le set st a ne tr k
    rw [ac_late]
    split
    · exact h
    · split
      · exact h
      · unfold ac_imin
        split
        · exact Int32.le_of_lt (Int32.lt_of_lt_of_le (by assumption) h)
        · exact h
abbrev ac_tstOk (x : Int32) (z : Int64) : Prop := ¬ ac_isPart x = 0 ∧ ¬ ac_isPrice z = 0
def ac_tst (sh g1 g2 g3 z : Int64) : Int32 := if sh * g2 + (27720 - sh) * g3 - z * 27720 * 27720 ≤ g1 * 27720 then 0 else 1
theorem am_clamp {x : Int32} (h : ¬ x < 0) : x = nI x.toNatClampNeg := by
  obtain ⟨j, hj, rfl⟩ := nI_of h
  rw [nI_clamp hj]
theorem am_clamp_lt (x : Int32) : x.toNatClampNeg < 2 ^ 31 := by
  by_cases h : x < 0
  · have h1 : x.toInt < 0 := Int32.lt_iff_toInt_lt.mp h
    have h2 : x.toNatClampNeg = x.toInt.toNat := rfl
    omega
  · obtain ⟨j, hj, rfl⟩ := nI_of h
    rw [nI_clamp hj]
    exact hj
theorem am_p4 {x L : Int32} {st p : Nat} (hx : x = nI st) (hst : st ≤ 4) (hp : p < 2 ^ 31) (h1 : L ≤ x - 1) (h2 : ¬ L < nI p) : p < 4 := by
  subst hx
  have a1 := Int32.le_iff_toInt_le.mp h1
  have a2 : (nI p).toInt ≤ L.toInt := Int.not_lt.mp (fun z => h2 (Int32.lt_iff_toInt_lt.mpr z))
  rw [show nI st - 1 = nI st - nI 1 from rfl, pk_sub_toInt (by omega) (by omega)] at a1
  rw [nI_toInt hp] at a2
  omega
theorem ac_tl_s1 {go : Int64 → ac_T → ac_T} {cen least : Int64} {late : Int32} {a : Nat} {load : Int64} {m p : Nat} {t : ac_T} (h : late < nI p) : ac_tl go cen least late a load m p t = t := by
  cases m with
  | zero => rfl
  | succ m => rw [ac_tl, if_pos h]
theorem ac_tl_s2 {go : Int64 → ac_T → ac_T} {cen least : Int64} {late : Int32} {a : Nat} {load : Int64} {m p : Nat} {t : ac_T} (h : t.2.2.2 ≤ least) : ac_tl go cen least late a load m p t = t := by
  cases m with
  | zero => rfl
  | succ m =>
    rw [ac_tl]
    split
    · rfl
    · first | rfl | rw [if_pos h]
abbrev ac_stOk (any x : Int32) : Prop := ¬ any = 0 ∧ ¬ x < 1 ∧ x ≤ 4
theorem am_st4 {x : Int32} (h1 : ¬ x < 1) (h2 : x ≤ 4) : x = nI x.toNatClampNeg ∧ x.toNatClampNeg ≤ 4 := by
  have h0 : ¬ x < 0 := fun z => h1 (Int32.lt_iff_toInt_lt.mpr (Int.lt_trans (Int32.lt_iff_toInt_lt.mp z) (by decide)))
  obtain ⟨j, hj, rfl⟩ := nI_of h0
  rw [show (4 : Int32) = nI 4 from rfl, nI_leI hj (by decide)] at h2
  rw [nI_clamp hj]
  exact ⟨rfl, h2⟩
def ac_ai0 : Nat → Nat → Int32 := fun c => if c = 21 then ac_fillI (-1) (fun _ => 0) 10 else fun _ => 0
def ac_al0 : Nat → Nat → Int64 := fun c => if c = 13 then ac_fillL 27720 (fun _ => 0) 12 else fun _ => 0
def ac_w (ad : Nat → Nat) (cI cL : ClassId) (fi : Nat → Int32) (fl : Nat → Int64) (ai : Nat → Nat → Int32) (al : Nat → Nat → Int64) : va_W := [(ad 0, .inr (0, [.ref (ad 1), .ref (ad 2), .ref (ad 3), .ref (ad 4)])),
  (ad 1, .inr (1, [.int (fi 0), .ref (ad 5), .ref (ad 6), .ref (ad 7), .ref (ad 8), .ref (ad 9), .int (fi 1), .ref (ad 10), .ref (ad 11), .ref (ad 12), .ref (ad 13), .int (fi 2), .ref (ad 14), .ref (ad 15)])),
  (ad 2, .inr (2, [.ref (ad 1), .ref (ad 16), .ref (ad 17), .ref (ad 18)])),
  (ad 3, .inr (3, [.int (fi 3), .int (fi 4), .int (fi 5), .int (fi 6), .int (fi 7), .long (fl 0), .ref (ad 19), .ref (ad 20)])),
  (ad 4, .inr (4, [.ref (ad 21), .ref (ad 1), .ref (ad 22), .ref (ad 23), .int (fi 8), .int (fi 9), .long (fl 1), .long (fl 2)])),
  (ad 5, .inl (cI, 10, .inl (ai 5))),
  (ad 6, .inl (cI, 10, .inl (ai 6))),
  (ad 7, .inl (cI, 10, .inl (ai 7))),
  (ad 8, .inl (cL, 10, .inr (.inl (al 8)))),
  (ad 9, .inl (cI, 10, .inl (ai 9))),
  (ad 10, .inl (cL, 36, .inr (.inl (al 10)))),
  (ad 11, .inl (cL, 36, .inr (.inl (al 11)))),
  (ad 12, .inl (cL, 12, .inr (.inl (al 12)))),
  (ad 13, .inl (cL, 12, .inr (.inl (al 13)))),
  (ad 14, .inl (cI, 16, .inl (ai 14))),
  (ad 15, .inl (cL, 16, .inr (.inl (al 15)))),
  (ad 16, .inl (cL, 12, .inr (.inl (al 16)))),
  (ad 17, .inl (cL, 110, .inr (.inl (al 17)))),
  (ad 18, .inl (cL, 10240, .inr (.inl (al 18)))),
  (ad 19, .inl (cI, 10, .inl (ai 19))),
  (ad 20, .inl (cL, 12, .inr (.inl (al 20)))),
  (ad 21, .inl (cI, 10, .inl (ai 21))),
  (ad 22, .inl (cI, 10, .inl (ai 22))),
  (ad 23, .inl (cL, 4, .inr (.inl (al 23))))]
