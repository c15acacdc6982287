-- ===== rows of my own over the kit: loops, arrays by a natural index, contracts that read, contracts that write =====
/-- the links to hidden methods of nest mates that the system uses: (own name, place in its pool, method, host) -/
def am_nw (L : List (String × Nat × MethodName × String)) (U : State) : Prop := ∀ q ∈ L, va_Nw (.methodLinkNest q.1 q.2.1 q.2.2.1 q.2.2.2) U
theorem am_nw_warm {L : List (String × Nat × MethodName × String)} {s U : State} (hW : s.WarmedH U.vm) (h : am_nw L s) : am_nw L U := fun q hq => va_Nw.warmM hW (h q hq)
theorem am_nw_call {L : List (String × Nat × MethodName × String)} {U : State} {g : JFrame} {mk : MethodId} {a : Array Value} (h : am_nw L U) : am_nw L (U.calling g mk a) := fun q hq => va_Nw.same (u := U) (U := U.calling g mk a) rfl rfl (h q hq)
theorem am_nw_at {L : List (String × Nat × MethodName × String)} {U : State} (h : am_nw L U) (k : Nat) {a : String} {i : Nat} {x : MethodName} {b : String} (hk : L[k]? = some (a, i, x, b)) : va_Nw (.methodLinkNest a i x b) U := h (a, i, x, b) (List.mem_of_getElem? hk)
/-- the same addresses: apart as before -/
theorem am_D {A : Nat → Prop} {w w' : va_W} (hD : va_D A w) (h : w.map Prod.fst = w'.map Prod.fst) : va_D A w' := by
  have key : ∀ (k : Nat) (q : Nat × va_E), w'[k]? = some q → ∃ q0, w[k]? = some q0 ∧ q0.1 = q.1 := by
    intro k q hk
    have e : (w.map Prod.fst)[k]? = (w'.map Prod.fst)[k]? := by rw [h]
    rw [List.getElem?_map, List.getElem?_map, hk] at e
    cases hw : w[k]? with
    | none => rw [hw] at e; cases e
    | some q0 => rw [hw] at e; exact ⟨q0, rfl, Option.some.inj e⟩
  refine ⟨fun i j x y hi hj hxy => ?_, fun k q hk => ?_⟩
  · obtain ⟨x0, h1, h2⟩ := key i x hi
    obtain ⟨y0, h3, h4⟩ := key j y hj
    exact hD.1 i j x0 y0 h1 h3 (h2.trans (hxy.trans h4.symm))
  · obtain ⟨q0, h1, h2⟩ := key k q hk
    rw [← h2]
    exact hD.2 k q0 h1
section AMK
variable {p : Program} {l : Launch} {e : Env} {R : Room} {s : State} {m : MethodId} {args : Array Value} {below : List Frame} {meth : Method} {c : Code} {H : Heap} {locs : List Loc} {cells slots : Nat} {Q : State → Prop}
/-- a loop that only reads -/
theorem am_loopR {σ : Type} {pc : Nat} {st : List Value} (I : σ → Nat → Array Slot → Prop)
    (step : ∀ (x : σ) (n : Nat) (ls : Array Slot), I x n ls → (∀ (x' : σ) (n' : Nat) (ls' : Array Slot), n' < n → I x' n' ls' → W p l e R s m args below meth c H locs cells slots Q (F0 m pc ls' st)) → W p l e R s m args below meth c H locs cells slots Q (F0 m pc ls st)) :
    ∀ (x : σ) (n : Nat) (ls : Array Slot), I x n ls → W p l e R s m args below meth c H locs cells slots Q (F0 m pc ls st) := by
  have key : ∀ (N : Nat) (x : σ) (n : Nat) (ls : Array Slot), n < N → I x n ls → W p l e R s m args below meth c H locs cells slots Q (F0 m pc ls st) := by
    intro N
    induction N with
    | zero => intro x n ls h; exact absurd h (Nat.not_lt_zero _)
    | succ N ih => intro x n ls h hI; exact step x n ls hI (fun x' n' ls' h' hI' => ih x' n' ls' (Nat.lt_of_lt_of_le h' (Nat.le_of_lt_succ h)) hI')
  intro x n ls hI
  exact key (n + 1) x n ls (Nat.lt_succ_self n) hI
/-- a loop that writes -/
theorem am_loop {σ : Type} {pc : Nat} {st : List Value} (I : σ → Nat → Heap → List Loc → Array Slot → Prop)
    (step : ∀ (x : σ) (n : Nat) (H : Heap) (locs : List Loc) (ls : Array Slot), I x n H locs ls → (∀ (x' : σ) (n' : Nat) (H' : Heap) (locs' : List Loc) (ls' : Array Slot), n' < n → I x' n' H' locs' ls' → W p l e R s m args below meth c H' locs' cells slots Q (F0 m pc ls' st)) → W p l e R s m args below meth c H locs cells slots Q (F0 m pc ls st)) :
    ∀ (x : σ) (n : Nat) (H : Heap) (locs : List Loc) (ls : Array Slot), I x n H locs ls → W p l e R s m args below meth c H locs cells slots Q (F0 m pc ls st) := by
  have key : ∀ (N : Nat) (x : σ) (n : Nat) (H : Heap) (locs : List Loc) (ls : Array Slot), n < N → I x n H locs ls → W p l e R s m args below meth c H locs cells slots Q (F0 m pc ls st) := by
    intro N
    induction N with
    | zero => intro x n H locs ls h; exact absurd h (Nat.not_lt_zero _)
    | succ N ih => intro x n H locs ls h hI; exact step x n H locs ls hI (fun x' n' H' locs' ls' h' hI' => ih x' n' H' locs' ls' (Nat.lt_of_lt_of_le h' (Nat.le_of_lt_succ h)) hI')
  intro x n H locs ls hI
  exact key (n + 1) x n H locs ls (Nat.lt_succ_self n) hI
variable {cc : ByteArray} {pc : Nat} {ls : Array Slot} {rest : List Value} {D : va_G} {cl : List vw_C} {A : Nat → Prop} {a : Nat} {tys : List (ClassId × FieldType)} {ws : va_W} {H0 : Heap}
/-- the value on top is another term -/
theorem am_topi {x y : Int32} (h : x = y) (kk : W p l e R s m args below meth c H locs cells slots Q (F0 m pc ls (.int y :: rest))) : W p l e R s m args below meth c H locs cells slots Q (F0 m pc ls (.int x :: rest)) := by
  subst h; exact kk
theorem am_topl {x y : Int64} (h : x = y) (kk : W p l e R s m args below meth c H locs cells slots Q (F0 m pc ls (.long y :: rest))) : W p l e R s m args below meth c H locs cells slots Q (F0 m pc ls (.long x :: rest)) := by
  subst h; exact kk
theorem am_iald (hexec : p.tables.exec = Jvm.exec) (hb : c.code = cc) (hK : va_K D cl tys s) (hP : va_P D cl ws H) (q0 t0 : Nat) {cA : ClassId} {n : Nat} {f : Nat → Int32} (ha : ws[q0]? = some (a, .inl (cA, n, .inl f))) (ht : tys[t0]? = some (cA, .int)) {i : Int32} (k : Nat) (hi : i = nI k) (hk : k < n) (hn : n < 2 ^ 31) (hdg : decode cc pc = .ok (.iaload, 1))
    (kk : W p l e R s m args below meth c H locs cells slots Q (F0 m (pc + 1) ls (.int (f k) :: rest))) : W p l e R s m args below meth c H locs cells slots Q (F0 m pc ls (.int i :: .ref a :: rest)) := by
  subst hi
  refine va_iald hexec hb hK hP q0 t0 ha ht (vp_in_nI hk hn) hdg ?_
  rw [nI_clamp (Nat.lt_trans hk hn)]
  exact kk
theorem am_lald (hexec : p.tables.exec = Jvm.exec) (hb : c.code = cc) (hK : va_K D cl tys s) (hP : va_P D cl ws H) (q0 t0 : Nat) {cA : ClassId} {n : Nat} {f : Nat → Int64} (ha : ws[q0]? = some (a, .inl (cA, n, .inr (.inl f)))) (ht : tys[t0]? = some (cA, .long)) {i : Int32} (k : Nat) (hi : i = nI k) (hk : k < n) (hn : n < 2 ^ 31) (hdg : decode cc pc = .ok (.laload, 1))
    (kk : W p l e R s m args below meth c H locs cells slots Q (F0 m (pc + 1) ls (.long (f k) :: rest))) : W p l e R s m args below meth c H locs cells slots Q (F0 m pc ls (.int i :: .ref a :: rest)) := by
  subst hi
  refine va_lald hexec hb hK hP q0 t0 ha ht (vp_in_nI hk hn) hdg ?_
  rw [nI_clamp (Nat.lt_trans hk hn)]
  exact kk
theorem am_zald (hexec : p.tables.exec = Jvm.exec) (hb : c.code = cc) (hK : va_K D cl tys s) (hP : va_P D cl ws H) (q0 t0 : Nat) {cA : ClassId} {n : Nat} {f : Nat → Int32} (ha : ws[q0]? = some (a, .inl (cA, n, .inl f))) (ht : tys[t0]? = some (cA, .boolean)) {i : Int32} (k : Nat) (hi : i = nI k) (hk : k < n) (hn : n < 2 ^ 31) (hdg : decode cc pc = .ok (.baload, 1))
    (kk : W p l e R s m args below meth c H locs cells slots Q (F0 m (pc + 1) ls (.int (f k) :: rest))) : W p l e R s m args below meth c H locs cells slots Q (F0 m pc ls (.int i :: .ref a :: rest)) := by
  subst hi
  refine va_zald hexec hb hK hP q0 t0 ha ht (vp_in_nI hk hn) hdg ?_
  rw [nI_clamp (Nat.lt_trans hk hn)]
  exact kk
theorem am_zast (hexec : p.tables.exec = Jvm.exec) (hb : c.code = cc) (hK : va_K D cl tys s) (hP : va_P D cl ws H) (hD : va_D A ws) (hS : va_S A H0 H locs) (q0 t0 : Nat) {cA : ClassId} {n : Nat} {f : Nat → Int32} (ha : ws[q0]? = some (a, .inl (cA, n, .inl f))) (ht : tys[t0]? = some (cA, .boolean)) {i x : Int32} (k : Nat) (hi : i = nI k) (hk : k < n) (hn : n < 2 ^ 31) (hz : vp_nar .boolean x = x) (ws' : va_W) (hw : ws.set q0 (a, .inl (cA, n, .inl (upd f k x))) = ws') (hdg : decode cc pc = .ok (.bastore, 1))
    (kk : ∀ (H1 : Heap) (locs1 : List Loc), va_P D cl ws' H1 → va_D A ws' → va_S A H0 H1 locs1 → W p l e R s m args below meth c H1 locs1 cells slots Q (F0 m (pc + 1) ls rest)) : W p l e R s m args below meth c H locs cells slots Q (F0 m pc ls (.int x :: .int i :: .ref a :: rest)) := by
  subst hi
  subst hw
  refine va_zast hexec hb hK hP hD hS q0 t0 ha ht (vp_in_nI hk hn) hdg ?_
  rw [nI_clamp (Nat.lt_trans hk hn), hz]
  exact kk
theorem am_iast (hexec : p.tables.exec = Jvm.exec) (hb : c.code = cc) (hK : va_K D cl tys s) (hP : va_P D cl ws H) (hD : va_D A ws) (hS : va_S A H0 H locs) (q0 t0 : Nat) {cA : ClassId} {n : Nat} {f : Nat → Int32} (ha : ws[q0]? = some (a, .inl (cA, n, .inl f))) (ht : tys[t0]? = some (cA, .int)) {i x : Int32} (k : Nat) (hi : i = nI k) (hk : k < n) (hn : n < 2 ^ 31) (ws' : va_W) (hw : ws.set q0 (a, .inl (cA, n, .inl (upd f k x))) = ws') (hdg : decode cc pc = .ok (.iastore, 1))
    (kk : ∀ (H1 : Heap) (locs1 : List Loc), va_P D cl ws' H1 → va_D A ws' → va_S A H0 H1 locs1 → W p l e R s m args below meth c H1 locs1 cells slots Q (F0 m (pc + 1) ls rest)) : W p l e R s m args below meth c H locs cells slots Q (F0 m pc ls (.int x :: .int i :: .ref a :: rest)) := by
  subst hi
  subst hw
  refine va_iast hexec hb hK hP hD hS q0 t0 ha ht (vp_in_nI hk hn) hdg ?_
  rw [nI_clamp (Nat.lt_trans hk hn)]
  exact kk
theorem am_last (hexec : p.tables.exec = Jvm.exec) (hb : c.code = cc) (hK : va_K D cl tys s) (hP : va_P D cl ws H) (hD : va_D A ws) (hS : va_S A H0 H locs) (q0 t0 : Nat) {cA : ClassId} {n : Nat} {f : Nat → Int64} (ha : ws[q0]? = some (a, .inl (cA, n, .inr (.inl f)))) (ht : tys[t0]? = some (cA, .long)) {i : Int32} {x : Int64} (k : Nat) (hi : i = nI k) (hk : k < n) (hn : n < 2 ^ 31) (ws' : va_W) (hw : ws.set q0 (a, .inl (cA, n, .inr (.inl (vp_updL f k x)))) = ws') (hdg : decode cc pc = .ok (.lastore, 1))
    (kk : ∀ (H1 : Heap) (locs1 : List Loc), va_P D cl ws' H1 → va_D A ws' → va_S A H0 H1 locs1 → W p l e R s m args below meth c H1 locs1 cells slots Q (F0 m (pc + 1) ls rest)) : W p l e R s m args below meth c H locs cells slots Q (F0 m pc ls (.long x :: .int i :: .ref a :: rest)) := by
  subst hi
  subst hw
  refine va_last hexec hb hK hP hD hS q0 t0 ha ht (vp_in_nI hk hn) hdg ?_
  rw [nI_clamp (Nat.lt_trans hk hn)]
  exact kk
end AMK
-- contracts: what a method finds, what it leaves
def am_R (L : List (String × Nat × MethodName × String)) (cl : List vw_C) (D : va_G) (w : va_W) (tys : List (ClassId × FieldType)) (U : State) : Prop := va_P D cl w U.heap ∧ va_K D cl tys U ∧ am_nw L U
def am_M (L : List (String × Nat × MethodName × String)) (cl : List vw_C) (D : va_G) (A : Nat → Prop) (w : va_W) (tys : List (ClassId × FieldType)) (U : State) : Prop := va_P D cl w U.heap ∧ va_K D cl tys U ∧ am_nw L U ∧ va_D A w
def am_rm (fr lo : Nat) : Room := { frames := fr, cells := 0, slots := 0, locals := lo }
def am_No : Nat → Prop := fun _ => False
def am_Mi (cl : List vw_C) (D : va_G) (v : Int32) (w : va_W) (A : Nat → Prop) : Array Value → State → Outcome → State → Prop := va_Qi (fun (r : Int32) (_ : Unit) => r = v) (fun _ t => va_P D cl w t.heap) A
def am_Ml (cl : List vw_C) (D : va_G) (v : Int64) (w : va_W) (A : Nat → Prop) : Array Value → State → Outcome → State → Prop := va_Ql (fun (r : Int64) (_ : Unit) => r = v) (fun _ t => va_P D cl w t.heap) A
def am_Mv (cl : List vw_C) (D : va_G) (w : va_W) (A : Nat → Prop) : Array Value → State → Outcome → State → Prop := va_Qv (fun (_ : Unit) => True) (fun _ t => va_P D cl w t.heap) A
section AMC
variable {p : Program} {l : Launch} {e : Env} {R : Room} {s : State} {m : MethodId} {args : Array Value} {below : List Frame} {meth : Method} {c : Code} {H : Heap} {locs : List Loc} {cells slots : Nat} {Q : State → Prop}
variable {cc : ByteArray} {pc : Nat} {ls : Array Slot} {rest st0 : List Value} {D : va_G} {cl : List vw_C} {A : Nat → Prop} {tys : List (ClassId × FieldType)} {w w' : va_W} {H0 : Heap} {L : List (String × Nat × MethodName × String)} {a : Array Value}
theorem am_startR {y : MethodName} {ws ws' : List Cond} {fr lo maxL : Nat} {av : List Value} {Qc : Array Value → State → Outcome → State → Prop} {ret : Option FieldType} (hy : plainName y.cls = true) (hw : ws = Cond.code y cc maxL ret :: ws') (hsl : (lg_sl av).length ≤ maxL) (lv : List (Nat × Value)) (hlv : lv_args 0 av = lv)
    (body : ∀ (p : Program) (e : Env) (s : State) (m : MethodId) (below : List Frame) (meth : Method) (c : Code) (ls : Array Slot), p.tables.exec = Jvm.exec → c.code = cc → meth.sig.returnType = ret → c.maxLocals = maxL → s.vm.findClass y.cls = some m.cls → (∀ x ∈ ws, x.before av.toArray s = true) → meth.locks = false → va_P D cl w s.heap → va_K D cl tys s → am_nw L s → lv_has ls maxL lv →
      W p l e (am_rm fr lo) s m av.toArray below meth c s.heap [] 0 0 (MQ below Qc av.toArray s 0 0 am_No) (F0 m 0 ls [])) :
    Met l y ws (am_rm fr lo) (va_Pc av (am_R L cl D w tys)) Qc 0 0 am_No := by
  refine Met.ofW (cc := cc) (maxL := maxL) (ret := ret) hy hw ?_
  intro p e s m args below meth c s₁ B hml hv
  obtain ⟨rfl, hP, hK, hN⟩ := hv
  have hl := lv_entry av (n := maxL) hsl
  rw [lg_entry_eq]
  subst hlv
  exact body p e s m below meth c _ B.exec B.bytes B.returns hml (findClass_of_methodNamed B.named) (atoms_spec (ws := ws) B.pre) B.notSynchronized hP hK hN hl
theorem am_startM {y : MethodName} {ws ws' : List Cond} {fr lo maxL : Nat} {av : List Value} {Qc : Array Value → State → Outcome → State → Prop} {ret : Option FieldType} (hy : plainName y.cls = true) (hw : ws = Cond.code y cc maxL ret :: ws') (hsl : (lg_sl av).length ≤ maxL) (lv : List (Nat × Value)) (hlv : lv_args 0 av = lv)
    (body : ∀ (p : Program) (e : Env) (s : State) (m : MethodId) (below : List Frame) (meth : Method) (c : Code) (ls : Array Slot), p.tables.exec = Jvm.exec → c.code = cc → meth.sig.returnType = ret → c.maxLocals = maxL → s.vm.findClass y.cls = some m.cls → (∀ x ∈ ws, x.before av.toArray s = true) → meth.locks = false → va_K D cl tys s → am_nw L s → va_D A w → ∀ (H : Heap) (locs : List Loc), va_P D cl w H → va_S A s.heap H locs → lv_has ls maxL lv →
      W p l e (am_rm fr lo) s m av.toArray below meth c H locs 0 0 (MQ below Qc av.toArray s 0 0 A) (F0 m 0 ls [])) :
    Met l y ws (am_rm fr lo) (va_Pc av (am_M L cl D A w tys)) Qc 0 0 A := by
  refine Met.ofW (cc := cc) (maxL := maxL) (ret := ret) hy hw ?_
  intro p e s m args below meth c s₁ B hml hv
  obtain ⟨rfl, hP, hK, hN, hD⟩ := hv
  have hl := lv_entry av (n := maxL) hsl
  rw [lg_entry_eq]
  subst hlv
  exact body p e s m below meth c _ B.exec B.bytes B.returns hml (findClass_of_methodNamed B.named) (atoms_spec (ws := ws) B.pre) B.notSynchronized hK hN hD s.heap [] hP va_S.rf hl
-- ends of methods that read
theorem am_iretR {v v' : Int32} (hexec : p.tables.exec = Jvm.exec) (hb : c.code = cc) (hr : meth.sig.returnType = some .int) (hlocks : meth.locks = false) (hp : v = v') (hdg : decode cc pc = .ok (.ireturn, 1)) : W p l e R s m args below meth c s.heap [] 0 0 (MQ below (vp_Si (fun r => r = v')) args s 0 0 am_No) (F0 m pc ls [.int v]) :=
  W.iret hexec hb hr (fun t ht _ => ⟨v, rfl, hp, ht⟩) (fun _ h => by cases h) hdg hlocks
theorem am_zretR {v v' : Int32} (hexec : p.tables.exec = Jvm.exec) (hb : c.code = cc) (hr : meth.sig.returnType = some .boolean) (hlocks : meth.locks = false) (hz : v = 0 ∨ v = 1) (hp : v = v') (hdg : decode cc pc = .ok (.ireturn, 1)) : W p l e R s m args below meth c s.heap [] 0 0 (MQ below (vp_Si (fun r => r = v')) args s 0 0 am_No) (F0 m pc ls [.int v]) :=
  W.zret hexec hb hr (by rcases hz with rfl | rfl <;> rfl) (fun t ht _ => ⟨v, rfl, hp, ht⟩) (fun _ h => by cases h) hdg hlocks
theorem am_lretR {v v' : Int64} (hexec : p.tables.exec = Jvm.exec) (hb : c.code = cc) (hr : meth.sig.returnType = some .long) (hlocks : meth.locks = false) (hp : v = v') (hdg : decode cc pc = .ok (.lreturn, 1)) : W p l e R s m args below meth c s.heap [] 0 0 (MQ below (vp_Sl (fun r => r = v')) args s 0 0 am_No) (F0 m pc ls [.long v]) :=
  W.lret hexec hb hr (fun t ht _ => ⟨v, rfl, hp, ht⟩) (fun _ h => by cases h) hdg hlocks
-- ends of methods that write
theorem am_iretM {v v' : Int32} (hexec : p.tables.exec = Jvm.exec) (hb : c.code = cc) (hr : meth.sig.returnType = some .int) (hlocks : meth.locks = false) (hP : va_P D cl w H) (hS : va_S A s.heap H locs) (hv : v = v') (hdg : decode cc pc = .ok (.ireturn, 1)) : W p l e R s m args below meth c H locs 0 0 (MQ below (am_Mi cl D v' w A) args s 0 0 A) (F0 m pc ls [.int v]) :=
  W.iret hexec hb hr (fun t ht _ => ⟨⟨v, (), rfl, hv, by show va_P D cl w t.heap; rw [ht]; exact hP⟩, hS.F ht⟩) hS.2.2 hdg hlocks
theorem am_zretM {v v' : Int32} (hexec : p.tables.exec = Jvm.exec) (hb : c.code = cc) (hr : meth.sig.returnType = some .boolean) (hlocks : meth.locks = false) (hz : v = 0 ∨ v = 1) (hP : va_P D cl w H) (hS : va_S A s.heap H locs) (hv : v = v') (hdg : decode cc pc = .ok (.ireturn, 1)) : W p l e R s m args below meth c H locs 0 0 (MQ below (am_Mi cl D v' w A) args s 0 0 A) (F0 m pc ls [.int v]) :=
  W.zret hexec hb hr (by rcases hz with rfl | rfl <;> rfl) (fun t ht _ => ⟨⟨v, (), rfl, hv, by show va_P D cl w t.heap; rw [ht]; exact hP⟩, hS.F ht⟩) hS.2.2 hdg hlocks
theorem am_lretM {v v' : Int64} (hexec : p.tables.exec = Jvm.exec) (hb : c.code = cc) (hr : meth.sig.returnType = some .long) (hlocks : meth.locks = false) (hP : va_P D cl w H) (hS : va_S A s.heap H locs) (hv : v = v') (hdg : decode cc pc = .ok (.lreturn, 1)) : W p l e R s m args below meth c H locs 0 0 (MQ below (am_Ml cl D v' w A) args s 0 0 A) (F0 m pc ls [.long v]) :=
  W.lret hexec hb hr (fun t ht _ => ⟨⟨v, (), rfl, hv, by show va_P D cl w t.heap; rw [ht]; exact hP⟩, hS.F ht⟩) hS.2.2 hdg hlocks
theorem am_vretM (hexec : p.tables.exec = Jvm.exec) (hb : c.code = cc) (hr : meth.sig.returnType = none) (hlocks : meth.locks = false) (hP : va_P D cl w H) (hS : va_S A s.heap H locs) (hdg : decode cc pc = .ok (.return_, 1)) : W p l e R s m args below meth c H locs 0 0 (MQ below (am_Mv cl D w A) args s 0 0 A) (F0 m pc ls []) :=
  W.vret hexec hb hr (fun t ht _ => ⟨⟨(), rfl, trivial, by show va_P D cl w t.heap; rw [ht]; exact hP⟩, hS.F ht⟩) hS.2.2 hdg hlocks
-- what a call finds
theorem am_blindR {av : List Value} : FrameBlind (va_Pc av (am_R L cl D w tys)) := fun a U g mk q => by
  obtain ⟨q1, q2, q3, q4⟩ := q
  exact ⟨q1, q2, va_K.moved (u := U) (U := U.calling g mk a) (Vm.Alike.refl U.vm) q3, am_nw_call q4⟩
theorem am_blindM {av : List Value} : FrameBlind (va_Pc av (am_M L cl D A w tys)) := fun a U g mk q => by
  obtain ⟨q1, q2, q3, q4, q5⟩ := q
  exact ⟨q1, q2, va_K.moved (u := U) (U := U.calling g mk a) (Vm.Alike.refl U.vm) q3, am_nw_call q4, q5⟩
theorem am_preSR {As : List Value} (hP : va_P D cl w H) (hK : va_K D cl tys s) (hN : am_nw L s) : PreS s H (va_Pc As (am_R L cl D w tys)) As :=
  ⟨am_blindR, fun U hU hW => ⟨rfl, by rw [hU]; exact hP, va_K.moved hW.alike hK, am_nw_warm hW hN⟩⟩
theorem am_preSM {As : List Value} (hP : va_P D cl w H) (hK : va_K D cl tys s) (hN : am_nw L s) (hD : va_D A w) : PreS s H (va_Pc As (am_M L cl D A w tys)) As :=
  ⟨am_blindM, fun U hU hW => ⟨rfl, by rw [hU]; exact hP, va_K.moved hW.alike hK, am_nw_warm hW hN, hD⟩⟩
theorem am_preVR {As : List Value} {b : Nat} {C : String} (ci q0 : Nat) {q : vw_C} {fs : List Value} (hc : cl[ci]? = some q) (hC : q.1 = C) (he : w[q0]? = some (b, .inr (ci, fs))) (hP : va_P D cl w H) (hK : va_K D cl tys s) (hN : am_nw L s) : PreV s H C b (va_Pc (.ref b :: As) (am_R L cl D w tys)) As :=
  ⟨am_blindR, by subst hC; exact va_recv hK hP hc he, fun U hU hW => ⟨rfl, by rw [hU]; exact hP, va_K.moved hW.alike hK, am_nw_warm hW hN⟩⟩
theorem am_preVM {As : List Value} {b : Nat} {C : String} (ci q0 : Nat) {q : vw_C} {fs : List Value} (hc : cl[ci]? = some q) (hC : q.1 = C) (he : w[q0]? = some (b, .inr (ci, fs))) (hP : va_P D cl w H) (hK : va_K D cl tys s) (hN : am_nw L s) (hD : va_D A w) : PreV s H C b (va_Pc (.ref b :: As) (am_M L cl D A w tys)) As :=
  ⟨am_blindM, by subst hC; exact va_recv hK hP hc he, fun U hU hW => ⟨rfl, by rw [hU]; exact hP, va_K.moved hW.alike hK, am_nw_warm hW hN, hD⟩⟩
-- behind a call
theorem am_callRi {v : Int32} (hr : CallRun p l e R s m args below meth c H locs cells slots 0 0 (F0 m pc ls st0) rest (vp_Si (fun r => r = v) a) am_No)
    (kk : W p l e R s m args below meth c H locs cells slots Q (F0 m (pc + 3) ls (.int v :: rest))) : W p l e R s m args below meth c H locs cells slots Q (F0 m pc ls st0) :=
  vp_callSi hr (fun r (h : r = v) => by subst h; exact kk)
theorem am_callRl {v : Int64} (hr : CallRun p l e R s m args below meth c H locs cells slots 0 0 (F0 m pc ls st0) rest (vp_Sl (fun r => r = v) a) am_No)
    (kk : W p l e R s m args below meth c H locs cells slots Q (F0 m (pc + 3) ls (.long v :: rest))) : W p l e R s m args below meth c H locs cells slots Q (F0 m pc ls st0) :=
  vp_callSl hr (fun r (h : r = v) => by subst h; exact kk)
theorem am_callMi {v : Int32} (hr : va_Run p l e R s m args below meth c H locs cells slots 0 0 (F0 m pc ls st0) rest (am_Mi cl D v w' A a) A) (hS : va_S A H0 H locs)
    (kk : ∀ (H1 : Heap) (locs1 : List Loc), va_P D cl w' H1 → va_S A H0 H1 locs1 → W p l e R s m args below meth c H1 locs1 cells slots Q (F0 m (pc + 3) ls (.int v :: rest))) : W p l e R s m args below meth c H locs cells slots Q (F0 m pc ls st0) :=
  va_calli hr hS (fun _ _ h => h) (fun _ h => h) (fun r _ t H1 locs1 ht _ (hp : r = v) hB _ _ hS1 => by subst hp; exact kk H1 locs1 (by rw [← ht]; exact hB) hS1)
theorem am_callMl {v : Int64} (hr : va_Run p l e R s m args below meth c H locs cells slots 0 0 (F0 m pc ls st0) rest (am_Ml cl D v w' A a) A) (hS : va_S A H0 H locs)
    (kk : ∀ (H1 : Heap) (locs1 : List Loc), va_P D cl w' H1 → va_S A H0 H1 locs1 → W p l e R s m args below meth c H1 locs1 cells slots Q (F0 m (pc + 3) ls (.long v :: rest))) : W p l e R s m args below meth c H locs cells slots Q (F0 m pc ls st0) :=
  va_calll hr hS (fun _ _ h => h) (fun _ h => h) (fun r _ t H1 locs1 ht _ (hp : r = v) hB _ _ hS1 => by subst hp; exact kk H1 locs1 (by rw [← ht]; exact hB) hS1)
theorem am_callMv (hr : va_Run p l e R s m args below meth c H locs cells slots 0 0 (F0 m pc ls st0) rest (am_Mv cl D w' A a) A) (hS : va_S A H0 H locs)
    (kk : ∀ (H1 : Heap) (locs1 : List Loc), va_P D cl w' H1 → va_S A H0 H1 locs1 → W p l e R s m args below meth c H1 locs1 cells slots Q (F0 m (pc + 3) ls rest)) : W p l e R s m args below meth c H locs cells slots Q (F0 m pc ls st0) :=
  va_callv hr hS (fun _ _ h => h) (fun _ h => h) (fun _ t H1 locs1 ht _ _ hB _ _ hS1 => kk H1 locs1 (by rw [← ht]; exact hB) hS1)
end AMC
theorem am_set_self {w : va_W} {q0 : Nat} {e : Nat × va_E} (h : w[q0]? = some e) : w.set q0 e = w := by
  apply List.ext_getElem?
  intro i
  by_cases hi : q0 = i
  · subst hi
    rw [List.getElem?_set_self (List.getElem?_eq_some_iff.mp h).1, h]
  · rw [List.getElem?_set_ne hi]
theorem am_set_fst {w : va_W} {q0 : Nat} {a : Nat} {e e' : va_E} (h : w[q0]? = some (a, e)) : w.map Prod.fst = (w.set q0 (a, e')).map Prod.fst := by
  apply List.ext_getElem?
  intro i
  rw [List.getElem?_map, List.getElem?_map]
  by_cases hi : q0 = i
  · subst hi
    rw [List.getElem?_set_self (List.getElem?_eq_some_iff.mp h).1, h]
    rfl
  · rw [List.getElem?_set_ne hi]
section AMN
variable {p : Program} {l : Launch} {e : Env} {R : Room} {s : State} {m : MethodId} {args : Array Value} {below : List Frame} {meth : Method} {c : Code} {H : Heap} {locs : List Loc} {cells slots : Nat} {Q : State → Prop}
variable {cc : ByteArray} {pc : Nat} {ls : Array Slot} {rest : List Value} {D : va_G} {cl : List vw_C} {A : Nat → Prop} {ws : va_W} {H0 : Heap} {cI cL : ClassId}
theorem am_newI (hexec : p.tables.exec = Jvm.exec) (hb : c.code = cc) (harr : (Cond.arrayClass .int).before args s = true) (hK : va_K D cl [(cI, .int), (cL, .long)] s) (hP : va_P D cl ws H) (hD : va_D A ws) (hS : va_S A H0 H locs) (hA : ∀ q, H0.size ≤ q → A q)
    {n : Int32} (N : Nat) (hn : ¬ n < 0) (hN : n.toNatClampNeg = N) (hbytes : N * componentBytes .int ≤ 536870912) (hcells : cells + 1 ≤ R.cells) (hslots : slots + N ≤ R.slots) (hdg : decode cc pc = .ok (.newarray .int, 2))
    (kk : ∀ (q : Nat) (H1 : Heap), va_P D cl (ws ++ [(q, .inl (cI, N, .inl (fun _ => 0)))]) H1 → va_D A (ws ++ [(q, .inl (cI, N, .inl (fun _ => 0)))]) → va_S A H0 H1 locs →
      W p l e R s m args below meth c H1 locs (cells + 1) (slots + N) Q (F0 m (pc + 2) ls (.ref q :: rest))) : W p l e R s m args below meth c H locs cells slots Q (F0 m pc ls (.int n :: rest)) :=
  va_newa (atype := .int) hexec hb harr rfl hK hP hD hS hA (a0 := (N, .inl (fun _ => 0))) (fun _ => rfl) hn hN hbytes hcells hslots hdg (fun q cA H1 hK1 hP1 hD1 hS1 => by
    have h1 := (hK1.2 0 _ rfl).2
    have h2 := (hK1.2 2 _ rfl).2
    have e : cA = cI := Option.some.inj (h2.symm.trans h1)
    subst e
    exact kk q H1 hP1 hD1 hS1)
theorem am_newL (hexec : p.tables.exec = Jvm.exec) (hb : c.code = cc) (harr : (Cond.arrayClass .long).before args s = true) (hK : va_K D cl [(cI, .int), (cL, .long)] s) (hP : va_P D cl ws H) (hD : va_D A ws) (hS : va_S A H0 H locs) (hA : ∀ q, H0.size ≤ q → A q)
    {n : Int32} (N : Nat) (hn : ¬ n < 0) (hN : n.toNatClampNeg = N) (hbytes : N * componentBytes .long ≤ 536870912) (hcells : cells + 1 ≤ R.cells) (hslots : slots + N ≤ R.slots) (hdg : decode cc pc = .ok (.newarray .long, 2))
    (kk : ∀ (q : Nat) (H1 : Heap), va_P D cl (ws ++ [(q, .inl (cL, N, .inr (.inl (fun _ => 0))))]) H1 → va_D A (ws ++ [(q, .inl (cL, N, .inr (.inl (fun _ => 0))))]) → va_S A H0 H1 locs →
      W p l e R s m args below meth c H1 locs (cells + 1) (slots + N) Q (F0 m (pc + 2) ls (.ref q :: rest))) : W p l e R s m args below meth c H locs cells slots Q (F0 m pc ls (.int n :: rest)) :=
  va_newa (atype := .long) hexec hb harr rfl hK hP hD hS hA (a0 := (N, .inr (.inl (fun _ => 0)))) (fun _ => rfl) hn hN hbytes hcells hslots hdg (fun q cA H1 hK1 hP1 hD1 hS1 => by
    have h1 := (hK1.2 1 _ rfl).2
    have h2 := (hK1.2 2 _ rfl).2
    have e : cA = cL := Option.some.inj (h2.symm.trans h1)
    subst e
    exact kk q H1 hP1 hD1 hS1)
end AMN
theorem am_blindC {L : List (String × Nat × MethodName × String)} {cl : List vw_C} {D : va_G} {A : Nat → Prop} {w : va_W} {tys : List (ClassId × FieldType)} {sz : Nat} {av : List Value} : FrameBlind (va_Pc av (fun U => U.heap.size = sz ∧ am_M L cl D A w tys U)) := fun a U g mk q => by
  obtain ⟨q0, q1, q2, q3, q4, q5⟩ := q
  exact ⟨q0, q1, q2, va_K.moved (u := U) (U := U.calling g mk a) (Vm.Alike.refl U.vm) q3, am_nw_call q4, q5⟩
