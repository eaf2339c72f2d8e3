/-! beginnings, ends and calls, made short: R and Q are names, the end is a hypothesis -/
theorem lp_up {I : Nat → Prop} (n : Nat) (h : ∀ i, i ≤ n → (i < n → I (i + 1)) → I i) : ∀ i, i ≤ n → I i := by
  have key : ∀ r i, i + r = n → I i := by
    intro r
    induction r with
    | zero => intro i hi; exact h i (by omega) (fun q => by omega)
    | succ r ih => intro i hi; exact h i (by omega) (fun _ => ih (i + 1) (by omega))
  intro i hi
  exact key (n - i) i (by omega)
theorem lp_dn {I : Nat → Prop} (h : ∀ i, (∀ j, i = j + 1 → I j) → I i) : ∀ i, I i := by
  intro i
  induction i with
  | zero => exact h 0 (fun j q => by omega)
  | succ i ih => exact h (i + 1) (fun j q => by have : j = i := (by omega); rw [this]; exact ih)
theorem va_D_ad {A : Nat → Prop} {w1 w2 : va_W} (h : va_D A w1) (e : w2.map (fun q => q.1) = w1.map (fun q => q.1)) : va_D A w2 := by
  have key : ∀ (k : Nat) (q : Nat × va_E), w2[k]? = some q → ∃ q', w1[k]? = some q' ∧ q'.1 = q.1 := by
    intro k q hk
    have h1 : (w2.map (fun q => q.1))[k]? = some q.1 := by rw [List.getElem?_map, hk]; rfl
    rw [e, List.getElem?_map] at h1
    cases hw : w1[k]? with
    | none => rw [hw] at h1; cases h1
    | some q' => rw [hw] at h1; exact ⟨q', rfl, Option.some.inj h1⟩
  refine ⟨fun i j x y hi hj hxy => ?_, fun k q hk => ?_⟩
  · obtain ⟨a, h1, h2⟩ := key i x hi
    obtain ⟨b, h3, h4⟩ := key j y hj
    exact h.1 i j a b h1 h3 (by rw [h2, h4]; exact hxy)
  · obtain ⟨a, h1, h2⟩ := key k q hk
    rw [← h2]; exact h.2 k a h1
section ST
variable {l : Launch} {y : MethodName} {ws ws' : List Cond} {rm : Room} {cc : ByteArray} {maxL : Nat} {ret : Option FieldType} {av : List Value} {lv : List (Nat × Value)}
theorem st_rd {B : State → Prop} {post : Int32 → Prop} {ty : FieldType} (hy : plainName y.cls = true) (hw : ws = Cond.code y cc maxL ret :: ws') (hret : ret = some ty) (hlen : (lg_sl av).length ≤ maxL) (hlv : lv_args 0 av = lv) (hn : ∀ v, post v → narrow ty (.int v) = .int v)
    (body : ∀ (p : Program) (e : Env) (s : State) (m : MethodId) (args : Array Value) (below : List Frame) (meth : Method) (c : Code) (R : Room) (Q : State → Prop) (ls : Array Slot), p.tables.exec = Jvm.exec → c.code = cc → (∀ w ∈ ws, w.before args s = true) → s.vm.findClass y.cls = some m.cls → c.maxLocals = maxL → R = rm → B s → lv_has ls maxL lv →
      (∀ (pc : Nat) (ls : Array Slot) (v : Int32), decode cc pc = .ok (.ireturn, 1) → post v → W p l e R s m args below meth c s.heap [] 0 0 Q (F0 m pc ls [.int v])) → W p l e R s m args below meth c s.heap [] 0 0 Q (F0 m 0 ls [])) :
    Met l y ws rm (va_Pc av B) (vp_Si post) 0 0 (fun _ => False) := by
  refine Met.ofW hy hw ?_
  intro p e s m args below meth c s₁ Bd hml hv
  obtain ⟨rfl, hB⟩ := hv
  rw [lg_entry_eq]
  refine body p e s m _ below meth c _ _ _ Bd.exec Bd.bytes (atoms_spec Bd.pre) (findClass_of_methodNamed Bd.named) hml rfl hB (hlv ▸ lv_entry av hlen) ?_
  intro pc ls v hdg hp
  exact W.zret Bd.exec Bd.bytes (Bd.returns.trans hret) (hn v hp) (fun t ht hW => ⟨v, rfl, hp, ht⟩) (fun q h => by cases h) hdg Bd.notSynchronized
/-- what a writing method that makes nothing answers: r, and P r of the heap; the rest stays -/
abbrev wr_Qi (P : Int32 → Heap → Prop) (A : Nat → Prop) : Array Value → State → Outcome → State → Prop := va_Qi (S := Int32) (fun r u => u = r) (fun u t => P u t.heap) A
abbrev wr_Qv (P : Heap → Prop) (A : Nat → Prop) : Array Value → State → Outcome → State → Prop := va_Qv (S := Unit) (fun _ => True) (fun _ t => P t.heap) A
/-- a writing method's start -/
abbrev wr_B (D : va_G) (cl : List vw_C) (W0 : va_W) (sz : Nat) (B : State → Prop) : State → Prop := fun U => U.heap.size = sz ∧ va_P D cl W0 U.heap ∧ va_D (fun _ => True) W0 ∧ B U
variable {D : va_G} {cl : List vw_C} {W0 : va_W} {sz : Nat}
theorem st_wi {B : State → Prop} {P : Int32 → Heap → Prop} {ty : FieldType} (hy : plainName y.cls = true) (hw : ws = Cond.code y cc maxL ret :: ws') (hret : ret = some ty) (hlen : (lg_sl av).length ≤ maxL) (hlv : lv_args 0 av = lv) (hn : ∀ v H, P v H → narrow ty (.int v) = .int v)
    (body : ∀ (p : Program) (e : Env) (s : State) (m : MethodId) (args : Array Value) (below : List Frame) (meth : Method) (c : Code) (R : Room) (Q : State → Prop) (ls : Array Slot) (A : Nat → Prop), p.tables.exec = Jvm.exec → c.code = cc → (∀ w ∈ ws, w.before args s = true) → s.vm.findClass y.cls = some m.cls → c.maxLocals = maxL → R = rm → va_P D cl W0 s.heap → va_D A W0 → (∀ q : Nat, s.heap.size ≤ q → A q) → va_S A s.heap s.heap [] → B s → lv_has ls maxL lv →
      (∀ (pc : Nat) (ls : Array Slot) (v : Int32) (H : Heap) (locs : List Loc), decode cc pc = .ok (.ireturn, 1) → P v H → va_S A s.heap H locs → W p l e R s m args below meth c H locs 0 0 Q (F0 m pc ls [.int v])) → W p l e R s m args below meth c s.heap [] 0 0 Q (F0 m 0 ls [])) :
    Met l y ws rm (va_Pc av (wr_B D cl W0 sz B)) (wr_Qi P (va_A W0 sz)) 0 0 (va_A W0 sz) := by
  refine Met.ofW hy hw ?_
  intro p e s m args below meth c s₁ Bd hml hv
  obtain ⟨rfl, rfl, hP, hD, hB⟩ := hv
  rw [lg_entry_eq]
  refine body p e s m _ below meth c _ _ _ (va_A W0 s.heap.size) Bd.exec Bd.bytes (atoms_spec Bd.pre) (findClass_of_methodNamed Bd.named) hml rfl hP hD.self (fun q h => Or.inr h) va_S.rf hB (hlv ▸ lv_entry av hlen) ?_
  intro pc ls v H locs hdg hp hS
  exact W.zret Bd.exec Bd.bytes (Bd.returns.trans hret) (hn v H hp) (fun t ht hW => ⟨⟨v, v, rfl, rfl, by subst ht; exact hp⟩, hS.F ht⟩) hS.2.2 hdg Bd.notSynchronized
theorem st_wv {B : State → Prop} {P : Heap → Prop} (hy : plainName y.cls = true) (hw : ws = Cond.code y cc maxL none :: ws') (hlen : (lg_sl av).length ≤ maxL) (hlv : lv_args 0 av = lv)
    (body : ∀ (p : Program) (e : Env) (s : State) (m : MethodId) (args : Array Value) (below : List Frame) (meth : Method) (c : Code) (R : Room) (Q : State → Prop) (ls : Array Slot) (A : Nat → Prop), p.tables.exec = Jvm.exec → c.code = cc → (∀ w ∈ ws, w.before args s = true) → s.vm.findClass y.cls = some m.cls → c.maxLocals = maxL → R = rm → va_P D cl W0 s.heap → va_D A W0 → (∀ q : Nat, s.heap.size ≤ q → A q) → va_S A s.heap s.heap [] → B s → lv_has ls maxL lv →
      (∀ (pc : Nat) (ls : Array Slot) (H : Heap) (locs : List Loc), decode cc pc = .ok (.return_, 1) → P H → va_S A s.heap H locs → W p l e R s m args below meth c H locs 0 0 Q (F0 m pc ls [])) → W p l e R s m args below meth c s.heap [] 0 0 Q (F0 m 0 ls [])) :
    Met l y ws rm (va_Pc av (wr_B D cl W0 sz B)) (wr_Qv P (va_A W0 sz)) 0 0 (va_A W0 sz) := by
  refine Met.ofW hy hw ?_
  intro p e s m args below meth c s₁ Bd hml hv
  obtain ⟨rfl, rfl, hP, hD, hB⟩ := hv
  rw [lg_entry_eq]
  refine body p e s m _ below meth c _ _ _ (va_A W0 s.heap.size) Bd.exec Bd.bytes (atoms_spec Bd.pre) (findClass_of_methodNamed Bd.named) hml rfl hP hD.self (fun q h => Or.inr h) va_S.rf hB (hlv ▸ lv_entry av hlen) ?_
  intro pc ls H locs hdg hp hS
  exact W.vret Bd.exec Bd.bytes Bd.returns (fun t ht hW => ⟨⟨(), rfl, trivial, by subst ht; exact hp⟩, hS.F ht⟩) hS.2.2 hdg Bd.notSynchronized
/-- a constructor, or any void method that makes cells -/
theorem st_cv {B : State → Prop} {P : (Nat → Prop) → Heap → Prop} {mc ms : Nat} (hy : plainName y.cls = true) (hw : ws = Cond.code y cc maxL none :: ws') (hlen : (lg_sl av).length ≤ maxL) (hlv : lv_args 0 av = lv)
    (body : ∀ (p : Program) (e : Env) (s : State) (m : MethodId) (args : Array Value) (below : List Frame) (meth : Method) (c : Code) (R : Room) (Q : State → Prop) (ls : Array Slot) (A : Nat → Prop), p.tables.exec = Jvm.exec → c.code = cc → (∀ w ∈ ws, w.before args s = true) → s.vm.findClass y.cls = some m.cls → c.maxLocals = maxL → R = rm → meth.name = y.name → va_P D cl W0 s.heap → va_D A W0 → (∀ q : Nat, s.heap.size ≤ q → A q) → va_S A s.heap s.heap [] → B s → lv_has ls maxL lv →
      (∀ (pc : Nat) (ls : Array Slot) (H : Heap) (locs : List Loc), decode cc pc = .ok (.return_, 1) → P A H → va_S A s.heap H locs → W p l e R s m args below meth c H locs mc ms Q (F0 m pc ls [])) → W p l e R s m args below meth c s.heap [] 0 0 Q (F0 m 0 ls [])) :
    Met l y ws rm (va_Pc av (wr_B D cl W0 sz B)) (va_Qv (S := Unit) (fun _ => True) (fun _ t => P (va_A W0 sz) t.heap) (va_A W0 sz)) mc ms (va_A W0 sz) := by
  refine Met.ofW hy hw ?_
  intro p e s m args below meth c s₁ Bd hml hv
  obtain ⟨rfl, rfl, hP, hD, hB⟩ := hv
  rw [lg_entry_eq]
  refine body p e s m _ below meth c _ _ _ (va_A W0 s.heap.size) Bd.exec Bd.bytes (atoms_spec Bd.pre) (findClass_of_methodNamed Bd.named) hml rfl (name_of_methodNamed Bd.named Bd.method).1 hP hD.self (fun q h => Or.inr h) va_S.rf hB (hlv ▸ lv_entry av hlen) ?_
  intro pc ls H locs hdg hp hS
  exact W.vret Bd.exec Bd.bytes Bd.returns (fun t ht hW => ⟨⟨(), rfl, trivial, by subst ht; exact hp⟩, hS.F ht⟩) hS.2.2 hdg Bd.notSynchronized
end ST
theorem kc_eq {D : va_G} {cl : List vw_C} {cI cA : ClassId} {s : State} (hK : va_K D cl [(cI, .int), (cA, .int)] s) : cA = cI := by
  have h1 : s.vm.findClass ("[" ++ (FieldType.int).toString) = some cI := (hK.2 0 _ rfl).2
  have h2 : s.vm.findClass ("[" ++ (FieldType.int).toString) = some cA := (hK.2 1 _ rfl).2
  exact Option.some.inj (h2.symm.trans h1)
section SC
variable {p : Program} {l : Launch} {e : Env} {R : Room} {s : State} {m : MethodId} {args : Array Value} {below : List Frame} {meth : Method} {c : Code} {H : Heap} {locs : List Loc} {cells slots : Nat} {Q : State → Prop}
variable {pc : Nat} {ls : Array Slot} {rest st0 : List Value} {a : Array Value} {A0 : Nat → Prop} {H0 : Heap} {D : va_G} {cl : List vw_C} {wsw wc wr : va_W}
theorem cl_rd {z : Int} (hr : va_Run p l e R s m args below meth c H locs cells slots 0 0 (F0 m pc ls st0) rest (vp_Si (fun r => r = ji_n z) a) (fun _ => False))
    (kk : W p l e R s m args below meth c H locs cells slots Q (F0 m (pc + 3) ls (.int (ji_n z) :: rest))) : W p l e R s m args below meth c H locs cells slots Q (F0 m pc ls st0) := vp_callSi hr.run (fun r h => by rw [h]; exact kk)
theorem cl_rp {post : Int32 → Prop} (hr : va_Run p l e R s m args below meth c H locs cells slots 0 0 (F0 m pc ls st0) rest (vp_Si post a) (fun _ => False))
    (kk : ∀ r, post r → W p l e R s m args below meth c H locs cells slots Q (F0 m (pc + 3) ls (.int r :: rest))) : W p l e R s m args below meth c H locs cells slots Q (F0 m pc ls st0) := vp_callSi hr.run kk
/-- a writing callee, its cells at the places isC, the others at isR -/
theorem cl_wi {P : Int32 → Heap → Prop} (isC isR : List Nat) (hC : isC.map (fun i => wsw[i]?) = wc.map some) (hR : isR.map (fun i => wsw[i]?) = wr.map some) (hnC : va_nd isC = true) (hn : va_nd isR = true) (hdis : ∀ i ∈ isR, i ∉ isC) (hP : va_P D cl wsw H) (hD : va_D A0 wsw) (hS : va_S A0 H0 H locs) (hA : ∀ q, H0.size ≤ q → A0 q)
    (hr : va_Run p l e R s m args below meth c H locs cells slots 0 0 (F0 m pc ls st0) rest (wr_Qi P (va_A wc H.size) a) (va_A wc H.size))
    (kk : ∀ (r : Int32) (H1 : Heap) (locs1 : List Loc), P r H1 → (∀ w1 : va_W, w1.map (fun q => q.1) = wc.map (fun q => q.1) → va_P D cl w1 H1 → va_P D cl (wr ++ w1) H1 ∧ va_D A0 (wr ++ w1)) → va_S A0 H0 H1 locs1 → W p l e R s m args below meth c H1 locs1 cells slots Q (F0 m (pc + 3) ls (.int r :: rest))) : W p l e R s m args below meth c H locs cells slots Q (F0 m pc ls st0) := by
  have hF := va_free (wc := wc) hD hS hA isC hC
  have hDc : va_D (va_A wc H.size) wc := (hD.sub isC hnC hC).self
  refine va_calli hr hS (fun q _ h => hF q h) hF (fun r u t H1 locs1 ht hvm hp hB hz hk hS1 => ?_)
  cases hp
  rw [ht] at hB
  exact kk r H1 locs1 hB (fun w1 e1 hP1 => va_join hP hD isC isR hC hR hn hdis hk hF hP1 (va_D_ad hDc e1)) hS1
theorem cl_wv {P : Heap → Prop} (isC isR : List Nat) (hC : isC.map (fun i => wsw[i]?) = wc.map some) (hR : isR.map (fun i => wsw[i]?) = wr.map some) (hnC : va_nd isC = true) (hn : va_nd isR = true) (hdis : ∀ i ∈ isR, i ∉ isC) (hP : va_P D cl wsw H) (hD : va_D A0 wsw) (hS : va_S A0 H0 H locs) (hA : ∀ q, H0.size ≤ q → A0 q)
    (hr : va_Run p l e R s m args below meth c H locs cells slots 0 0 (F0 m pc ls st0) rest (wr_Qv P (va_A wc H.size) a) (va_A wc H.size))
    (kk : ∀ (H1 : Heap) (locs1 : List Loc), P H1 → (∀ w1 : va_W, w1.map (fun q => q.1) = wc.map (fun q => q.1) → va_P D cl w1 H1 → va_P D cl (wr ++ w1) H1 ∧ va_D A0 (wr ++ w1)) → va_S A0 H0 H1 locs1 → W p l e R s m args below meth c H1 locs1 cells slots Q (F0 m (pc + 3) ls rest)) : W p l e R s m args below meth c H locs cells slots Q (F0 m pc ls st0) := by
  have hF := va_free (wc := wc) hD hS hA isC hC
  have hDc : va_D (va_A wc H.size) wc := (hD.sub isC hnC hC).self
  refine va_callv hr hS (fun q _ h => hF q h) hF (fun u t H1 locs1 ht hvm hp hB hz hk hS1 => ?_)
  rw [ht] at hB
  exact kk H1 locs1 hB (fun w1 e1 hP1 => va_join hP hD isC isR hC hR hn hdis hk hF hP1 (va_D_ad hDc e1)) hS1
end SC
