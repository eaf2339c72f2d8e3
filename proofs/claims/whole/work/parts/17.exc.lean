/-! throwing: what a throw needs of the start, beginnings of methods that throw -/
def ex_N : List String := ["java/lang/RuntimeException", "java/lang/Exception"]
def ex_K (A : Nat → Prop) (U : State) (H : Heap) : Prop :=
  vx_Zq Bundle.tN "UNASSIGNED_STACK" Bundle.steD A U H ∧ vx_Zq Bundle.tN "SUPPRESSED_SENTINEL" Bundle.listD A U H ∧
  va_Nw (.castable "java/lang/IllegalArgumentException" "java/lang/IllegalArgumentException") U ∧ va_Nw (.castable "java/lang/IllegalStateException" "java/lang/IllegalStateException") U ∧ va_Nw (.castable "java/lang/IndexOutOfBoundsException" "java/lang/IndexOutOfBoundsException") U ∧
  va_Nw (.declares ⟨"java/lang/RuntimeException", "<init>", "(Ljava/lang/String;)V"⟩) U ∧ va_Nw (.declares ⟨"java/lang/Exception", "<init>", "(Ljava/lang/String;)V"⟩) U ∧ va_Nw (.declares ⟨"java/lang/Throwable", "<init>", "(Ljava/lang/String;)V"⟩) U ∧
  (∃ sa, vk_R "SpanDesk" 45 "a label is defined twice" sa U) ∧ (∃ sa, vk_R "SpanDesk" 55 "a label that is named is not defined" sa U) ∧ (∃ sa, vk_R "SpanDesk" 97 "no whole operation is there" sa U) ∧
  va_Nc "java/lang/IllegalStateException" "java/lang/IllegalArgumentException" U
theorem ex_warm {A : Nat → Prop} {s U : State} {H : Heap} (hW : s.WarmedH U.vm) (h : ex_K A s H) : ex_K A U H := by
  obtain ⟨h1, h2, h3, h4, h5, h6, h7, h8, ⟨a, h9⟩, ⟨b, h10⟩, ⟨c, h11⟩, h12⟩ := h
  exact ⟨h1.moved hW.alike, h2.moved hW.alike, va_Nw.warmC hW h3, va_Nw.warmC hW h4, va_Nw.warmC hW h5, va_Nw.warmD hW h6, va_Nw.warmD hW h7, va_Nw.warmD hW h8, ⟨a, vk_R.warm hW h9⟩, ⟨b, vk_R.warm hW h10⟩, ⟨c, vk_R.warm hW h11⟩, h12.moved hW.alike⟩
theorem ex_same {A : Nat → Prop} {u U : State} {H : Heap} (hv : u.vm = U.vm) (h : ex_K A u H) : ex_K A U H := by
  obtain ⟨h1, h2, h3, h4, h5, h6, h7, h8, ⟨a, h9⟩, ⟨b, h10⟩, ⟨c, h11⟩, h12⟩ := h
  have ha : u.vm.Alike U.vm := by rw [hv]; exact Vm.Alike.refl _
  exact ⟨h1.moved ha, h2.moved ha, va_Nw.same rfl hv h3, va_Nw.same rfl hv h4, va_Nw.same rfl hv h5, va_Nw.same rfl hv h6, va_Nw.same rfl hv h7, va_Nw.same rfl hv h8, ⟨a, vk_R.same hv.symm h9⟩, ⟨b, vk_R.same hv.symm h10⟩, ⟨c, vk_R.same hv.symm h11⟩, h12.moved ha⟩
theorem ex_kept {A : Nat → Prop} {U : State} {H H1 : Heap} (h : ex_K A U H) (hq : ∀ a : Nat, a < H.size → ¬ A a → H1[a]? = H[a]?) : ex_K A U H1 := ⟨h.1.kept hq, h.2.1.kept hq, h.2.2⟩
theorem ex_narrow {A B : Nat → Prop} {U : State} {H : Heap} (h : ex_K A U H) (hq : ∀ q, B q → A q) : ex_K B U H := ⟨h.1.narrow hq, h.2.1.narrow hq, h.2.2⟩
/-- the words of a throw: good ones of the tables, or carried -/
def ex_B : List Cond := [.declares ⟨"java/lang/RuntimeException", "<init>", "(Ljava/lang/String;)V"⟩, .declares ⟨"java/lang/Exception", "<init>", "(Ljava/lang/String;)V"⟩, .declares ⟨"java/lang/Throwable", "<init>", "(Ljava/lang/String;)V"⟩]
theorem xw_1 : ∀ w ∈ (vx_atS "SpanDesk" 47 "java/lang/IllegalArgumentException" ex_N).filter goodWord, w ∈ tb_W := by decide +kernel
theorem xw_2 : ∀ w ∈ (vx_atS "SpanDesk" 57 "java/lang/IllegalStateException" ex_N).filter goodWord, w ∈ tb_W := by decide +kernel
theorem xw_3 : ∀ w ∈ (vx_atS "SpanDesk" 99 "java/lang/IndexOutOfBoundsException" ex_N).filter goodWord, w ∈ tb_W := by decide +kernel
theorem xv_1 : ∀ w ∈ (vx_atS "SpanDesk" 47 "java/lang/IllegalArgumentException" ex_N).filter (fun w => !goodWord w), w ∈ Cond.castable "java/lang/IllegalArgumentException" "java/lang/IllegalArgumentException" :: ex_B := by decide +kernel
theorem xv_2 : ∀ w ∈ (vx_atS "SpanDesk" 57 "java/lang/IllegalStateException" ex_N).filter (fun w => !goodWord w), w ∈ Cond.castable "java/lang/IllegalStateException" "java/lang/IllegalStateException" :: ex_B := by decide +kernel
theorem xv_3 : ∀ w ∈ (vx_atS "SpanDesk" 99 "java/lang/IndexOutOfBoundsException" ex_N).filter (fun w => !goodWord w), w ∈ Cond.castable "java/lang/IndexOutOfBoundsException" "java/lang/IndexOutOfBoundsException" :: ex_B := by decide +kernel
theorem xo_1 : ∀ w ∈ Cond.classLink "SpanDesk" 43 "java/lang/IllegalArgumentException" :: Cond.initialized "java/lang/IllegalArgumentException" :: vx_atS "SpanDesk" 47 "java/lang/IllegalArgumentException" ex_N, vx_ot w = true := by decide +kernel
theorem xo_2 : ∀ w ∈ Cond.classLink "SpanDesk" 53 "java/lang/IllegalStateException" :: Cond.initialized "java/lang/IllegalStateException" :: vx_atS "SpanDesk" 57 "java/lang/IllegalStateException" ex_N, vx_ot w = true := by decide +kernel
theorem xo_3 : ∀ w ∈ Cond.classLink "SpanDesk" 95 "java/lang/IndexOutOfBoundsException" :: Cond.initialized "java/lang/IndexOutOfBoundsException" :: vx_atS "SpanDesk" 99 "java/lang/IndexOutOfBoundsException" ex_N, vx_ot w = true := by decide +kernel
theorem ex_all {X : String} {ic : Nat} {args : Array Value} {s : State} {A : Nat → Prop} {H : Heap} (hts : ∀ w ∈ tb_W, w.before args s = true) (hE : ex_K A s H) (h1 : ∀ w ∈ (vx_atS "SpanDesk" ic X ex_N).filter goodWord, w ∈ tb_W) (h2 : ∀ w ∈ (vx_atS "SpanDesk" ic X ex_N).filter (fun w => !goodWord w), w ∈ Cond.castable X X :: ex_B) (hc : va_Nw (.castable X X) s) : ∀ w ∈ vx_atS "SpanDesk" ic X ex_N, w.before args s = true :=
  vx_hat (fun w h => hts w (h1 w h)) h2 (vx_c (va_Nw.use rfl hc) (vx_c (va_Nw.use rfl hE.2.2.2.2.2.1) (vx_c (va_Nw.use rfl hE.2.2.2.2.2.2.1) (vx_c (va_Nw.use rfl hE.2.2.2.2.2.2.2.1) vx_n))))
section SX
variable {l : Launch} {y : MethodName} {ws ws' : List Cond} {rm : Room} {cc : ByteArray} {maxL : Nat} {ret : Option FieldType} {av : List Value} {lv : List (Nat × Value)} {D : va_G} {cl : List vw_C} {W0 : va_W} {sz : Nat}
def xr_X (PX : String → Heap → Prop) (A : Nat → Prop) : String → State → State → Prop := vx_X (S := Unit) (fun _ => True) (fun E _ t => PX E t.heap) A
theorem st_xi {B : (Nat → Prop) → State → Prop} {P : Int32 → Heap → Prop} {PX : String → Heap → Prop} {ty : FieldType} (hy : plainName y.cls = true) (hw : ws = Cond.code y cc maxL ret :: ws') (hret : ret = some ty) (hlen : (lg_sl av).length ≤ maxL) (hlv : lv_args 0 av = lv) (hn : ∀ v H, P v H → narrow ty (.int v) = .int v) (hl : l.stackTraces = false) (hrc : rm.cells = 1) (hrs : rm.slots = 6) (hBE : ∀ A U, B A U → ex_K A U U.heap)
    (body : ∀ (p : Program) (e : Env) (s : State) (m : MethodId) (args : Array Value) (below : List Frame) (meth : Method) (c : Code) (R : Room) (Q : State → Prop) (ls : Array Slot) (A : Nat → Prop), p.tables.exec = Jvm.exec → c.code = cc → (∀ w ∈ ws, w.before args s = true) → s.vm.findClass y.cls = some m.cls → c.maxLocals = maxL → R = rm → va_P D cl W0 s.heap → va_D A W0 → (∀ q : Nat, s.heap.size ≤ q → A q) → va_S A s.heap s.heap [] → B A s → lv_has ls maxL lv →
      (∀ (pc : Nat) (ls : Array Slot) (v : Int32) (H : Heap) (locs : List Loc), decode cc pc = .ok (.ireturn, 1) → P v H → va_S A s.heap H locs → W p l e R s m args below meth c H locs 0 0 Q (F0 m pc ls [.int v])) →
      (∀ (pc : Nat) (ls : Array Slot) (H : Heap) (locs : List Loc) (X text : String) (ik is ic sa : Nat), Bundle.fit X = true → (Cond.classLink y.cls ik X).before args s = true → (Cond.initialized X).before args s = true → vk_R y.cls is text sa s → (∀ w ∈ vx_atS y.cls ic X ex_N, w.before args s = true) → (∀ w ∈ Cond.classLink y.cls ik X :: Cond.initialized X :: vx_atS y.cls ic X ex_N, vx_ot w = true) → ls.size = maxL →
        decode cc pc = .ok (.new ik, 3) → decode cc (pc + 3) = .ok (.dup, 1) → decode cc (pc + 4) = .ok (.ldc is, 2) → decode cc (pc + 6) = .ok (.invokespecial ic, 3) → decode cc (pc + 9) = .ok (.athrow, 1) → 5 < R.frames → 82 ≤ R.locals → va_S A s.heap H locs → (∀ H1 : Heap, H.size ≤ H1.size → (∀ q : Nat, q < H.size → H1[q]? = H[q]?) → PX X H1) → W p l e R s m args below meth c H locs 0 0 Q (F0 m pc ls [])) →
      W p l e R s m args below meth c s.heap [] 0 0 Q (F0 m 0 ls [])) :
    vx_Met l y ws rm (va_Pc av (wr_B D cl W0 sz (fun U => B (va_A W0 sz) U))) (wr_Qi P (va_A W0 sz)) (xr_X PX (va_A W0 sz)) 1 6 (va_A W0 sz) := by
  refine vx_ofW hy hw ?_
  intro p e s m args below meth c s₁ Bd hml hout hv
  obtain ⟨rfl, rfl, hP, hD, hB⟩ := hv
  rw [lg_entry_eq]
  have hE := hBE _ _ hB
  refine body p e s m _ below meth c _ _ _ (va_A W0 s.heap.size) Bd.exec Bd.bytes (atoms_spec Bd.pre) (findClass_of_methodNamed Bd.named) hml rfl hP hD.self (fun q h => Or.inr h) va_S.rf hB (hlv ▸ lv_entry av hlen) ?_ ?_
  · intro pc ls v H locs hdg hp hS
    refine W.widen (k := 1) (n := 6) (by omega) (by omega) ?_
    exact vx_ret (W.zret Bd.exec Bd.bytes (Bd.returns.trans hret) (hn v H hp) (fun t ht hW => ⟨⟨v, v, rfl, rfl, by subst ht; exact hp⟩, hS.F ht⟩) hS.2.2 hdg Bd.notSynchronized)
  · intro pc ls H locs X text ik is ic sa hf hk hi hstr hat hgd hsz d0 d3 d4 d6 d9 hfr hlo hS hPX
    refine vx_throwS Bd.exec Bd.bytes hl (names := ex_N) (A := va_A W0 s.heap.size) (findClass_of_methodNamed Bd.named) hf (by decide +kernel) hk hi hstr hat hgd hE.1 hE.2.1 hS (hsz.trans hml.symm) d0 d3 d4 d6 d9 (fun x hx => (hout x hx).elim) (by show 2 + 3 < rm.frames; exact hfr) (by show 0 + (13 * (2 + 1) + 43) ≤ rm.locals; exact hlo) (by show 0 + 1 ≤ rm.cells; rw [hrc]; exact Nat.le_refl _) (by show 0 + 6 ≤ rm.slots; rw [hrs]; exact Nat.le_refl _) Bd.notSynchronized (fun t ha h1 h2 => ⟨(), trivial, hPX t.heap h1 h2, ?_⟩) hS.2.2 (Nat.le_refl _) (Nat.le_refl _)
    exact ⟨Nat.le_trans hS.1 h1, fun q q1 q2 => (h2 q (Nat.lt_of_lt_of_le q1 hS.1)).trans (hS.2.1 q q1 q2)⟩
end SX
