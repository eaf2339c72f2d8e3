/-! what holds at the law's entry: the classes, the nest words, what a throw needs -/
theorem lb_A {s : State} {args : Array Value} {ty : FieldType} (hp : ∀ C, ty ≠ .object C) (h : (Cond.arrayClass ty).before args s = true) : ∃ cA : ClassId, ArrOfT s cA ty ∧ va_RA s cA ty := by
  obtain ⟨c, k, comp, h1, h2, h3⟩ := Cond.arrayClass_spec (args := args) (first := s) (o := none) (s := s) (idx := []) h
  refine ⟨c, fun n z => ⟨fun k h => (by cases h), k, h2, comp, h3⟩, ?_⟩
  cases ty with
  | object C => exact absurd rfl (hp C)
  | _ => exact h1
theorem lb_L {own tx : String} {k : Nat} {args : Array Value} {s : State} (h1 : (Cond.stringRef own k tx).before args s = true) (h2 : (Cond.exactly (.string own k) "java/lang/String").before args s = true) : ∃ sa, vk_R own k tx sa s := by
  obtain ⟨a, c, cA, kA, q1, -⟩ := Cond.exactly_spec (args := args) (first := s) (o := none) (s := s) (idx := []) (t := .string own k) (cls := "java/lang/String") h2
  exact ⟨a, vk_R.of h1 q1⟩
theorem lb_K {args : Array Value} {s : State} (hts : ∀ w ∈ lw_tbl, w.before args s = true) : ∃ (dC : Nat → ClassId) (dI : Nat → Nat → Nat) (cI cL : ClassId), kn_K dC dI cI s ∧ va_K (dC, dI) vwCl [(cL, .long)] s := by
  have ht : ∀ w ∈ tb_W, w.before args s = true := fun w h => hts w (List.mem_filter.mp h).1
  obtain ⟨c0, i0, h0⟩ := u_known (C := RX0) (T := TX0) (N := 4) ht inX0 (ht _ tm_47)
  obtain ⟨c1, i1, h1⟩ := u_known (C := RX1) (T := TX1) (N := 4) ht inX1 (ht _ tm_22)
  obtain ⟨c2, i2, h2⟩ := u_known (C := RX2) (T := TX2) (N := 2) ht inX2 (ht _ tm_14)
  obtain ⟨c3, i3, h3⟩ := u_known (C := RX3) (T := TX3) (N := 11) ht inX3 (ht _ tm_353)
  obtain ⟨cI, hI⟩ := lb_A (ty := .int) (fun C h => by cases h) (ht _ tm_45)
  obtain ⟨cL, hL⟩ := lb_A (ty := .long) (fun C h => by cases h) (ht _ tm_486)
  have hC : ∀ (c : Nat) (q : vw_C), vwCl[c]? = some q → u_Kn s q.1 q.2.1 q.2.2 ((fun k => [c0, c1, c2, c3].getD k 0) c) ((fun k => [i0, i1, i2, i3].getD k i0) c) := by
    intro c q hq
    match c, hq with
    | 0, hq => cases hq; exact h0
    | 1, hq => cases hq; exact h1
    | 2, hq => cases hq; exact h2
    | 3, hq => cases hq; exact h3
    | n + 4, hq => cases hq
  refine ⟨_, _, cI, cL, ⟨⟨hC, fun k q hq => ?_⟩, va_Nw.of rfl (hts _ (List.mem_append_right _ (List.mem_of_getElem? (i := 35) (by decide +kernel)))), va_Nw.of rfl (hts _ (List.mem_append_right _ (List.mem_of_getElem? (i := 58) (by decide +kernel)))), va_Nw.of rfl (hts _ (List.mem_append_right _ (List.mem_of_getElem? (i := 60) (by decide +kernel)))), va_Nw.of rfl (hts _ (List.mem_append_right _ (List.mem_of_getElem? (i := 62) (by decide +kernel)))), va_Nw.of rfl (hts _ (List.mem_append_right _ (List.mem_of_getElem? (i := 64) (by decide +kernel)))), va_Nw.of rfl (hts _ (List.mem_append_right _ (List.mem_of_getElem? (i := 34) (by decide +kernel)))), va_Nw.of rfl (hts _ (List.mem_append_right _ (List.mem_of_getElem? (i := 28) (by decide +kernel)))), va_Nw.of rfl (hts _ (List.mem_append_right _ (List.mem_of_getElem? (i := 30) (by decide +kernel)))), va_Nw.of rfl (hts _ (List.mem_append_right _ (List.mem_of_getElem? (i := 32) (by decide +kernel)))), va_Nw.of rfl (hts _ (List.mem_append_right _ (List.mem_of_getElem? (i := 185) (by decide +kernel))))⟩, ⟨hC, fun k q hq => ?_⟩⟩
  · match k, hq with
    | 0, hq => cases hq; exact hI
    | n + 1, hq => cases hq
  · match k, hq with
    | 0, hq => cases hq; exact hL
    | n + 1, hq => cases hq
set_option maxHeartbeats 4000000 in
set_option maxRecDepth 100000 in
theorem lb_E {args : Array Value} {s : State} (hts : ∀ w ∈ lw_tbl, w.before args s = true) (hgv : (Jvm.Cond.and given_1 narrow_1).before args s = true) : ex_K (fun q => s.heap.size ≤ q) s s.heap := by
  have ht : ∀ w ∈ tb_W, w.before args s = true := fun w h => hts w (List.mem_filter.mp h).1
  have hg := flat_of_before _ hgv
  have hA : ∀ a : Nat, a < s.heap.size → ¬ (fun q => s.heap.size ≤ q) a := fun a h q => Nat.not_le.mpr h q
  exact ⟨vx_Zqof (hts _ (List.mem_append_right _ (List.mem_of_getElem? (i := 246) (by decide +kernel)))) (ht _ tm_7) (hg _ (show Cond.isRef (.static "java/lang/Throwable" "UNASSIGNED_STACK" "[Ljava/lang/StackTraceElement;") ∈ flatC (Jvm.Cond.and given_1 narrow_1) from by decide +kernel)) hA, vx_Zqof (hts _ (List.mem_append_right _ (List.mem_of_getElem? (i := 248) (by decide +kernel)))) (ht _ tm_7) (hg _ (show Cond.isRef (.static "java/lang/Throwable" "SUPPRESSED_SENTINEL" "Ljava/util/List;") ∈ flatC (Jvm.Cond.and given_1 narrow_1) from by decide +kernel)) hA, va_Nw.of rfl (hts _ (List.mem_append_right _ (List.mem_of_getElem? (i := 221) (by decide +kernel)))), va_Nw.of rfl (hts _ (List.mem_append_right _ (List.mem_of_getElem? (i := 293) (by decide +kernel)))), va_Nw.of rfl (hts _ (List.mem_append_right _ (List.mem_of_getElem? (i := 338) (by decide +kernel)))), va_Nw.of rfl (hts _ (List.mem_append_right _ (List.mem_of_getElem? (i := 223) (by decide +kernel)))), va_Nw.of rfl (hts _ (List.mem_append_right _ (List.mem_of_getElem? (i := 225) (by decide +kernel)))), va_Nw.of rfl (hts _ (List.mem_append_right _ (List.mem_of_getElem? (i := 227) (by decide +kernel)))), lb_L (hts _ (List.mem_append_right _ (List.mem_of_getElem? (i := 260) (by decide +kernel)))) (hg _ (show Cond.exactly (.string "SpanDesk" 45) "java/lang/String" ∈ flatC (Jvm.Cond.and given_1 narrow_1) from by decide +kernel)), lb_L (hts _ (List.mem_append_right _ (List.mem_of_getElem? (i := 300) (by decide +kernel)))) (hg _ (show Cond.exactly (.string "SpanDesk" 55) "java/lang/String" ∈ flatC (Jvm.Cond.and given_1 narrow_1) from by decide +kernel)), lb_L (hts _ (List.mem_append_right _ (List.mem_of_getElem? (i := 345) (by decide +kernel)))) (hg _ (show Cond.exactly (.string "SpanDesk" 97) "java/lang/String" ∈ flatC (Jvm.Cond.and given_1 narrow_1) from by decide +kernel)), va_Nc.of (hg _ (show Cond.not (.castable "java/lang/IllegalStateException" "java/lang/IllegalArgumentException") ∈ flatC (Jvm.Cond.and given_1 narrow_1) from by decide +kernel))⟩
