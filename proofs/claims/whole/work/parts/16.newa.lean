theorem na_i (N : Nat) (cA : ClassId) : vp_cell cA (N, .inl (fun _ => (0 : Int32))) = arrV cA N (fun _ => defaultValue .int) := rfl
theorem na_p {N : Nat} (h : N < 2147483648) : ¬ ji_n (N : Int) < 0 := by rw [← ji_nI]; exact nI_pos (by omega)
section NA
variable {p : Program} {l : Launch} {e : Env} {R : Room} {s : State} {m : MethodId} {args : Array Value} {below : List Frame} {meth : Method} {c : Code} {H : Heap} {locs : List Loc} {cells slots : Nat} {Q : State → Prop}
variable {cc : ByteArray} {pc : Nat} {ls : Array Slot} {rest : List Value} {D : va_G} {cl : List vw_C} {A : Nat → Prop} {tys : List (ClassId × FieldType)} {ws : va_W} {H0 : Heap}
/-- new int[N], of the array class that is known -/
theorem na_new (hexec : p.tables.exec = Jvm.exec) (hb : c.code = cc) (harr : (Cond.arrayClass .int).before args s = true) {cI : ClassId} (hK : va_K D cl [(cI, .int)] s) (hP : va_P D cl ws H) (hD : va_D A ws) (hS : va_S A H0 H locs) (hA : ∀ q, H0.size ≤ q → A q)
    (N : Nat) {z : Int} (hz : z = (N : Int)) (hN : N < 1000) (hcells : cells + 1 ≤ R.cells) (hslots : slots + N ≤ R.slots) (hdg : decode cc pc = .ok (.newarray .int, 2))
    (kk : ∀ (q : Nat) (H1 : Heap), va_P D cl (ws ++ [(q, .inl (cI, N, .inl (fun _ => (0 : Int32))))]) H1 → va_D A (ws ++ [(q, .inl (cI, N, .inl (fun _ => (0 : Int32))))]) → va_S A H0 H1 locs →
      W p l e R s m args below meth c H1 locs (cells + 1) (slots + N) Q (F0 m (pc + 2) ls (.ref q :: rest))) : W p l e R s m args below meth c H locs cells slots Q (F0 m pc ls (.int (ji_n z) :: rest)) := by
  subst hz
  refine va_newa (atype := .int) (ty := .int) hexec hb harr rfl hK hP hD hS hA (na_i N) (na_p (by omega)) (ji_clamp (by omega)) (by show N * 4 ≤ 536870912; omega) hcells hslots hdg (fun q cA H1 hK2 hP1 hD1 hS1 => ?_)
  have h1 : s.vm.findClass ("[" ++ (FieldType.int).toString) = some cI := (hK2.2 0 _ rfl).2
  have h2 : s.vm.findClass ("[" ++ (FieldType.int).toString) = some cA := (hK2.2 1 _ rfl).2
  have hce : cA = cI := Option.some.inj (h2.symm.trans h1)
  subst hce
  exact kk q H1 hP1 hD1 hS1
end NA
