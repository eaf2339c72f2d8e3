section
/-! numbers: ji_n z is the int of z; rows for instructions whose numbers are all ji_n of something -/
def ji_n (z : Int) : Int32 := Int32.ofInt z
def ji_r (z : Int) : Prop := -2147483648 ≤ z ∧ z ≤ 2147483647
theorem ji_toInt {z : Int} (h : ji_r z) : (ji_n z).toInt = z := Int32.toInt_ofInt_of_le (by have := h.1; omega) (by have := h.2; omega)
theorem ji_of (x : Int32) : ji_r x.toInt ∧ x = ji_n x.toInt := ⟨⟨by have := Int32.le_toInt x; omega, by have := Int32.toInt_lt x; omega⟩, (Int32.ofInt_toInt x).symm⟩
theorem ji_ex (x : Int32) : ∃ z : Int, ji_r z ∧ x = ji_n z := ⟨x.toInt, ji_of x⟩
theorem ji_inj {a b : Int} (ha : ji_r a) (hb : ji_r b) : ji_n a = ji_n b ↔ a = b := ⟨fun h => by have := congrArg Int32.toInt h; rwa [ji_toInt ha, ji_toInt hb] at this, fun h => by rw [h]⟩
theorem ji_lt {a b : Int} (ha : ji_r a) (hb : ji_r b) : ji_n a < ji_n b ↔ a < b := by rw [Int32.lt_iff_toInt_lt, ji_toInt ha, ji_toInt hb]
theorem ji_le {a b : Int} (ha : ji_r a) (hb : ji_r b) : ji_n a ≤ ji_n b ↔ a ≤ b := by rw [Int32.le_iff_toInt_le, ji_toInt ha, ji_toInt hb]
theorem ji_0 : (0 : Int32) = ji_n 0 := by decide
theorem ji_r0 : ji_r 0 := by unfold ji_r; omega
theorem ji_add (a b : Int) : ji_n a + ji_n b = ji_n (a + b) := (Int32.ofInt_add a b).symm
theorem ji_sub (a b : Int) : ji_n a - ji_n b = ji_n (a - b) := (Int32.ofInt_sub a b).symm
theorem ji_mul (a b : Int) : ji_n a * ji_n b = ji_n (a * b) := (Int32.ofInt_mul a b).symm
theorem ji_nI (n : Nat) : nI n = ji_n (n : Int) := (Int32.ofInt_eq_ofNat (n := n)).symm
theorem ji_clamp {n : Nat} (h : n < 2147483648) : (ji_n (n : Int)).toNatClampNeg = n := by
  rw [← ji_nI]; exact nI_clamp (by omega)
theorem ji_in {n N : Nat} (h : n < N) (hN : N < 2147483648) : vp_in (ji_n (n : Int)) N := by
  rw [← ji_nI]; exact vp_in_nI h (by omega)
section JN
variable {p : Program} {l : Launch} {e : Env} {R : Room} {s : State} {m : MethodId} {args : Array Value} {below : List Frame} {meth : Method} {c : Code} {H : Heap} {locs : List Loc} {cells slots : Nat} {Q : State → Prop}
variable {cc : ByteArray} {pc : Nat} {ls : Array Slot} {rest : List Value}
theorem jn_iconst (hexec : p.tables.exec = Jvm.exec) (hb : c.code = cc) {n : Int} (hdg : decode cc pc = .ok (.iconst n, 1)) (k : W p l e R s m args below meth c H locs cells slots Q (F0 m (pc + 1) ls (.int (ji_n n) :: rest))) : W p l e R s m args below meth c H locs cells slots Q (F0 m pc ls rest) := lv_iconst hexec hb hdg rfl k
theorem jn_bipush (hexec : p.tables.exec = Jvm.exec) (hb : c.code = cc) {n : Int} (hdg : decode cc pc = .ok (.bipush n, 2)) (hv : (Int8.ofInt n).toInt32 = ji_n n) (k : W p l e R s m args below meth c H locs cells slots Q (F0 m (pc + 2) ls (.int (ji_n n) :: rest))) : W p l e R s m args below meth c H locs cells slots Q (F0 m pc ls rest) := lv_bipush hexec hb hdg hv k
theorem jn_sipush (hexec : p.tables.exec = Jvm.exec) (hb : c.code = cc) {n : Int} (hdg : decode cc pc = .ok (.sipush n, 3)) (hv : (Int16.ofInt n).toInt32 = ji_n n) (k : W p l e R s m args below meth c H locs cells slots Q (F0 m (pc + 3) ls (.int (ji_n n) :: rest))) : W p l e R s m args below meth c H locs cells slots Q (F0 m pc ls rest) := lv_sipush hexec hb hdg hv k
theorem jn_iadd (hexec : p.tables.exec = Jvm.exec) (hb : c.code = cc) {a b v : Int} (hdg : decode cc pc = .ok (.iadd, 1)) (hv : a + b = v) (k : W p l e R s m args below meth c H locs cells slots Q (F0 m (pc + 1) ls (.int (ji_n v) :: rest))) : W p l e R s m args below meth c H locs cells slots Q (F0 m pc ls (.int (ji_n b) :: .int (ji_n a) :: rest)) := lv_iadd hexec hb hdg (by rw [ji_add, hv]; exact k)
theorem jn_isub (hexec : p.tables.exec = Jvm.exec) (hb : c.code = cc) {a b v : Int} (hdg : decode cc pc = .ok (.isub, 1)) (hv : a - b = v) (k : W p l e R s m args below meth c H locs cells slots Q (F0 m (pc + 1) ls (.int (ji_n v) :: rest))) : W p l e R s m args below meth c H locs cells slots Q (F0 m pc ls (.int (ji_n b) :: .int (ji_n a) :: rest)) := lv_isub hexec hb hdg (by rw [ji_sub, hv]; exact k)
theorem jn_imul (hexec : p.tables.exec = Jvm.exec) (hb : c.code = cc) {a b v : Int} (hdg : decode cc pc = .ok (.imul, 1)) (hv : a * b = v) (k : W p l e R s m args below meth c H locs cells slots Q (F0 m (pc + 1) ls (.int (ji_n v) :: rest))) : W p l e R s m args below meth c H locs cells slots Q (F0 m pc ls (.int (ji_n b) :: .int (ji_n a) :: rest)) := lv_imul hexec hb hdg (by rw [ji_mul, hv]; exact k)
theorem jn_top {x : Int32} {v : Int} (hv : x = ji_n v) (k : W p l e R s m args below meth c H locs cells slots Q (F0 m pc ls (.int (ji_n v) :: rest))) : W p l e R s m args below meth c H locs cells slots Q (F0 m pc ls (.int x :: rest)) := by rw [hv]; exact k
theorem jn_iinc (hexec : p.tables.exec = Jvm.exec) (hb : c.code = cc) {i nL k : Nat} {n : Int} {a v : Int} {lv lv' : List (Nat × Value)} (hdg : decode cc pc = .ok (.iinc i n, 3)) (h : lv_has ls nL lv) (hk : lv[k]? = some (i, .int (ji_n a))) (hv : a + n = v) (hn : i < nL) (hl : (i, Value.int (ji_n v)) :: lv.filter (fun q => !(q.1 == i) && !(q.1 + 1 == i && q.2.category == 2)) = lv')
    (kk : ∀ ls' : Array Slot, lv_has ls' nL lv' → W p l e R s m args below meth c H locs cells slots Q (F0 m (pc + 3) ls' rest)) : W p l e R s m args below meth c H locs cells slots Q (F0 m pc ls rest) := lv_iinc hexec hb hdg h hk (v := ji_n v) (by show ji_n a + ji_n n = ji_n v; rw [ji_add, hv]) hn hl kk
theorem jn_top2 {q0 : Value} {x : Int32} {v : Int} (hv : x = ji_n v) (k : W p l e R s m args below meth c H locs cells slots Q (F0 m pc ls (q0 :: .int (ji_n v) :: rest))) : W p l e R s m args below meth c H locs cells slots Q (F0 m pc ls (q0 :: .int x :: rest)) := by rw [hv]; exact k
theorem jn_top3 {q0 q1 : Value} {x : Int32} {v : Int} (hv : x = ji_n v) (k : W p l e R s m args below meth c H locs cells slots Q (F0 m pc ls (q0 :: q1 :: .int (ji_n v) :: rest))) : W p l e R s m args below meth c H locs cells slots Q (F0 m pc ls (q0 :: q1 :: .int x :: rest)) := by rw [hv]; exact k
theorem jn_icmp_eq (hexec : p.tables.exec = Jvm.exec) (hb : c.code = cc) {a b : Int} {off : Int} {tgt : Nat} (hdg : decode cc pc = .ok (.if_icmp .eq off, 3)) (ht : (pc : Int) + off = (tgt : Int)) (ha : ji_r a) (hb2 : ji_r b)
    (kt : a = b → W p l e R s m args below meth c H locs cells slots Q (F0 m tgt ls rest)) (kf : ¬ a = b → W p l e R s m args below meth c H locs cells slots Q (F0 m (pc + 3) ls rest)) : W p l e R s m args below meth c H locs cells slots Q (F0 m pc ls (.int (ji_n b) :: .int (ji_n a) :: rest)) := lv_icmp_eq hexec hb hdg ht (fun h => kt ((ji_inj ha hb2).mp h)) (fun h => kf (fun q => h ((ji_inj ha hb2).mpr q)))
theorem jn_icmp_ne (hexec : p.tables.exec = Jvm.exec) (hb : c.code = cc) {a b : Int} {off : Int} {tgt : Nat} (hdg : decode cc pc = .ok (.if_icmp .ne off, 3)) (ht : (pc : Int) + off = (tgt : Int)) (ha : ji_r a) (hb2 : ji_r b)
    (kt : ¬ a = b → W p l e R s m args below meth c H locs cells slots Q (F0 m tgt ls rest)) (kf : a = b → W p l e R s m args below meth c H locs cells slots Q (F0 m (pc + 3) ls rest)) : W p l e R s m args below meth c H locs cells slots Q (F0 m pc ls (.int (ji_n b) :: .int (ji_n a) :: rest)) := lv_icmp_ne hexec hb hdg ht (fun h => kt (fun q => h ((ji_inj ha hb2).mpr q))) (fun h => kf ((ji_inj ha hb2).mp h))
theorem jn_icmp_lt (hexec : p.tables.exec = Jvm.exec) (hb : c.code = cc) {a b : Int} {off : Int} {tgt : Nat} (hdg : decode cc pc = .ok (.if_icmp .lt off, 3)) (ht : (pc : Int) + off = (tgt : Int)) (ha : ji_r a) (hb2 : ji_r b)
    (kt : a < b → W p l e R s m args below meth c H locs cells slots Q (F0 m tgt ls rest)) (kf : b ≤ a → W p l e R s m args below meth c H locs cells slots Q (F0 m (pc + 3) ls rest)) : W p l e R s m args below meth c H locs cells slots Q (F0 m pc ls (.int (ji_n b) :: .int (ji_n a) :: rest)) := lv_icmp_lt hexec hb hdg ht (fun h => kt ((ji_lt ha hb2).mp h)) (fun h => kf (by have h2 : ¬ (a < b) := fun q => h ((ji_lt ha hb2).mpr q); omega))
theorem jn_icmp_ge (hexec : p.tables.exec = Jvm.exec) (hb : c.code = cc) {a b : Int} {off : Int} {tgt : Nat} (hdg : decode cc pc = .ok (.if_icmp .ge off, 3)) (ht : (pc : Int) + off = (tgt : Int)) (ha : ji_r a) (hb2 : ji_r b)
    (kt : b ≤ a → W p l e R s m args below meth c H locs cells slots Q (F0 m tgt ls rest)) (kf : a < b → W p l e R s m args below meth c H locs cells slots Q (F0 m (pc + 3) ls rest)) : W p l e R s m args below meth c H locs cells slots Q (F0 m pc ls (.int (ji_n b) :: .int (ji_n a) :: rest)) := lv_icmp_ge hexec hb hdg ht (fun h => kt ((ji_le hb2 ha).mp h)) (fun h => kf (by have h2 : ¬ (b ≤ a) := fun q => h ((ji_le hb2 ha).mpr q); omega))
theorem jn_icmp_gt (hexec : p.tables.exec = Jvm.exec) (hb : c.code = cc) {a b : Int} {off : Int} {tgt : Nat} (hdg : decode cc pc = .ok (.if_icmp .gt off, 3)) (ht : (pc : Int) + off = (tgt : Int)) (ha : ji_r a) (hb2 : ji_r b)
    (kt : b < a → W p l e R s m args below meth c H locs cells slots Q (F0 m tgt ls rest)) (kf : a ≤ b → W p l e R s m args below meth c H locs cells slots Q (F0 m (pc + 3) ls rest)) : W p l e R s m args below meth c H locs cells slots Q (F0 m pc ls (.int (ji_n b) :: .int (ji_n a) :: rest)) := lv_icmp_gt hexec hb hdg ht (fun h => kt ((ji_lt hb2 ha).mp h)) (fun h => kf (by have h2 : ¬ (b < a) := fun q => h ((ji_lt hb2 ha).mpr q); omega))
theorem jn_icmp_le (hexec : p.tables.exec = Jvm.exec) (hb : c.code = cc) {a b : Int} {off : Int} {tgt : Nat} (hdg : decode cc pc = .ok (.if_icmp .le off, 3)) (ht : (pc : Int) + off = (tgt : Int)) (ha : ji_r a) (hb2 : ji_r b)
    (kt : a ≤ b → W p l e R s m args below meth c H locs cells slots Q (F0 m tgt ls rest)) (kf : b < a → W p l e R s m args below meth c H locs cells slots Q (F0 m (pc + 3) ls rest)) : W p l e R s m args below meth c H locs cells slots Q (F0 m pc ls (.int (ji_n b) :: .int (ji_n a) :: rest)) := lv_icmp_le hexec hb hdg ht (fun h => kt ((ji_le ha hb2).mp h)) (fun h => kf (by have h2 : ¬ (a ≤ b) := fun q => h ((ji_le ha hb2).mpr q); omega))
theorem jn_if_eq (hexec : p.tables.exec = Jvm.exec) (hb : c.code = cc) {a : Int} {off : Int} {tgt : Nat} (hdg : decode cc pc = .ok (.ifCond .eq off, 3)) (ht : (pc : Int) + off = (tgt : Int)) (ha : ji_r a)
    (kt : a = 0 → W p l e R s m args below meth c H locs cells slots Q (F0 m tgt ls rest)) (kf : ¬ a = 0 → W p l e R s m args below meth c H locs cells slots Q (F0 m (pc + 3) ls rest)) : W p l e R s m args below meth c H locs cells slots Q (F0 m pc ls (.int (ji_n a) :: rest)) := lv_if_eq hexec hb hdg ht (fun h => kt ((ji_inj ha ji_r0).mp (by rw [ji_0] at h; exact h))) (fun h => kf (fun q => h (by rw [ji_0]; exact (ji_inj ha ji_r0).mpr q)))
theorem jn_if_ne (hexec : p.tables.exec = Jvm.exec) (hb : c.code = cc) {a : Int} {off : Int} {tgt : Nat} (hdg : decode cc pc = .ok (.ifCond .ne off, 3)) (ht : (pc : Int) + off = (tgt : Int)) (ha : ji_r a)
    (kt : ¬ a = 0 → W p l e R s m args below meth c H locs cells slots Q (F0 m tgt ls rest)) (kf : a = 0 → W p l e R s m args below meth c H locs cells slots Q (F0 m (pc + 3) ls rest)) : W p l e R s m args below meth c H locs cells slots Q (F0 m pc ls (.int (ji_n a) :: rest)) := lv_if_ne hexec hb hdg ht (fun h => kt (fun q => h (by rw [ji_0]; exact (ji_inj ha ji_r0).mpr q))) (fun h => kf ((ji_inj ha ji_r0).mp (by rw [ji_0] at h; exact h)))
theorem jn_if_lt (hexec : p.tables.exec = Jvm.exec) (hb : c.code = cc) {a : Int} {off : Int} {tgt : Nat} (hdg : decode cc pc = .ok (.ifCond .lt off, 3)) (ht : (pc : Int) + off = (tgt : Int)) (ha : ji_r a)
    (kt : a < 0 → W p l e R s m args below meth c H locs cells slots Q (F0 m tgt ls rest)) (kf : 0 ≤ a → W p l e R s m args below meth c H locs cells slots Q (F0 m (pc + 3) ls rest)) : W p l e R s m args below meth c H locs cells slots Q (F0 m pc ls (.int (ji_n a) :: rest)) := lv_if_lt hexec hb hdg ht (fun h => kt ((ji_lt ha ji_r0).mp (by rw [ji_0] at h; exact h))) (fun h => kf (by have h2 : ¬ (a < 0) := fun q => h (by rw [ji_0]; exact (ji_lt ha ji_r0).mpr q); omega))
theorem jn_if_ge (hexec : p.tables.exec = Jvm.exec) (hb : c.code = cc) {a : Int} {off : Int} {tgt : Nat} (hdg : decode cc pc = .ok (.ifCond .ge off, 3)) (ht : (pc : Int) + off = (tgt : Int)) (ha : ji_r a)
    (kt : 0 ≤ a → W p l e R s m args below meth c H locs cells slots Q (F0 m tgt ls rest)) (kf : a < 0 → W p l e R s m args below meth c H locs cells slots Q (F0 m (pc + 3) ls rest)) : W p l e R s m args below meth c H locs cells slots Q (F0 m pc ls (.int (ji_n a) :: rest)) := lv_if_ge hexec hb hdg ht (fun h => kt ((ji_le ji_r0 ha).mp (by rw [ji_0] at h; exact h))) (fun h => kf (by have h2 : ¬ (0 ≤ a) := fun q => h (by rw [ji_0]; exact (ji_le ji_r0 ha).mpr q); omega))
theorem jn_if_gt (hexec : p.tables.exec = Jvm.exec) (hb : c.code = cc) {a : Int} {off : Int} {tgt : Nat} (hdg : decode cc pc = .ok (.ifCond .gt off, 3)) (ht : (pc : Int) + off = (tgt : Int)) (ha : ji_r a)
    (kt : 0 < a → W p l e R s m args below meth c H locs cells slots Q (F0 m tgt ls rest)) (kf : a ≤ 0 → W p l e R s m args below meth c H locs cells slots Q (F0 m (pc + 3) ls rest)) : W p l e R s m args below meth c H locs cells slots Q (F0 m pc ls (.int (ji_n a) :: rest)) := lv_if_gt hexec hb hdg ht (fun h => kt ((ji_lt ji_r0 ha).mp (by rw [ji_0] at h; exact h))) (fun h => kf (by have h2 : ¬ (0 < a) := fun q => h (by rw [ji_0]; exact (ji_lt ji_r0 ha).mpr q); omega))
theorem jn_if_le (hexec : p.tables.exec = Jvm.exec) (hb : c.code = cc) {a : Int} {off : Int} {tgt : Nat} (hdg : decode cc pc = .ok (.ifCond .le off, 3)) (ht : (pc : Int) + off = (tgt : Int)) (ha : ji_r a)
    (kt : a ≤ 0 → W p l e R s m args below meth c H locs cells slots Q (F0 m tgt ls rest)) (kf : 0 < a → W p l e R s m args below meth c H locs cells slots Q (F0 m (pc + 3) ls rest)) : W p l e R s m args below meth c H locs cells slots Q (F0 m pc ls (.int (ji_n a) :: rest)) := lv_if_le hexec hb hdg ht (fun h => kt ((ji_le ha ji_r0).mp (by rw [ji_0] at h; exact h))) (fun h => kf (by have h2 : ¬ (a ≤ 0) := fun q => h (by rw [ji_0]; exact (ji_le ha ji_r0).mpr q); omega))
variable {D : va_G} {cl : List vw_C} {A : Nat → Prop} {a : Nat} {tys : List (ClassId × FieldType)} {ws : va_W} {H0 : Heap}
theorem jn_iald (hexec : p.tables.exec = Jvm.exec) (hb : c.code = cc) (hK : va_K D cl tys s) (hP : va_P D cl ws H) (q0 t0 : Nat) {cA : ClassId} {n : Nat} {f : Nat → Int32} (ha : ws[q0]? = some (a, .inl (cA, n, .inl f))) (ht : tys[t0]? = some (cA, .int)) (i : Nat) {z v : Int} (hz : z = (i : Int)) (hi : i < n) (hn : n < 2147483648) (hv : f i = ji_n v) (hdg : decode cc pc = .ok (.iaload, 1))
    (kk : W p l e R s m args below meth c H locs cells slots Q (F0 m (pc + 1) ls (.int (ji_n v) :: rest))) : W p l e R s m args below meth c H locs cells slots Q (F0 m pc ls (.int (ji_n z) :: .ref a :: rest)) := by
  subst hz
  refine va_iald hexec hb hK hP q0 t0 ha ht (ji_in hi hn) hdg ?_
  rw [ji_clamp (by omega), hv]
  exact kk
theorem jn_iast (hexec : p.tables.exec = Jvm.exec) (hb : c.code = cc) (hK : va_K D cl tys s) (hP : va_P D cl ws H) (hD : va_D A ws) (hS : va_S A H0 H locs) (q0 t0 : Nat) {cA : ClassId} {n : Nat} {f : Nat → Int32} (ha : ws[q0]? = some (a, .inl (cA, n, .inl f))) (ht : tys[t0]? = some (cA, .int)) (i : Nat) {z v : Int} (hz : z = (i : Int)) (hi : i < n) (hn : n < 2147483648) (hdg : decode cc pc = .ok (.iastore, 1))
    (kk : ∀ (H1 : Heap) (locs1 : List Loc), va_P D cl (ws.set q0 (a, .inl (cA, n, .inl (upd f i (ji_n v))))) H1 → va_D A (ws.set q0 (a, .inl (cA, n, .inl (upd f i (ji_n v))))) → va_S A H0 H1 locs1 → W p l e R s m args below meth c H1 locs1 cells slots Q (F0 m (pc + 1) ls rest)) : W p l e R s m args below meth c H locs cells slots Q (F0 m pc ls (.int (ji_n v) :: .int (ji_n z) :: .ref a :: rest)) := by
  subst hz
  refine va_iast hexec hb hK hP hD hS q0 t0 ha ht (ji_in hi hn) hdg (fun H1 locs1 h1 h2 h3 => ?_)
  rw [ji_clamp (by omega)] at h1 h2
  exact kk H1 locs1 h1 h2 h3
end JN
end
section
/-! the pure side: lines (K, A, B below n), sizes z, places, labels, bytes, the least closed choice -/
def sp_gd (k a b : Int) : Prop := (k = 0 ∧ 0 ≤ a ∧ a ≤ 15 ∧ b = 0) ∨ (k = 1 ∧ 1 ≤ a ∧ a ≤ 200 ∧ 0 ≤ b ∧ b ≤ 255) ∨ (k = 2 ∧ 0 ≤ a ∧ a ≤ 15 ∧ -1000 ≤ b ∧ b ≤ 1000) ∨ (k = 3 ∧ 0 ≤ a ∧ a ≤ 15 ∧ 0 ≤ b ∧ b ≤ 7)
def sp_gp (K A B : Nat → Int) (n : Nat) : Prop := ∀ j, j < n → sp_gd (K j) (A j) (B j)
def sp_pz (z : Nat → Int) : Nat → Int
  | 0 => 0
  | i + 1 => sp_pz z i + z i
theorem sp_pz_s (z : Nat → Int) (i : Nat) : sp_pz z (i + 1) = sp_pz z i + z i := rfl
theorem sp_pz_congr {z z' : Nat → Int} {n : Nat} (h : ∀ j, j < n → z j = z' j) : ∀ i, i ≤ n → sp_pz z i = sp_pz z' i := by
  intro i
  induction i with
  | zero => intro _; rfl
  | succ i ih =>
    intro hi
    rw [sp_pz_s, sp_pz_s, ih (by omega), h i (by omega)]
def sp_la (K A z : Nat → Int) : Nat → Int → Int
  | 0, _ => -1
  | i + 1, x => if K i = 0 ∧ A i = x then sp_pz z i else sp_la K A z i x
theorem sp_la_s (K A z : Nat → Int) (i : Nat) (x : Int) : sp_la K A z (i + 1) x = if K i = 0 ∧ A i = x then sp_pz z i else sp_la K A z i x := rfl
def sp_uq (K A : Nat → Int) (n : Nat) : Prop := ∀ i j, i < n → j < n → K i = 0 → K j = 0 → A i = A j → i = j
theorem sp_la_at {K A z : Nat → Int} {n : Nat} (hu : sp_uq K A n) {k : Nat} (hk : k < n) (h0 : K k = 0) : sp_la K A z n (A k) = sp_pz z k := by
  have key : ∀ i, k < i → i ≤ n → sp_la K A z i (A k) = sp_pz z k := by
    intro i
    induction i with
    | zero => intro h; omega
    | succ i ih =>
      intro h1 h2
      rw [sp_la_s]
      by_cases hc : K i = 0 ∧ A i = A k
      · have := hu i k (by omega) hk hc.1 h0 hc.2
        rw [if_pos hc, this]
      · rw [if_neg hc]
        have : k ≠ i := fun q => hc (by rw [← q]; exact ⟨h0, rfl⟩)
        exact ih (by omega) (by omega)
  exact key n hk (Nat.le_refl _)
theorem sp_la_no {K A z : Nat → Int} {n : Nat} {x : Int} (h : ∀ k, k < n → ¬ (K k = 0 ∧ A k = x)) : sp_la K A z n x = -1 := by
  induction n with
  | zero => rfl
  | succ i ih =>
    rw [sp_la_s, if_neg (h i (by omega))]
    exact ih (fun k hk => h k (by omega))
theorem sp_la_or (K A z : Nat → Int) (n : Nat) (x : Int) : sp_la K A z n x = -1 ∨ ∃ k, k < n ∧ K k = 0 ∧ A k = x ∧ sp_la K A z n x = sp_pz z k := by
  induction n with
  | zero => exact Or.inl rfl
  | succ i ih =>
    rw [sp_la_s]
    by_cases hc : K i = 0 ∧ A i = x
    · rw [if_pos hc]
      exact Or.inr ⟨i, by omega, hc.1, hc.2, rfl⟩
    · rw [if_neg hc]
      rcases ih with h | ⟨k, h1, h2⟩
      · exact Or.inl h
      · exact Or.inr ⟨k, by omega, h2⟩
def sp_lg (b : Int) : Int := if b = 0 then 3 else 5
theorem sp_lg_or (b : Int) : (b = 0 ∧ sp_lg b = 3) ∨ (b ≠ 0 ∧ sp_lg b = 5) := by
  unfold sp_lg
  by_cases h : b = 0
  · rw [if_pos h]; exact Or.inl ⟨h, rfl⟩
  · rw [if_neg h]; exact Or.inr ⟨h, rfl⟩
def sp_ok (K A B z : Nat → Int) (n : Nat) : Prop := ∀ j, j < n → (K j = 0 ∧ z j = 0) ∨ (K j = 1 ∧ z j = A j) ∨ (K j = 2 ∧ z j = 2) ∨ (K j = 3 ∧ (z j = 2 ∨ z j = sp_lg (B j)))
theorem sp_z_r {K A B z : Nat → Int} {n : Nat} (hg : sp_gp K A B n) (ho : sp_ok K A B z n) : ∀ j, j < n → 0 ≤ z j ∧ z j ≤ 200 := by
  intro j hj
  have h1 := hg j hj
  have h2 := ho j hj
  have h3 := sp_lg_or (B j)
  unfold sp_gd at h1
  omega
theorem sp_pz_b {z : Nat → Int} {n : Nat} (h : ∀ j, j < n → 0 ≤ z j ∧ z j ≤ 200) : ∀ i, i ≤ n → 0 ≤ sp_pz z i ∧ sp_pz z i ≤ 200 * (i : Int) := by
  intro i
  induction i with
  | zero => intro _; exact ⟨Int.le_refl _, Int.le_refl _⟩
  | succ i ih =>
    intro hi
    have h1 := ih (by omega)
    have h2 := h i (by omega)
    rw [sp_pz_s]
    omega
theorem sp_pz_dm {z z' : Nat → Int} {n : Nat} (h0 : ∀ j, j < n → 0 ≤ z j) (hle : ∀ j, j < n → z j ≤ z' j) {a : Nat} : ∀ b, a ≤ b → b ≤ n → 0 ≤ sp_pz z b - sp_pz z a ∧ sp_pz z b - sp_pz z a ≤ sp_pz z' b - sp_pz z' a := by
  intro b
  induction b with
  | zero =>
    intro h1 _
    have : a = 0 := by omega
    subst this
    omega
  | succ b ih =>
    intro h1 h2
    by_cases hab : a = b + 1
    · subst hab; omega
    · have h3 := ih (by omega) (by omega)
      have h4 := h0 b (by omega)
      have h5 := hle b (by omega)
      rw [sp_pz_s, sp_pz_s]
      omega
theorem sp_pz_m {z : Nat → Int} {n : Nat} (h0 : ∀ j, j < n → 0 ≤ z j) {a b : Nat} (h1 : a ≤ b) (h2 : b ≤ n) : sp_pz z a ≤ sp_pz z b := by
  have := (sp_pz_dm h0 (fun j _ => Int.le_refl (z j)) b h1 h2).1
  omega
/-- what was assembled: lines, sizes, labels once -/
def sp_AS (n : Nat) (K A B z : Nat → Int) : Prop := n ≤ 50 ∧ sp_gp K A B n ∧ sp_ok K A B z n ∧ sp_uq K A n
theorem sp_AS_z {n : Nat} {K A B z : Nat → Int} (h : sp_AS n K A B z) : ∀ j, j < n → 0 ≤ z j ∧ z j ≤ 200 := sp_z_r h.2.1 h.2.2.1
theorem sp_AS_p {n : Nat} {K A B z : Nat → Int} (h : sp_AS n K A B z) {i : Nat} (hi : i ≤ n) : 0 ≤ sp_pz z i ∧ sp_pz z i ≤ 10000 := by
  have h1 := sp_pz_b (sp_AS_z h) i hi
  have h2 := h.1
  omega
theorem sp_AS_m {n : Nat} {K A B z : Nat → Int} (h : sp_AS n K A B z) {a b : Nat} (h1 : a ≤ b) (h2 : b ≤ n) : sp_pz z a ≤ sp_pz z b := sp_pz_m (fun j hj => (sp_AS_z h j hj).1) h1 h2
theorem sp_AS_la {n : Nat} {K A B z : Nat → Int} (h : sp_AS n K A B z) {i : Nat} (hi : i ≤ n) (x : Int) : -1 ≤ sp_la K A z i x ∧ sp_la K A z i x ≤ 10000 := by
  rcases sp_la_or K A z i x with h1 | ⟨k, h1, -, -, h2⟩
  · rw [h1]; omega
  · rw [h2]
    have := sp_AS_p h (i := k) (by omega)
    omega
def sp_ds (n : Nat) (K A z : Nat → Int) (j : Nat) : Int := sp_la K A z n (A j) - sp_pz z (j + 1)
theorem sp_AS_ds {n : Nat} {K A B z : Nat → Int} (h : sp_AS n K A B z) {j : Nat} (hj : j < n) : -10001 ≤ sp_ds n K A z j ∧ sp_ds n K A z j ≤ 10000 := by
  have h1 := sp_AS_la h (Nat.le_refl n) (A j)
  have h2 := sp_AS_p h (i := j + 1) (by omega)
  unfold sp_ds
  omega
/-! bytes -/
def sp_hi (v : Int) : Int := v / 256 % 256
def sp_lo (v : Int) : Int := v % 256
def sp_op (c : Int) : Int := if c = 4 then 44 else if c < 4 then 36 + c else 28 + c
def sp_lb (n : Nat) (K A B z : Nat → Int) (j : Nat) (o : Int) : Int :=
  if K j = 1 then B j
  else if K j = 2 then (if o = 0 then sp_hi (sp_la K A z n (A j) + B j) else sp_lo (sp_la K A z n (A j) + B j))
  else if z j = 2 then (if o = 0 then 32 + B j else sp_lo (sp_ds n K A z j))
  else if z j = 5 ∧ o < 2 then (if o = 0 then sp_op (B j) else 3)
  else if o = z j - 3 then 64
  else if o = z j - 2 then sp_hi (sp_ds n K A z j)
  else sp_lo (sp_ds n K A z j)
theorem sp_hi_r (v : Int) : 0 ≤ sp_hi v ∧ sp_hi v ≤ 255 := by unfold sp_hi; omega
theorem sp_lo_r (v : Int) : 0 ≤ sp_lo v ∧ sp_lo v ≤ 255 := by unfold sp_lo; omega
theorem sp_op_r {c : Int} (h : 0 ≤ c ∧ c ≤ 7) : 32 ≤ sp_op c ∧ sp_op c ≤ 47 := by
  unfold sp_op
  split
  · omega
  · split <;> omega
theorem sp_lb_r {n : Nat} {K A B z : Nat → Int} (h : sp_AS n K A B z) {j : Nat} (hj : j < n) (h0 : K j ≠ 0) (o : Int) : 0 ≤ sp_lb n K A B z j o ∧ sp_lb n K A B z j o ≤ 255 := by
  have h1 := h.2.1 j hj
  unfold sp_gd at h1
  have e1 := sp_hi_r (sp_la K A z n (A j) + B j)
  have e2 := sp_lo_r (sp_la K A z n (A j) + B j)
  have e3 := sp_hi_r (sp_ds n K A z j)
  have e4 := sp_lo_r (sp_ds n K A z j)
  unfold sp_lb
  by_cases c1 : K j = 1
  · rw [if_pos c1]; omega
  rw [if_neg c1]
  by_cases c2 : K j = 2
  · rw [if_pos c2]; split <;> assumption
  rw [if_neg c2]
  have hB : 0 ≤ B j ∧ B j ≤ 7 := by omega
  have e5 := sp_op_r hB
  repeat' split
  all_goals omega
def sp_bb (n : Nat) (K A B z : Nat → Int) : Nat → Int → Int
  | 0, _ => -1
  | i + 1, k => if sp_pz z i ≤ k ∧ k < sp_pz z (i + 1) then sp_lb n K A B z i (k - sp_pz z i) else sp_bb n K A B z i k
theorem sp_bb_s (n : Nat) (K A B z : Nat → Int) (i : Nat) (k : Int) : sp_bb n K A B z (i + 1) k = if sp_pz z i ≤ k ∧ k < sp_pz z (i + 1) then sp_lb n K A B z i (k - sp_pz z i) else sp_bb n K A B z i k := rfl
def sp_ba (n : Nat) (K A B z : Nat → Int) (k : Int) : Int := sp_bb n K A B z n k
theorem sp_ba_at {n : Nat} {K A B z : Nat → Int} (h : sp_AS n K A B z) {j : Nat} {k : Int} (hj : j < n) (h1 : sp_pz z j ≤ k) (h2 : k < sp_pz z (j + 1)) : sp_ba n K A B z k = sp_lb n K A B z j (k - sp_pz z j) := by
  have key : ∀ i, j < i → i ≤ n → sp_bb n K A B z i k = sp_lb n K A B z j (k - sp_pz z j) := by
    intro i
    induction i with
    | zero => intro q; omega
    | succ i ih =>
      intro q1 q2
      rw [sp_bb_s]
      by_cases hij : i = j
      · subst hij
        rw [if_pos ⟨h1, h2⟩]
      · have hm := sp_AS_m h (a := j + 1) (b := i) (by omega) (by omega)
        rw [if_neg (by omega)]
        exact ih (by omega) (by omega)
  exact key n hj (Nat.le_refl _)
theorem sp_ba_no {n : Nat} {K A B z : Nat → Int} (h : sp_AS n K A B z) {k : Int} (hk : k < 0 ∨ sp_pz z n ≤ k) : sp_ba n K A B z k = -1 := by
  have key : ∀ i, i ≤ n → sp_bb n K A B z i k = -1 := by
    intro i
    induction i with
    | zero => intro _; rfl
    | succ i ih =>
      intro q
      have h1 := sp_AS_p h (i := i) (by omega)
      have h2 := sp_AS_m h (a := i + 1) (b := n) q (Nat.le_refl _)
      rw [sp_bb_s, if_neg (by omega)]
      exact ih (by omega)
  exact key n (Nat.le_refl _)
theorem sp_line {z : Nat → Int} {k : Int} (hk : 0 ≤ k) : ∀ n : Nat, k < sp_pz z n → ∃ j, j < n ∧ sp_pz z j ≤ k ∧ k < sp_pz z (j + 1) := by
  intro n
  induction n with
  | zero => intro h; have : sp_pz z 0 = 0 := rfl; omega
  | succ i ih =>
    intro h
    by_cases hc : k < sp_pz z i
    · obtain ⟨j, q1, q2⟩ := ih hc
      exact ⟨j, by omega, q2⟩
    · exact ⟨i, by omega, by omega, h⟩
theorem sp_ba_r {n : Nat} {K A B z : Nat → Int} (h : sp_AS n K A B z) {k : Int} (h1 : 0 ≤ k) (h2 : k < sp_pz z n) : 0 ≤ sp_ba n K A B z k ∧ sp_ba n K A B z k ≤ 255 := by
  obtain ⟨j, q1, q2, q3⟩ := sp_line h1 n h2
  rw [sp_ba_at h q1 q2 q3]
  refine sp_lb_r h q1 ?_ _
  intro h0
  have := h.2.2.1 j q1
  rw [sp_pz_s] at q3
  omega
theorem sp_ba_b {n : Nat} {K A B z : Nat → Int} (h : sp_AS n K A B z) (k : Int) : (sp_ba n K A B z k = -1 ∧ (k < 0 ∨ sp_pz z n ≤ k)) ∨ (0 ≤ sp_ba n K A B z k ∧ sp_ba n K A B z k ≤ 255 ∧ 0 ≤ k ∧ k < sp_pz z n) := by
  by_cases hk : k < 0 ∨ sp_pz z n ≤ k
  · exact Or.inl ⟨sp_ba_no h hk, hk⟩
  · have := sp_ba_r h (k := k) (by omega) (by omega)
    exact Or.inr ⟨this.1, this.2, by omega, by omega⟩
def sp_nd (code : Int) : Int := if 32 ≤ code ∧ code ≤ 47 then 2 else if code = 64 then 3 else 1
theorem sp_nd_or (x : Int) : (32 ≤ x ∧ x ≤ 47 ∧ sp_nd x = 2) ∨ (x = 64 ∧ sp_nd x = 3) ∨ (¬ (32 ≤ x ∧ x ≤ 47) ∧ x ≠ 64 ∧ sp_nd x = 1) := by
  unfold sp_nd
  split
  · omega
  · split <;> omega
def sp_os (n : Nat) (K A B z : Nat → Int) (k : Int) : Int := if sp_ba n K A B z k = -1 then 0 else if sp_nd (sp_ba n K A B z k) ≤ sp_pz z n - k then sp_nd (sp_ba n K A B z k) else 0
theorem sp_os_b {n : Nat} {K A B z : Nat → Int} (h : sp_AS n K A B z) (k : Int) : sp_os n K A B z k = 0 ∨ (0 ≤ k ∧ (sp_os n K A B z k = 1 ∨ sp_os n K A B z k = 2 ∨ sp_os n K A B z k = 3) ∧ k + sp_os n K A B z k ≤ sp_pz z n) := by
  have h1 := sp_ba_b h k
  have h2 := sp_nd_or (sp_ba n K A B z k)
  unfold sp_os
  split
  · exact Or.inl rfl
  · split
    · right; omega
    · exact Or.inl rfl
def sp_sb (x : Int) : Int := if 127 < x then x - 256 else x
theorem sp_sb_or (x : Int) : (127 < x ∧ sp_sb x = x - 256) ∨ (x ≤ 127 ∧ sp_sb x = x) := by
  unfold sp_sb
  split <;> omega
def sp_tg (n : Nat) (K A B z : Nat → Int) (k : Int) (sz : Int) : Int := if sz = 2 then k + sz + sp_sb (sp_ba n K A B z (k + 1)) else if sz = 3 then k + sz + (256 * sp_sb (sp_ba n K A B z (k + 1)) + sp_ba n K A B z (k + 2)) else k + sz
def sp_nx (n : Nat) (K A B z : Nat → Int) (k : Int) (t : Int) : Int := if t = 0 then k + sp_os n K A B z k else sp_tg n K A B z k (sp_os n K A B z k)
def sp_ai (n : Nat) (K A B z : Nat → Int) (k : Int) : Int := if sp_ba n K A B z k = 32 ∨ sp_ba n K A B z k = 64 then 1 else 0
theorem sp_ai_or (n : Nat) (K A B z : Nat → Int) (k : Int) : ((sp_ba n K A B z k = 32 ∨ sp_ba n K A B z k = 64) ∧ sp_ai n K A B z k = 1) ∨ (¬ (sp_ba n K A B z k = 32 ∨ sp_ba n K A B z k = 64) ∧ sp_ai n K A B z k = 0) := by
  unfold sp_ai; split <;> omega
theorem sp_ai_b (n : Nat) (K A B z : Nat → Int) (k : Int) : sp_ai n K A B z k = 0 ∨ sp_ai n K A B z k = 1 := by
  have := sp_ai_or n K A B z k; omega
def sp_fl (a b : Int) : Int := if a = 1 ∨ b = 1 then 1 else 0
theorem sp_fl_or (a b : Int) : ((a = 1 ∨ b = 1) ∧ sp_fl a b = 1) ∨ (¬ (a = 1 ∨ b = 1) ∧ sp_fl a b = 0) := by
  unfold sp_fl; split <;> omega
def sp_tr (n : Nat) (K A B z : Nat → Int) (bit : Nat → Int) : Nat → Nat → Int → Int
  | 0, _, h => h
  | r + 1, k, h => if sp_os n K A B z h = 0 then h else sp_tr n K A B z bit r (k + 1) (sp_nx n K A B z h (sp_fl (bit k) (sp_ai n K A B z h)))
theorem sp_tr_s (n : Nat) (K A B z : Nat → Int) (bit : Nat → Int) (r k : Nat) (h : Int) : sp_tr n K A B z bit (r + 1) k h = if sp_os n K A B z h = 0 then h else sp_tr n K A B z bit r (k + 1) (sp_nx n K A B z h (sp_fl (bit k) (sp_ai n K A B z h))) := rfl
theorem sp_tr_e (n : Nat) (K A B z : Nat → Int) (bit : Nat → Int) (r k : Nat) (h : Int) (h0 : sp_os n K A B z h = 0) : sp_tr n K A B z bit r k h = h := by
  cases r with
  | zero => rfl
  | succ r => rw [sp_tr_s, if_pos h0]
theorem sp_nx_or (n : Nat) (K A B z : Nat → Int) (k t : Int) : (t = 0 ∧ sp_nx n K A B z k t = k + sp_os n K A B z k) ∨ (t ≠ 0 ∧ sp_nx n K A B z k t = sp_tg n K A B z k (sp_os n K A B z k)) := by
  unfold sp_nx; split <;> omega
theorem sp_tg_or (n : Nat) (K A B z : Nat → Int) (k s : Int) : (s = 2 ∧ sp_tg n K A B z k s = k + s + sp_sb (sp_ba n K A B z (k + 1))) ∨ (s = 3 ∧ sp_tg n K A B z k s = k + s + (256 * sp_sb (sp_ba n K A B z (k + 1)) + sp_ba n K A B z (k + 2))) ∨ (s ≠ 2 ∧ s ≠ 3 ∧ sp_tg n K A B z k s = k + s) := by
  unfold sp_tg
  split
  · omega
  · split <;> omega
theorem sp_nx_r {n : Nat} {K A B z : Nat → Int} (h : sp_AS n K A B z) {k : Int} (ho : sp_os n K A B z k ≠ 0) (t : Int) : -50000 ≤ sp_nx n K A B z k t ∧ sp_nx n K A B z k t ≤ 50000 := by
  have h1 := sp_os_b h k
  have h2 := sp_AS_p h (Nat.le_refl n)
  have h3 := sp_ba_b h (k + 1)
  have h4 := sp_ba_b h (k + 2)
  have h5 := sp_sb_or (sp_ba n K A B z (k + 1))
  have h6 := sp_nx_or n K A B z k t
  have h7 := sp_tg_or n K A B z k (sp_os n K A B z k)
  omega
/-! the least closed choice -/
def sp_cs (n : Nat) (K A z : Nat → Int) : Prop := ∀ j, j < n → K j = 3 → z j = 2 → -128 ≤ sp_ds n K A z j ∧ sp_ds n K A z j ≤ 127
def sp_lw (n : Nat) (K A B z : Nat → Int) : Prop := ∀ z', sp_ok K A B z' n → sp_cs n K A z' → ∀ j, j < n → z j ≤ z' j
def sp_LC (n : Nat) (K A B z : Nat → Int) : Prop := sp_ok K A B z n ∧ sp_cs n K A z ∧ sp_lw n K A B z
theorem sp_LC_uq {n : Nat} {K A B z z' : Nat → Int} (h : sp_LC n K A B z) (h' : sp_LC n K A B z') : ∀ j, j < n → z j = z' j := by
  intro j hj
  have h1 := h.2.2 z' h'.1 h'.2.1 j hj
  have h2 := h'.2.2 z h.1 h.2.1 j hj
  omega
def sp_df (n : Nat) (K A : Nat → Int) : Prop := ∀ j, j < n → K j = 2 ∨ K j = 3 → ∃ q, q < n ∧ K q = 0 ∧ A q = A j
theorem sp_grow {n : Nat} {K A B z z' : Nat → Int} (hg : sp_gp K A B n) (hu : sp_uq K A n) (hd : sp_df n K A) (ho : sp_ok K A B z n) (hle : ∀ i, i < n → z i ≤ z' i) {j : Nat} (hj : j < n) (h3 : K j = 3) (hnr : ¬ (-128 ≤ sp_ds n K A z j ∧ sp_ds n K A z j ≤ 127)) : ¬ (-128 ≤ sp_ds n K A z' j ∧ sp_ds n K A z' j ≤ 127) := by
  obtain ⟨q, hq, q0, qa⟩ := hd j hj (Or.inr h3)
  have e1 : sp_la K A z n (A j) = sp_pz z q := by rw [← qa]; exact sp_la_at hu hq q0
  have e2 : sp_la K A z' n (A j) = sp_pz z' q := by rw [← qa]; exact sp_la_at hu hq q0
  have h0 : ∀ i, i < n → 0 ≤ z i := fun i hi => (sp_z_r hg ho i hi).1
  unfold sp_ds at hnr ⊢
  rw [e1] at hnr
  rw [e2]
  by_cases hc : q ≤ j + 1
  · have := sp_pz_dm h0 hle (a := q) (j + 1) hc (by omega)
    omega
  · have := sp_pz_dm h0 hle (a := j + 1) q (by omega) (by omega)
    omega
theorem sp_lw_to {n : Nat} {K A B z z2 : Nat → Int} (hg : sp_gp K A B n) (hu : sp_uq K A n) (hd : sp_df n K A) (ho : sp_ok K A B z n) (hl : sp_lw n K A B z) (h : ∀ j, j < n → z2 j = z j ∨ (K j = 3 ∧ z2 j = sp_lg (B j) ∧ ¬ (-128 ≤ sp_ds n K A z j ∧ sp_ds n K A z j ≤ 127))) : sp_lw n K A B z2 := by
  intro z' ho' hc' j hj
  have hle := hl z' ho' hc'
  rcases h j hj with e | ⟨h3, e, hnr⟩
  · rw [e]; exact hle j hj
  · have h4 := sp_grow hg hu hd ho hle hj h3 hnr
    have h5 := ho' j hj
    have h6 : z' j ≠ 2 := fun q => h4 (hc' j hj h3 q)
    omega
theorem sp_ok_to {n : Nat} {K A B z z2 : Nat → Int} (ho : sp_ok K A B z n) (h : ∀ j, j < n → z2 j = z j ∨ (K j = 3 ∧ z2 j = sp_lg (B j))) : sp_ok K A B z2 n := by
  intro j hj
  have h1 := ho j hj
  have h2 := h j hj
  omega
def sp_z0 (K A : Nat → Int) (j : Nat) : Int := if K j = 0 then 0 else if K j = 1 then A j else 2
theorem sp_z0_or (K A : Nat → Int) (j : Nat) : (K j = 0 ∧ sp_z0 K A j = 0) ∨ (K j = 1 ∧ sp_z0 K A j = A j) ∨ (K j ≠ 0 ∧ K j ≠ 1 ∧ sp_z0 K A j = 2) := by
  unfold sp_z0
  split
  · left; exact ⟨by assumption, rfl⟩
  · split
    · right; left; exact ⟨by assumption, rfl⟩
    · right; right; exact ⟨by assumption, by assumption, rfl⟩
theorem sp_z0_ok {n : Nat} {K A B : Nat → Int} (hg : sp_gp K A B n) : sp_ok K A B (sp_z0 K A) n := by
  intro j hj
  have h1 := hg j hj
  unfold sp_gd at h1
  have h2 := sp_z0_or K A j
  omega
theorem sp_z0_lw {n : Nat} {K A B : Nat → Int} (hg : sp_gp K A B n) : sp_lw n K A B (sp_z0 K A) := by
  intro z' ho _ j hj
  have h1 := hg j hj
  unfold sp_gd at h1
  have h2 := sp_z0_or K A j
  have h3 := ho j hj
  have h4 := sp_lg_or (B j)
  omega
/-! how many jumps are long -/
def sp_ct (K z : Nat → Int) : Nat → Nat
  | 0 => 0
  | i + 1 => sp_ct K z i + (if K i = 3 ∧ z i ≠ 2 then 1 else 0)
theorem sp_ct_s (K z : Nat → Int) (i : Nat) : sp_ct K z (i + 1) = sp_ct K z i + (if K i = 3 ∧ z i ≠ 2 then 1 else 0) := rfl
theorem sp_ct_le (K z : Nat → Int) (i : Nat) : sp_ct K z i ≤ i := by
  induction i with
  | zero => exact Nat.le_refl _
  | succ i ih => rw [sp_ct_s]; split <;> omega
theorem sp_ct_all {K z : Nat → Int} : ∀ n, sp_ct K z n = n → ∀ j, j < n → K j = 3 ∧ z j ≠ 2 := by
  intro n
  induction n with
  | zero => intro _ j hj; omega
  | succ i ih =>
    intro h j hj
    rw [sp_ct_s] at h
    have h1 := sp_ct_le K z i
    by_cases hc : K i = 3 ∧ z i ≠ 2
    · rw [if_pos hc] at h
      by_cases hji : j = i
      · rw [hji]; exact hc
      · exact ih (by omega) j (by omega)
    · rw [if_neg hc] at h; omega
theorem sp_ct_up {K z z2 : Nat → Int} {n : Nat} (h : ∀ j, j < n → z2 j = z j ∨ (K j = 3 ∧ z j = 2 ∧ z2 j ≠ 2)) (j : Nat) (hj : K j = 3 ∧ z j = 2 ∧ z2 j ≠ 2) : ∀ i, i ≤ n → sp_ct K z i ≤ sp_ct K z2 i ∧ (j < i → sp_ct K z i + 1 ≤ sp_ct K z2 i) := by
  intro i
  induction i with
  | zero => intro _; exact ⟨Nat.le_refl _, fun q => by omega⟩
  | succ i ih =>
    intro hi
    have h1 := ih (by omega)
    have h2 := h i (by omega)
    rw [sp_ct_s, sp_ct_s]
    by_cases hji : j = i
    · subst hji
      rw [if_neg (fun q => q.2 hj.2.1), if_pos ⟨hj.1, hj.2.2⟩]
      exact ⟨by omega, fun _ => by omega⟩
    · rcases h2 with e | ⟨g1, g2, g3⟩
      · rw [e]
        refine ⟨by omega, fun q => ?_⟩
        have := h1.2 (by omega)
        omega
      · rw [if_neg (fun q => q.2 g2), if_pos ⟨g1, g3⟩]
        exact ⟨by omega, fun q => by have := h1.2 (by omega); omega⟩
theorem sp_ct_cs {n : Nat} {K A z : Nat → Int} (h : sp_ct K z n = n) : sp_cs n K A z := fun j hj _ q => absurd q (sp_ct_all n h j hj).2
/-! definitions of a label -/
def sp_dn (K A : Nat → Int) (x : Int) : Nat → Int
  | 0 => 0
  | i + 1 => sp_dn K A x i + (if K i = 0 ∧ A i = x then 1 else 0)
theorem sp_dn_s (K A : Nat → Int) (x : Int) (i : Nat) : sp_dn K A x (i + 1) = sp_dn K A x i + (if K i = 0 ∧ A i = x then 1 else 0) := rfl
theorem sp_dn_b (K A : Nat → Int) (x : Int) (i : Nat) : 0 ≤ sp_dn K A x i ∧ sp_dn K A x i ≤ (i : Int) := by
  induction i with
  | zero => exact ⟨Int.le_refl _, Int.le_refl _⟩
  | succ i ih => rw [sp_dn_s]; split <;> omega
theorem sp_dn_1 {K A : Nat → Int} {x : Int} {k : Nat} (h0 : K k = 0) (hx : A k = x) : ∀ i, k < i → sp_dn K A x k + 1 ≤ sp_dn K A x i := by
  intro i
  induction i with
  | zero => intro h; omega
  | succ i ih =>
    intro h
    rw [sp_dn_s]
    by_cases hki : k = i
    · subst hki; rw [if_pos ⟨h0, hx⟩]; omega
    · have := ih (by omega)
      split <;> omega
theorem sp_dn_0 {K A : Nat → Int} {x : Int} : ∀ n, sp_dn K A x n = 0 → ∀ k, k < n → ¬ (K k = 0 ∧ A k = x) := by
  intro n h k hk hc
  have h1 := sp_dn_1 hc.1 hc.2 n hk
  have h2 := (sp_dn_b K A x k).1
  omega
theorem sp_dn_ex {K A : Nat → Int} {x : Int} : ∀ n, sp_dn K A x n ≠ 0 → ∃ k, k < n ∧ K k = 0 ∧ A k = x := by
  intro n
  induction n with
  | zero => intro h; exact absurd rfl h
  | succ i ih =>
    intro h
    rw [sp_dn_s] at h
    by_cases hc : K i = 0 ∧ A i = x
    · exact ⟨i, by omega, hc⟩
    · rw [if_neg hc] at h
      obtain ⟨k, h1, h2⟩ := ih (by omega)
      exact ⟨k, by omega, h2⟩
/-- a label is defined twice; a named one is not defined -/
def sp_tw (n : Nat) (K A : Nat → Int) : Prop := ∃ x : Nat, x < 16 ∧ 1 < sp_dn K A (x : Int) n
def sp_un (n : Nat) (K A : Nat → Int) : Prop := ∃ j : Nat, j < n ∧ (K j = 2 ∨ K j = 3) ∧ sp_dn K A (A j) n = 0
theorem sp_tw_uq {n : Nat} {K A B : Nat → Int} (hg : sp_gp K A B n) (h : ¬ sp_tw n K A) : sp_uq K A n := by
  have key : ∀ i j, i < j → j < n → K i = 0 → K j = 0 → A i = A j → False := by
    intro i j hij hj h1 h2 h3
    have g := hg i (by omega)
    unfold sp_gd at g
    refine h ⟨(A i).toNat, by omega, ?_⟩
    have e : (((A i).toNat : Nat) : Int) = A i := by omega
    rw [e]
    have d1 := sp_dn_1 (x := A i) h1 rfl j hij
    have d2 := sp_dn_1 (x := A i) h2 h3.symm n hj
    have d3 := (sp_dn_b K A (A i) i).1
    omega
  intro i j hi hj h1 h2 h3
  by_cases hlt : i < j
  · exact (key i j hlt hj h1 h2 h3).elim
  · by_cases hgt : j < i
    · exact (key j i hgt hi h2 h1 h3.symm).elim
    · omega
theorem sp_un_df {n : Nat} {K A : Nat → Int} (h : ¬ sp_un n K A) : sp_df n K A := by
  intro j hj hk
  have h1 : sp_dn K A (A j) n ≠ 0 := fun q => h ⟨j, hj, hk, q⟩
  exact sp_dn_ex n h1
/-! a line put in, a line taken out -/
def sp_in (K : Nat → Int) (at_ : Nat) (x : Int) (j : Nat) : Int := if j < at_ then K j else if j = at_ then x else K (j - 1)
def sp_rm (K : Nat → Int) (at_ : Nat) (j : Nat) : Int := if j < at_ then K j else K (j + 1)
theorem sp_gp_in {n at_ : Nat} {K A B : Nat → Int} {k a b : Int} (hg : sp_gp K A B n) (hl : sp_gd k a b) (ha : at_ ≤ n) : sp_gp (sp_in K at_ k) (sp_in A at_ a) (sp_in B at_ b) (n + 1) := by
  intro j hj
  unfold sp_in
  by_cases h1 : j < at_
  · rw [if_pos h1, if_pos h1, if_pos h1]; exact hg j (by omega)
  · rw [if_neg h1, if_neg h1, if_neg h1]
    by_cases h2 : j = at_
    · rw [if_pos h2, if_pos h2, if_pos h2]; exact hl
    · rw [if_neg h2, if_neg h2, if_neg h2]; exact hg (j - 1) (by omega)
theorem sp_gp_rm {n at_ : Nat} {K A B : Nat → Int} (hg : sp_gp K A B (n + 1)) : sp_gp (sp_rm K at_) (sp_rm A at_) (sp_rm B at_) n := by
  intro j hj
  unfold sp_rm
  by_cases h1 : j < at_
  · rw [if_pos h1, if_pos h1, if_pos h1]; exact hg j (by omega)
  · rw [if_neg h1, if_neg h1, if_neg h1]; exact hg (j + 1) (by omega)
/-! forms -/
def sp_fm (k z : Int) : Int := if k = 3 then (if z = 2 then 1 else 2) else 0
theorem sp_fm_or (k z : Int) : (k ≠ 3 ∧ sp_fm k z = 0) ∨ (k = 3 ∧ z = 2 ∧ sp_fm k z = 1) ∨ (k = 3 ∧ z ≠ 2 ∧ sp_fm k z = 2) := by
  unfold sp_fm
  split
  · split <;> omega
  · omega
def sp_lc (K z : Nat → Int) : Nat → Int
  | 0 => 0
  | i + 1 => sp_lc K z i + (if sp_fm (K i) (z i) = 2 then 1 else 0)
theorem sp_lc_s (K z : Nat → Int) (i : Nat) : sp_lc K z (i + 1) = sp_lc K z i + (if sp_fm (K i) (z i) = 2 then 1 else 0) := rfl
theorem sp_lc_b (K z : Nat → Int) (i : Nat) : 0 ≤ sp_lc K z i ∧ sp_lc K z i ≤ (i : Int) := by
  induction i with
  | zero => exact ⟨Int.le_refl _, Int.le_refl _⟩
  | succ i ih => rw [sp_lc_s]; split <;> omega
/-! what is wrong with a program, as the reference says it -/
def sp_wu (n : Nat) (K A : Nat → Int) : Nat → Int
  | 0 => 0
  | i + 1 => if 1 < K i ∧ sp_dn K A (A i) n = 0 then 2 else sp_wu n K A i
theorem sp_wu_s (n : Nat) (K A : Nat → Int) (i : Nat) : sp_wu n K A (i + 1) = if 1 < K i ∧ sp_dn K A (A i) n = 0 then 2 else sp_wu n K A i := rfl
theorem sp_wu_or (n : Nat) (K A : Nat → Int) (i : Nat) : (sp_wu n K A i = 2 ∧ ∃ j, j < i ∧ 1 < K j ∧ sp_dn K A (A j) n = 0) ∨ (sp_wu n K A i = 0 ∧ ∀ j, j < i → ¬ (1 < K j ∧ sp_dn K A (A j) n = 0)) := by
  induction i with
  | zero => right; exact ⟨rfl, fun j h => by omega⟩
  | succ i ih =>
    rw [sp_wu_s]
    by_cases hc : 1 < K i ∧ sp_dn K A (A i) n = 0
    · rw [if_pos hc]; left; exact ⟨rfl, i, by omega, hc⟩
    · rw [if_neg hc]
      rcases ih with ⟨h, j, h1, h2⟩ | ⟨h, h1⟩
      · left; exact ⟨h, j, by omega, h2⟩
      · right
        refine ⟨h, fun j hj => ?_⟩
        by_cases hji : j = i
        · rw [hji]; exact hc
        · exact h1 j (by omega)
def sp_wt (n : Nat) (K A : Nat → Int) (w0 : Int) : Nat → Int
  | 0 => w0
  | i + 1 => if 1 < sp_dn K A (i : Int) n then 1 else sp_wt n K A w0 i
theorem sp_wt_s (n : Nat) (K A : Nat → Int) (w0 : Int) (i : Nat) : sp_wt n K A w0 (i + 1) = if 1 < sp_dn K A (i : Int) n then 1 else sp_wt n K A w0 i := rfl
theorem sp_wt_or (n : Nat) (K A : Nat → Int) (w0 : Int) (i : Nat) : (sp_wt n K A w0 i = 1 ∧ ∃ x : Nat, x < i ∧ 1 < sp_dn K A (x : Int) n) ∨ (sp_wt n K A w0 i = w0 ∧ ∀ x : Nat, x < i → ¬ 1 < sp_dn K A (x : Int) n) := by
  induction i with
  | zero => right; exact ⟨rfl, fun j h => by omega⟩
  | succ i ih =>
    rw [sp_wt_s]
    by_cases hc : 1 < sp_dn K A (i : Int) n
    · rw [if_pos hc]; left; exact ⟨rfl, i, by omega, hc⟩
    · rw [if_neg hc]
      rcases ih with ⟨h, j, h1, h2⟩ | ⟨h, h1⟩
      · left; exact ⟨h, j, by omega, h2⟩
      · right
        refine ⟨h, fun j hj => ?_⟩
        by_cases hji : j = i
        · rw [hji]; exact hc
        · exact h1 j (by omega)
def sp_wr (n : Nat) (K A : Nat → Int) : Int := sp_wt n K A (sp_wu n K A n) 16
theorem sp_wr_or {n : Nat} {K A B : Nat → Int} (hg : sp_gp K A B n) : (sp_wr n K A = 1 ∧ sp_tw n K A) ∨ (sp_wr n K A = 2 ∧ ¬ sp_tw n K A ∧ sp_un n K A) ∨ (sp_wr n K A = 0 ∧ ¬ sp_tw n K A ∧ ¬ sp_un n K A) := by
  unfold sp_wr
  rcases sp_wt_or n K A (sp_wu n K A n) 16 with ⟨h, x, h1, h2⟩ | ⟨h, h1⟩
  · left; exact ⟨h, x, h1, h2⟩
  · right
    have ht : ¬ sp_tw n K A := fun ⟨x, q1, q2⟩ => h1 x q1 q2
    rcases sp_wu_or n K A n with ⟨g, j, g1, g2, g3⟩ | ⟨g, g1⟩
    · left
      refine ⟨by rw [h, g], ht, j, g1, ?_, g3⟩
      have := hg j g1
      unfold sp_gd at this
      omega
    · right
      exact ⟨by rw [h, g], ht, fun ⟨j, q1, q2, q3⟩ => g1 j q1 ⟨by omega, q3⟩⟩
end
section
/-! bits: masks, shifts, narrowings over ji_n -/
theorem jb_nat (x : Int) : (ji_n x).toBitVec.toNat = (x % 4294967296).toNat := by
  show (BitVec.ofInt 32 x).toNat = _
  rw [BitVec.toNat_ofInt]
  rfl
theorem jb_and255 (x : Int) : ji_n x &&& ji_n 255 = ji_n (x % 256) := by
  rw [pk_and (ji_n x) (m := ji_n 255) 8 (by decide), jb_nat, ji_nI]
  congr 1
  omega
theorem jb_shr8 {x : Int} (h : ji_r x) : ji_n x >>> (ji_n 8 &&& 31) = ji_n (x / 256) := by
  have e := pk_shr (ji_n x) (ji_n 8 &&& 31) 8 (by decide)
  rw [ji_toInt h, Int.shiftRight_eq_div_pow] at e
  have h2 : ji_r (x / 256) := by unfold ji_r at h ⊢; omega
  refine Int32.toInt_inj.mp ?_
  rw [ji_toInt h2, e]
  rfl
theorem jb_i2b {x : Int} (h : 0 ≤ x ∧ x ≤ 255) : (ji_n x).toInt8.toInt32 = ji_n (sp_sb x) := by
  have h1 : ji_r x := by unfold ji_r; omega
  have hs := sp_sb_or x
  have h2 : ji_r (sp_sb x) := by unfold ji_r; omega
  refine Int32.toInt_inj.mp ?_
  rw [ji_toInt h2, Int8.toInt_toInt32, Int32.toInt_toInt8, ji_toInt h1, Int.bmod_def]
  split <;> omega
def sp_sh (x : Int) : Int := if 32767 < x then x - 65536 else x
theorem sp_sh_or (x : Int) : (32767 < x ∧ sp_sh x = x - 65536) ∨ (x ≤ 32767 ∧ sp_sh x = x) := by
  unfold sp_sh
  split <;> omega
theorem jb_i2s {x : Int} (h : 0 ≤ x ∧ x ≤ 65535) : (ji_n x).toInt16.toInt32 = ji_n (sp_sh x) := by
  have h1 : ji_r x := by unfold ji_r; omega
  have hs := sp_sh_or x
  have h2 : ji_r (sp_sh x) := by unfold ji_r; omega
  refine Int32.toInt_inj.mp ?_
  rw [ji_toInt h2, Int16.toInt_toInt32, Int32.toInt_toInt16, ji_toInt h1, Int.bmod_def]
  split <;> omega
def sp_x4 (c : Int) : Int := if c < 4 then c + 4 else c - 4
theorem sp_x4_or (c : Int) : (c < 4 ∧ sp_x4 c = c + 4) ∨ (4 ≤ c ∧ sp_x4 c = c - 4) := by
  unfold sp_x4
  split <;> omega
theorem jb_xor4 {c : Int} (h : 0 ≤ c ∧ c ≤ 7) : ji_n c ^^^ ji_n 4 = ji_n (sp_x4 c) := by
  have : c = 0 ∨ c = 1 ∨ c = 2 ∨ c = 3 ∨ c = 4 ∨ c = 5 ∨ c = 6 ∨ c = 7 := by omega
  rcases this with rfl | rfl | rfl | rfl | rfl | rfl | rfl | rfl <;> decide
theorem sp_op_or {c : Int} : (c = 4 ∧ sp_op c = 44) ∨ (c ≠ 4 ∧ c < 4 ∧ sp_op c = 36 + c) ∨ (c ≠ 4 ∧ 4 ≤ c ∧ sp_op c = 28 + c) := by
  unfold sp_op
  split
  · omega
  · split <;> omega
theorem jb_rem32 (k : Nat) (h : k < 1000) : ji_n (k : Int) - ji_n (k : Int) / ji_n 32 * ji_n 32 = ji_n ((k % 32 : Nat) : Int) := by
  have := pk_rem (a := k) (d := 32) (by omega) (by omega) (by omega)
  exact this
def sp_bt (x : Int32) (j : Nat) : Int := ((x.toBitVec.toNat / 2 ^ j % 2 : Nat) : Int)
theorem sp_bt_or (x : Int32) (j : Nat) : sp_bt x j = 0 ∨ sp_bt x j = 1 := by unfold sp_bt; omega
theorem jb_sl : ∀ n, n < 32 → ((nI n &&& 31).toBitVec.smod 32).toNat = n := by decide
theorem jb_su : ∀ n, n < 32 → (((nI n).toUInt32 &&& Int32.toUInt32 31).toBitVec % 32).toNat = n := by decide
theorem jb_ubit (x : Int32) (j : Nat) (hj : j < 32) : (x.toUInt32 >>> ((ji_n (j : Int)).toUInt32 &&& Int32.toUInt32 31)).toInt32 &&& ji_n 1 = ji_n (sp_bt x j) := by
  rw [pk_and _ (m := ji_n 1) 1 (by decide), ← ji_nI, pk_ushr x (nI j) j (jb_su j hj), ji_nI]
  rfl
theorem jb_par (a : Nat) (j : Nat) (hj : j < 32) (ha : a < 4294967296) : ((a : Int) - 4294967296) / 2 ^ j % 2 = (a : Int) / 2 ^ j % 2 := by
  have e : (4294967296 : Int) = 2 * 2 ^ (31 - j) * 2 ^ j := by
    rw [Int.mul_assoc, ← Int.pow_add]
    have : 31 - j + j = 31 := by omega
    rw [this]; rfl
  have hp : (2 : Int) ^ j ≠ 0 := by
    have : (0 : Int) < 2 ^ j := Int.pow_pos (by decide)
    omega
  rw [e, Int.sub_eq_add_neg, ← Int.neg_mul, Int.add_mul_ediv_right _ _ hp]
  omega
theorem jb_sbit (x : Int32) (j : Nat) (hj : j < 32) : (x >>> (ji_n (j : Int) &&& 31)) &&& ji_n 1 = ji_n (sp_bt x j) := by
  rw [pk_and _ (m := ji_n 1) 1 (by decide), ji_nI]
  have e := pk_shr x (ji_n (j : Int) &&& 31) j (jb_sl j hj)
  rw [Int.shiftRight_eq_div_pow] at e
  congr 1
  unfold sp_bt
  generalize x >>> (ji_n (j : Int) &&& 31) = y at e ⊢
  have hy : y.toInt = y.toBitVec.toInt := rfl
  have hx : x.toInt = x.toBitVec.toInt := rfl
  rw [hy, hx, BitVec.toInt_eq_toNat_cond, BitVec.toInt_eq_toNat_cond] at e
  have l1 := y.toBitVec.isLt
  have l2 := x.toBitVec.isLt
  have p1 := jb_par x.toBitVec.toNat j hj (by omega)
  have c1 : ((2 ^ j : Nat) : Int) = (2 : Int) ^ j := by push_cast; rfl
  push_cast
  have c2 : (((2 : Nat) ^ 32 : Nat) : Int) = 4294967296 := rfl
  rw [c1, c2] at e
  split at e <;> split at e <;> omega
section JB
variable {p : Program} {l : Launch} {e : Env} {R : Room} {s : State} {m : MethodId} {args : Array Value} {below : List Frame} {meth : Method} {c : Code} {H : Heap} {locs : List Loc} {cells slots : Nat} {Q : State → Prop}
variable {cc : ByteArray} {pc : Nat} {ls : Array Slot} {rest : List Value}
theorem jn_and255 (hexec : p.tables.exec = Jvm.exec) (hb : c.code = cc) {x : Int} (hdg : decode cc pc = .ok (.iand, 1)) (k : W p l e R s m args below meth c H locs cells slots Q (F0 m (pc + 1) ls (.int (ji_n (x % 256)) :: rest))) : W p l e R s m args below meth c H locs cells slots Q (F0 m pc ls (.int (ji_n 255) :: .int (ji_n x) :: rest)) := lv_iand hexec hb hdg (by rw [jb_and255]; exact k)
theorem jn_shr8 (hexec : p.tables.exec = Jvm.exec) (hb : c.code = cc) {x : Int} (hdg : decode cc pc = .ok (.ishr, 1)) (hr : ji_r x) (k : W p l e R s m args below meth c H locs cells slots Q (F0 m (pc + 1) ls (.int (ji_n (x / 256)) :: rest))) : W p l e R s m args below meth c H locs cells slots Q (F0 m pc ls (.int (ji_n 8) :: .int (ji_n x) :: rest)) := lv_ishr hexec hb hdg (by rw [jb_shr8 hr]; exact k)
theorem jn_i2b (hexec : p.tables.exec = Jvm.exec) (hb : c.code = cc) {x : Int} (hdg : decode cc pc = .ok (.i2b, 1)) (hr : 0 ≤ x ∧ x ≤ 255) (k : W p l e R s m args below meth c H locs cells slots Q (F0 m (pc + 1) ls (.int (ji_n (sp_sb x)) :: rest))) : W p l e R s m args below meth c H locs cells slots Q (F0 m pc ls (.int (ji_n x) :: rest)) := lv_i2b hexec hb hdg (jb_i2b hr) k
theorem jn_i2s (hexec : p.tables.exec = Jvm.exec) (hb : c.code = cc) {x : Int} (hdg : decode cc pc = .ok (.i2s, 1)) (hr : 0 ≤ x ∧ x ≤ 65535) (k : W p l e R s m args below meth c H locs cells slots Q (F0 m (pc + 1) ls (.int (ji_n (sp_sh x)) :: rest))) : W p l e R s m args below meth c H locs cells slots Q (F0 m pc ls (.int (ji_n x) :: rest)) := lv_i2s hexec hb hdg (jb_i2s hr) k
theorem jn_xor4 (hexec : p.tables.exec = Jvm.exec) (hb : c.code = cc) {x : Int} (hdg : decode cc pc = .ok (.ixor, 1)) (hr : 0 ≤ x ∧ x ≤ 7) (k : W p l e R s m args below meth c H locs cells slots Q (F0 m (pc + 1) ls (.int (ji_n (sp_x4 x)) :: rest))) : W p l e R s m args below meth c H locs cells slots Q (F0 m pc ls (.int (ji_n 4) :: .int (ji_n x) :: rest)) := lv_ixor hexec hb hdg (by rw [jb_xor4 hr]; exact k)
theorem jn_rem32 (hexec : p.tables.exec = Jvm.exec) (hb : c.code = cc) {x : Nat} (hdg : decode cc pc = .ok (.irem, 1)) (hr : x < 1000) (k : W p l e R s m args below meth c H locs cells slots Q (F0 m (pc + 1) ls (.int (ji_n ((x % 32 : Nat) : Int)) :: rest))) : W p l e R s m args below meth c H locs cells slots Q (F0 m pc ls (.int (ji_n 32) :: .int (ji_n (x : Int)) :: rest)) := lv_irem hexec hb hdg (by decide) (by rw [jb_rem32 x hr]; exact k)
theorem jn_iushr (hexec : p.tables.exec = Jvm.exec) (hb : c.code = cc) {x : Int32} {j : Nat} (hdg : decode cc pc = .ok (.iushr, 1)) (k : W p l e R s m args below meth c H locs cells slots Q (F0 m (pc + 1) ls (.int (x.toUInt32 >>> ((ji_n (j : Int)).toUInt32 &&& Int32.toUInt32 31)).toInt32 :: rest))) : W p l e R s m args below meth c H locs cells slots Q (F0 m pc ls (.int (ji_n (j : Int)) :: .int x :: rest)) := lv_iushr hexec hb hdg rfl k
theorem jn_ubit (hexec : p.tables.exec = Jvm.exec) (hb : c.code = cc) {x : Int32} {j : Nat} (hj : j < 32) (hdg : decode cc pc = .ok (.iand, 1)) (k : W p l e R s m args below meth c H locs cells slots Q (F0 m (pc + 1) ls (.int (ji_n (sp_bt x j)) :: rest))) : W p l e R s m args below meth c H locs cells slots Q (F0 m pc ls (.int (ji_n 1) :: .int (x.toUInt32 >>> ((ji_n (j : Int)).toUInt32 &&& Int32.toUInt32 31)).toInt32 :: rest)) := lv_iand hexec hb hdg (by rw [jb_ubit x j hj]; exact k)
theorem jn_sbit (hexec : p.tables.exec = Jvm.exec) (hb : c.code = cc) {x : Int32} {j : Nat} (hj : j < 32) (hdg : decode cc pc = .ok (.iand, 1)) (k : W p l e R s m args below meth c H locs cells slots Q (F0 m (pc + 1) ls (.int (ji_n (sp_bt x j)) :: rest))) : W p l e R s m args below meth c H locs cells slots Q (F0 m pc ls (.int (ji_n 1) :: .int (x >>> (ji_n (j : Int) &&& 31)) :: rest)) := lv_iand hexec hb hdg (by rw [jb_sbit x j hj]; exact k)
end JB
/-! answers 0 or 1 -/
def sp_wi (x lo hi : Int) : Int := if lo ≤ x ∧ x ≤ hi then 1 else 0
theorem sp_wi_or (x lo hi : Int) : (lo ≤ x ∧ x ≤ hi ∧ sp_wi x lo hi = 1) ∨ (¬ (lo ≤ x ∧ x ≤ hi) ∧ sp_wi x lo hi = 0) := by
  unfold sp_wi
  split
  · left; omega
  · right; omega
theorem sp_wi_b (x lo hi : Int) : sp_wi x lo hi = 0 ∨ sp_wi x lo hi = 1 := by have := sp_wi_or x lo hi; omega
def sp_gl (k a b : Int) : Int := if (k = 0 ∧ 0 ≤ a ∧ a ≤ 15 ∧ b = 0) ∨ (k = 1 ∧ 1 ≤ a ∧ a ≤ 200 ∧ 0 ≤ b ∧ b ≤ 255) ∨ (k = 2 ∧ 0 ≤ a ∧ a ≤ 15 ∧ -1000 ≤ b ∧ b ≤ 1000) ∨ (k = 3 ∧ 0 ≤ a ∧ a ≤ 15 ∧ 0 ≤ b ∧ b ≤ 7) then 1 else 0
theorem sp_gl_or (k a b : Int) : (sp_gd k a b ∧ sp_gl k a b = 1) ∨ (¬ sp_gd k a b ∧ sp_gl k a b = 0) := by
  unfold sp_gd sp_gl
  split
  · left; exact ⟨by assumption, rfl⟩
  · right; exact ⟨by assumption, rfl⟩
theorem nb_b {z : Int} (h : z = 0 ∨ z = 1) : narrow .boolean (.int (ji_n z)) = .int (ji_n z) := by
  rcases h with rfl | rfl <;> rfl
end
section
/-! more of the pure side: forms of a byte that omega can use -/
def sp_pb (v o : Int) : Int := if o = 0 then sp_hi v else sp_lo v
theorem sp_pb_or (v o : Int) : (o = 0 ∧ sp_pb v o = v / 256 % 256) ∨ (o ≠ 0 ∧ sp_pb v o = v % 256) := by
  unfold sp_pb sp_hi sp_lo
  split <;> omega
theorem sp_lb_1 {n : Nat} {K A B z : Nat → Int} {j : Nat} {o : Int} (h : K j = 1) : sp_lb n K A B z j o = B j := by
  unfold sp_lb; rw [if_pos h]
theorem sp_lb_2 {n : Nat} {K A B z : Nat → Int} {j : Nat} {o : Int} (h : K j = 2) : sp_lb n K A B z j o = sp_pb (sp_la K A z n (A j) + B j) o := by
  unfold sp_lb sp_pb; rw [if_neg (by omega), if_pos h]
theorem sp_lb_or {n : Nat} {K A B z : Nat → Int} {j : Nat} (o : Int) (h : K j = 3) : (z j = 2 ∧ o = 0 ∧ sp_lb n K A B z j o = 32 + B j) ∨ (z j = 2 ∧ o ≠ 0 ∧ sp_lb n K A B z j o = sp_ds n K A z j % 256) ∨ (z j = 5 ∧ o = 0 ∧ sp_lb n K A B z j o = sp_op (B j)) ∨ (z j = 5 ∧ o < 2 ∧ o ≠ 0 ∧ sp_lb n K A B z j o = 3) ∨
    (z j ≠ 2 ∧ ¬ (z j = 5 ∧ o < 2) ∧ o = z j - 3 ∧ sp_lb n K A B z j o = 64) ∨ (z j ≠ 2 ∧ ¬ (z j = 5 ∧ o < 2) ∧ o = z j - 2 ∧ sp_lb n K A B z j o = sp_ds n K A z j / 256 % 256) ∨ (z j ≠ 2 ∧ ¬ (z j = 5 ∧ o < 2) ∧ o ≠ z j - 3 ∧ o ≠ z j - 2 ∧ sp_lb n K A B z j o = sp_ds n K A z j % 256) := by
  unfold sp_lb sp_hi sp_lo
  rw [if_neg (by omega), if_neg (by omega)]
  repeat' split
  all_goals omega
/-! what the arrays hold -/
def as_F (n : Nat) (K A B : Nat → Int) (g0 g1 g2 : Nat → Int32) : Prop := (∀ j, j < n → g0 j = ji_n (K j)) ∧ (∀ j, j < n → g1 j = ji_n (A j)) ∧ ∀ j, j < n → g2 j = ji_n (B j)
def as_S (n : Nat) (K A z : Nat → Int) (st fm vl : Nat → Int32) : Prop := (∀ j, j < n + 1 → st j = ji_n (sp_pz z j)) ∧ (∀ j, j < n → fm j = ji_n (sp_fm (K j) (z j))) ∧ ∀ x : Int, 0 ≤ x → x < 16 → vl x.toNat = ji_n (sp_la K A z n x)
/-! arrays that a shift or a copy leaves -/
theorem as_in {f : Nat → Int32} {K : Nat → Int} {n i : Nat} {x : Int} (h : ∀ j, j < n → f j = ji_n (K j)) (hi : i ≤ n) : ∀ j, j < n + 1 → upd (va_cpy f f i (i + 1) (n - i)) i (ji_n x) j = ji_n (sp_in K i x j) := by
  intro j hj
  unfold sp_in
  by_cases h1 : j < i
  · rw [if_pos h1, pk_un (by omega), pk_cpy_out (by omega)]; exact h j (by omega)
  · rw [if_neg h1]
    by_cases h2 : j = i
    · rw [if_pos h2, h2, pk_us]
    · rw [if_neg h2, pk_un h2, pk_cpy_in (by omega) (by omega), show i + (j - (i + 1)) = j - 1 by omega]
      exact h (j - 1) (by omega)
theorem as_rm {f : Nat → Int32} {K : Nat → Int} {n i : Nat} (h : ∀ j, j < n + 1 → f j = ji_n (K j)) (hi : i < n + 1) : ∀ j, j < n → va_cpy f f (i + 1) i (n - i) j = ji_n (sp_rm K i j) := by
  intro j hj
  unfold sp_rm
  by_cases h1 : j < i
  · rw [if_pos h1, pk_cpy_out (by omega)]; exact h j (by omega)
  · rw [if_neg h1, pk_cpy_in (by omega) (by omega), show i + 1 + (j - i) = j + 1 by omega]
    exact h (j + 1) (by omega)
theorem as_cp {f g : Nat → Int32} {K : Nat → Int} {n : Nat} (h : ∀ j, j < n → g j = ji_n (K j)) : ∀ j, j < n → va_cpy g f 0 0 n j = ji_n (K j) := by
  intro j hj
  rw [pk_cpy_in (by omega) (by omega), show 0 + (j - 0) = j by omega]
  exact h j hj
/-! a round of the class: the jumps that do not reach grow -/
def sp_nr (n : Nat) (K A z : Nat → Int) (j : Nat) : Prop := K j = 3 ∧ z j = 2 ∧ ¬ (-128 ≤ sp_ds n K A z j ∧ sp_ds n K A z j ≤ 127)
def sp_lz (n : Nat) (K A B z : Nat → Int) (j : Nat) : Int := if K j = 3 ∧ z j = 2 ∧ ¬ (-128 ≤ sp_ds n K A z j ∧ sp_ds n K A z j ≤ 127) then sp_lg (B j) else z j
theorem sp_lz_or (n : Nat) (K A B z : Nat → Int) (j : Nat) : (K j = 3 ∧ z j = 2 ∧ ¬ (-128 ≤ sp_ds n K A z j ∧ sp_ds n K A z j ≤ 127) ∧ sp_lz n K A B z j = sp_lg (B j)) ∨ (¬ (K j = 3 ∧ z j = 2 ∧ ¬ (-128 ≤ sp_ds n K A z j ∧ sp_ds n K A z j ≤ 127)) ∧ sp_lz n K A B z j = z j) := by
  unfold sp_lz
  split
  · left; rename_i h; exact ⟨h.1, h.2.1, h.2.2, rfl⟩
  · right; rename_i h; exact ⟨h, rfl⟩
def sp_cg (n : Nat) (K A z : Nat → Int) : Nat → Int
  | 0 => 0
  | i + 1 => if K i = 3 ∧ z i = 2 ∧ ¬ (-128 ≤ sp_ds n K A z i ∧ sp_ds n K A z i ≤ 127) then 1 else sp_cg n K A z i
theorem sp_cg_s (n : Nat) (K A z : Nat → Int) (i : Nat) : sp_cg n K A z (i + 1) = if K i = 3 ∧ z i = 2 ∧ ¬ (-128 ≤ sp_ds n K A z i ∧ sp_ds n K A z i ≤ 127) then 1 else sp_cg n K A z i := rfl
theorem sp_cg_or (n : Nat) (K A z : Nat → Int) (i : Nat) : (sp_cg n K A z i = 1 ∧ ∃ j, j < i ∧ K j = 3 ∧ z j = 2 ∧ ¬ (-128 ≤ sp_ds n K A z j ∧ sp_ds n K A z j ≤ 127)) ∨ (sp_cg n K A z i = 0 ∧ ∀ j, j < i → ¬ (K j = 3 ∧ z j = 2 ∧ ¬ (-128 ≤ sp_ds n K A z j ∧ sp_ds n K A z j ≤ 127))) := by
  induction i with
  | zero => right; exact ⟨rfl, fun j h => by omega⟩
  | succ i ih =>
    rw [sp_cg_s]
    by_cases hc : K i = 3 ∧ z i = 2 ∧ ¬ (-128 ≤ sp_ds n K A z i ∧ sp_ds n K A z i ≤ 127)
    · rw [if_pos hc]; left; exact ⟨rfl, i, by omega, hc⟩
    · rw [if_neg hc]
      rcases ih with ⟨h, j, h1, h2⟩ | ⟨h, h1⟩
      · left; exact ⟨h, j, by omega, h2⟩
      · right
        refine ⟨h, fun j hj => ?_⟩
        by_cases hji : j = i
        · rw [hji]; exact hc
        · exact h1 j (by omega)
theorem sp_lz_AS {n : Nat} {K A B z : Nat → Int} (h : sp_AS n K A B z) : sp_AS n K A B (sp_lz n K A B z) := by
  refine ⟨h.1, h.2.1, sp_ok_to h.2.2.1 (fun j hj => ?_), h.2.2.2⟩
  rcases sp_lz_or n K A B z j with ⟨h1, -, -, h2⟩ | ⟨-, h2⟩
  · right; exact ⟨h1, h2⟩
  · left; exact h2
theorem sp_lz_lw {n : Nat} {K A B z : Nat → Int} (h : sp_AS n K A B z) (hd : sp_df n K A) (hl : sp_lw n K A B z) : sp_lw n K A B (sp_lz n K A B z) := by
  refine sp_lw_to h.2.1 h.2.2.2 hd h.2.2.1 hl (fun j hj => ?_)
  rcases sp_lz_or n K A B z j with ⟨h1, h2, h3, h4⟩ | ⟨-, h2⟩
  · right; exact ⟨h1, h4, h3⟩
  · left; exact h2
theorem sp_lz_ct {n : Nat} {K A B z : Nat → Int} (h : sp_cg n K A z n = 1) : sp_ct K z n + 1 ≤ sp_ct K (sp_lz n K A B z) n := by
  rcases sp_cg_or n K A z n with ⟨-, j, h1, h2, h3, h4⟩ | ⟨h0, -⟩
  · refine (sp_ct_up (n := n) (fun i hi => ?_) j ?_ n (Nat.le_refl n)).2 h1
    · rcases sp_lz_or n K A B z i with ⟨q1, q2, q3, q4⟩ | ⟨-, q2⟩
      · right; refine ⟨q1, q2, ?_⟩; have := sp_lg_or (B i); omega
      · left; exact q2
    · refine ⟨h2, h3, ?_⟩
      have := sp_lg_or (B j)
      rcases sp_lz_or n K A B z j with ⟨q1, q2, q3, q4⟩ | ⟨q1, -⟩
      · omega
      · exact absurd ⟨h2, h3, h4⟩ q1
  · omega
theorem sp_cg_cs {n : Nat} {K A z : Nat → Int} (h : sp_cg n K A z n = 0) : sp_cs n K A z := by
  rcases sp_cg_or n K A z n with ⟨h0, -⟩ | ⟨-, h1⟩
  · omega
  · intro j hj h3 h2
    have := h1 j hj
    omega
/-! answers of the calls -/
def sp_ad (n : Nat) (z : Nat → Int) (x : Int) : Int := if 0 ≤ x ∧ x < (n : Int) then sp_pz z x.toNat else -1
def sp_fo (n : Nat) (K z : Nat → Int) (x : Int) : Int := if 0 ≤ x ∧ x < (n : Int) then sp_fm (K x.toNat) (z x.toNat) else -1
def sp_ju (x : Int) : Int := if 1 < x then 1 else 0
theorem sp_ju_or (x : Int) : (1 < x ∧ sp_ju x = 1) ∨ (x ≤ 1 ∧ sp_ju x = 0) := by unfold sp_ju; split <;> omega
def sp_ez (x : Int) : Int := if x = 0 then 1 else 0
theorem sp_ez_or (x : Int) : (x = 0 ∧ sp_ez x = 1) ∨ (x ≠ 0 ∧ sp_ez x = 0) := by unfold sp_ez; split <;> omega
def sp_fw (n : Nat) (K A B z : Nat → Int) (x t : Int) : Int := if sp_os n K A B z x = 0 then 0 else sp_nx n K A B z x t
def sp_tc (n : Nat) (K A B z : Nat → Int) (x : Int) (bits : Int32) (m : Int) : Int := if 0 ≤ m ∧ m ≤ 40 then sp_tr n K A B z (fun k => sp_bt bits (k % 32)) m.toNat 0 x else -1
theorem sp_tr_n {n : Nat} {K A B z : Nat → Int} {bit : Nat → Int} {r k : Nat} {h : Int} (h0 : sp_os n K A B z h ≠ 0) : sp_tr n K A B z bit (r + 1) k h = sp_tr n K A B z bit r (k + 1) (sp_nx n K A B z h (sp_fl (bit k) (sp_ai n K A B z h))) := by rw [sp_tr_s, if_neg h0]
theorem sp_la_out {n : Nat} {K A B z : Nat → Int} (hg : sp_gp K A B n) {x : Int} (h : ¬ (0 ≤ x ∧ x ≤ 15)) : sp_la K A z n x = -1 := by
  refine sp_la_no (fun k hk q => ?_)
  have := hg k hk
  unfold sp_gd at this
  omega
theorem as_hole {f : Nat → Int32} {K : Nat → Int} {n i : Nat} {x : Int} (h : ∀ j, j ≤ n → j ≠ i → f j = ji_n (sp_in K i 0 j)) : ∀ j, j < n + 1 → upd f i (ji_n x) j = ji_n (sp_in K i x j) := by
  intro j hj
  by_cases hji : j = i
  · rw [hji, pk_us]; unfold sp_in; rw [if_neg (by omega), if_pos rfl]
  · rw [pk_un hji, h j (by omega) hji]; unfold sp_in; rw [if_neg hji, if_neg hji]
theorem as_hole0 {f : Nat → Int32} {K : Nat → Int} {n : Nat} (h : ∀ j, j < n → f j = ji_n (K j)) : ∀ j, j ≤ n → j ≠ n → f j = ji_n (sp_in K n 0 j) := by
  intro j h1 h2
  unfold sp_in
  rw [if_pos (by omega)]; exact h j (by omega)
theorem as_holeS {f : Nat → Int32} {K : Nat → Int} {n i : Nat} {v : Int} (h : ∀ j, j ≤ n → j ≠ i + 1 → f j = ji_n (sp_in K (i + 1) 0 j)) (hv : v = K i) : ∀ j, j ≤ n → j ≠ i → upd f (i + 1) (ji_n v) j = ji_n (sp_in K i 0 j) := by
  intro j h1 h2
  by_cases hji : j = i + 1
  · rw [hji, pk_us, hv]; unfold sp_in; rw [if_neg (by omega), if_neg (by omega)]; rfl
  · rw [pk_un hji, h j h1 hji]
    unfold sp_in
    by_cases hlt : j < i
    · rw [if_pos hlt, if_pos (by omega)]
    · rw [if_neg hlt, if_neg (by omega), if_neg hji, if_neg h2]
theorem as_rmS {f : Nat → Int32} {K : Nat → Int} {n a i : Nat} {v : Int} (h : ∀ j, j < n → f j = ji_n (if a ≤ j ∧ j < i then K (j + 1) else K j)) (hai : a ≤ i) (hv : v = K (i + 1)) : ∀ j, j < n → upd f i (ji_n v) j = ji_n (if a ≤ j ∧ j < i + 1 then K (j + 1) else K j) := by
  intro j hj
  by_cases hji : j = i
  · rw [hji, pk_us, if_pos ⟨hai, by omega⟩, hv]
  · rw [pk_un hji, h j hj]
    by_cases hc : a ≤ j ∧ j < i
    · rw [if_pos hc, if_pos ⟨hc.1, by omega⟩]
    · rw [if_neg hc, if_neg (by omega)]
theorem as_rmE {f : Nat → Int32} {K : Nat → Int} {n a : Nat} (h : ∀ j, j < n + 1 → f j = ji_n (if a ≤ j ∧ j < n then K (j + 1) else K j)) : ∀ j, j < n → f j = ji_n (sp_rm K a j) := by
  intro j hj
  rw [h j (by omega)]
  unfold sp_rm
  by_cases hc : j < a
  · rw [if_neg (by omega), if_pos hc]
  · rw [if_pos ⟨by omega, hj⟩, if_neg hc]
/-! the reference in a round -/
def sp_up (z : Nat → Int) (i : Nat) (v : Int) (j : Nat) : Int := if j = i then v else z j
theorem sp_up_or (z : Nat → Int) (i : Nat) (v : Int) (j : Nat) : (j = i ∧ sp_up z i v j = v) ∨ (j ≠ i ∧ sp_up z i v j = z j) := by
  unfold sp_up
  split
  · left; exact ⟨by assumption, rfl⟩
  · right; exact ⟨by assumption, rfl⟩
def sp_rd (n : Nat) (K A B z : Nat → Int) (r i : Nat) (mo : Int) : Prop := sp_AS n K A B z ∧ sp_lw n K A B z ∧ ((mo = 1 ∧ r + 1 ≤ sp_ct K z n) ∨ (mo = 0 ∧ r ≤ sp_ct K z n ∧ ∀ j, j < i → ¬ (K j = 3 ∧ z j = 2 ∧ ¬ (-128 ≤ sp_ds n K A z j ∧ sp_ds n K A z j ≤ 127))))
theorem sp_rd_k {n : Nat} {K A B z : Nat → Int} {r i : Nat} {mo : Int} (h : sp_rd n K A B z r i mo) (hi : ¬ (K i = 3 ∧ z i = 2 ∧ ¬ (-128 ≤ sp_ds n K A z i ∧ sp_ds n K A z i ≤ 127))) : sp_rd n K A B z r (i + 1) mo := by
  refine ⟨h.1, h.2.1, ?_⟩
  rcases h.2.2 with h1 | ⟨h1, h2, h3⟩
  · exact Or.inl h1
  · right
    refine ⟨h1, h2, fun j hj => ?_⟩
    by_cases hji : j = i
    · rw [hji]; exact hi
    · exact h3 j (by omega)
theorem sp_rd_u {n : Nat} {K A B z : Nat → Int} {r i : Nat} {mo : Int} (hd : sp_df n K A) (h : sp_rd n K A B z r i mo) (hin : i < n) (hi : K i = 3 ∧ z i = 2 ∧ ¬ (-128 ≤ sp_ds n K A z i ∧ sp_ds n K A z i ≤ 127)) : sp_rd n K A B (sp_up z i (sp_lg (B i))) r (i + 1) 1 := by
  have hl := sp_lg_or (B i)
  refine ⟨⟨h.1.1, h.1.2.1, sp_ok_to h.1.2.2.1 (fun j hj => ?_), h.1.2.2.2⟩, sp_lw_to h.1.2.1 h.1.2.2.2 hd h.1.2.2.1 h.2.1 (fun j hj => ?_), Or.inl ⟨rfl, ?_⟩⟩
  · rcases sp_up_or z i (sp_lg (B i)) j with ⟨q, e⟩ | ⟨q, e⟩
    · right; rw [q] at e ⊢; exact ⟨hi.1, e⟩
    · left; exact e
  · rcases sp_up_or z i (sp_lg (B i)) j with ⟨q, e⟩ | ⟨q, e⟩
    · right; rw [q] at e ⊢; exact ⟨hi.1, e, hi.2.2⟩
    · left; exact e
  · have hc : sp_ct K z n + 1 ≤ sp_ct K (sp_up z i (sp_lg (B i))) n := by
      refine (sp_ct_up (n := n) (fun j hj => ?_) i ?_ n (Nat.le_refl n)).2 hin
      · rcases sp_up_or z i (sp_lg (B i)) j with ⟨q, e⟩ | ⟨q, e⟩
        · right; rw [q] at e ⊢; exact ⟨hi.1, hi.2.1, by omega⟩
        · left; exact e
      · rcases sp_up_or z i (sp_lg (B i)) i with ⟨q, e⟩ | ⟨q, e⟩
        · exact ⟨hi.1, hi.2.1, by omega⟩
        · exact absurd rfl q
    rcases h.2.2 with h1 | ⟨h1, h2, h3⟩ <;> omega
theorem sp_rd_e {n : Nat} {K A B z : Nat → Int} {r : Nat} {mo : Int} (h : sp_rd n K A B z r n mo) : sp_AS n K A B z ∧ sp_lw n K A B z ∧ ((mo = 1 ∧ r + 1 ≤ sp_ct K z n) ∨ (mo = 0 ∧ sp_cs n K A z)) := by
  refine ⟨h.1, h.2.1, ?_⟩
  rcases h.2.2 with h1 | ⟨h1, h2, h3⟩
  · exact Or.inl h1
  · right
    refine ⟨h1, fun j hj q1 q2 => ?_⟩
    have := h3 j hj
    omega
end
section
/-! beginnings, ends and calls, made short: R and Q are names, the end is a hypothesis -/
theorem lp_up {I : Nat → Prop} (n : Nat) (h : ∀ i, i ≤ n → (i < n → I (i + 1)) → I i) : ∀ i, i ≤ n → I i := by
  have key : ∀ r i, i + r = n → I i := by
    intro r
    induction r with
    | zero => intro i hi; exact h i (by omega) (fun q => by omega)
    | succ r ih => intro i hi; exact h i (by omega) (fun _ => ih (i + 1) (by omega))
  intro i hi
  exact key (n - i) i (by omega)
theorem lp_dn {I : Nat → Prop} (h : ∀ i, (∀ j, i = j + 1 → I j) → I i) : ∀ i, I i := by
  intro i
  induction i with
  | zero => exact h 0 (fun j q => by omega)
  | succ i ih => exact h (i + 1) (fun j q => by have : j = i := (by omega); rw [this]; exact ih)
theorem va_D_ad {A : Nat → Prop} {w1 w2 : va_W} (h : va_D A w1) (e : w2.map (fun q => q.1) = w1.map (fun q => q.1)) : va_D A w2 := by
  have key : ∀ (k : Nat) (q : Nat × va_E), w2[k]? = some q → ∃ q', w1[k]? = some q' ∧ q'.1 = q.1 := by
    intro k q hk
    have h1 : (w2.map (fun q => q.1))[k]? = some q.1 := by rw [List.getElem?_map, hk]; rfl
    rw [e, List.getElem?_map] at h1
    cases hw : w1[k]? with
    | none => rw [hw] at h1; cases h1
    | some q' => rw [hw] at h1; exact ⟨q', rfl, Option.some.inj h1⟩
  refine ⟨fun i j x y hi hj hxy => ?_, fun k q hk => ?_⟩
  · obtain ⟨a, h1, h2⟩ := key i x hi
    obtain ⟨b, h3, h4⟩ := key j y hj
    exact h.1 i j a b h1 h3 (by rw [h2, h4]; exact hxy)
  · obtain ⟨a, h1, h2⟩ := key k q hk
    rw [← h2]; exact h.2 k a h1
section ST
variable {l : Launch} {y : MethodName} {ws ws' : List Cond} {rm : Room} {cc : ByteArray} {maxL : Nat} {ret : Option FieldType} {av : List Value} {lv : List (Nat × Value)}
theorem st_rd {B : State → Prop} {post : Int32 → Prop} {ty : FieldType} (hy : plainName y.cls = true) (hw : ws = Cond.code y cc maxL ret :: ws') (hret : ret = some ty) (hlen : (lg_sl av).length ≤ maxL) (hlv : lv_args 0 av = lv) (hn : ∀ v, post v → narrow ty (.int v) = .int v)
    (body : ∀ (p : Program) (e : Env) (s : State) (m : MethodId) (args : Array Value) (below : List Frame) (meth : Method) (c : Code) (R : Room) (Q : State → Prop) (ls : Array Slot), p.tables.exec = Jvm.exec → c.code = cc → (∀ w ∈ ws, w.before args s = true) → s.vm.findClass y.cls = some m.cls → c.maxLocals = maxL → R = rm → B s → lv_has ls maxL lv →
      (∀ (pc : Nat) (ls : Array Slot) (v : Int32), decode cc pc = .ok (.ireturn, 1) → post v → W p l e R s m args below meth c s.heap [] 0 0 Q (F0 m pc ls [.int v])) → W p l e R s m args below meth c s.heap [] 0 0 Q (F0 m 0 ls [])) :
    Met l y ws rm (va_Pc av B) (vp_Si post) 0 0 (fun _ => False) := by
  refine Met.ofW hy hw ?_
  intro p e s m args below meth c s₁ Bd hml hv
  obtain ⟨rfl, hB⟩ := hv
  rw [lg_entry_eq]
  refine body p e s m _ below meth c _ _ _ Bd.exec Bd.bytes (atoms_spec Bd.pre) (findClass_of_methodNamed Bd.named) hml rfl hB (hlv ▸ lv_entry av hlen) ?_
  intro pc ls v hdg hp
  exact W.zret Bd.exec Bd.bytes (Bd.returns.trans hret) (hn v hp) (fun t ht hW => ⟨v, rfl, hp, ht⟩) (fun q h => by cases h) hdg Bd.notSynchronized
/-- what a writing method that makes nothing answers: r, and P r of the heap; the rest stays -/
abbrev wr_Qi (P : Int32 → Heap → Prop) (A : Nat → Prop) : Array Value → State → Outcome → State → Prop := va_Qi (S := Int32) (fun r u => u = r) (fun u t => P u t.heap) A
abbrev wr_Qv (P : Heap → Prop) (A : Nat → Prop) : Array Value → State → Outcome → State → Prop := va_Qv (S := Unit) (fun _ => True) (fun _ t => P t.heap) A
/-- a writing method's start -/
abbrev wr_B (D : va_G) (cl : List vw_C) (W0 : va_W) (sz : Nat) (B : State → Prop) : State → Prop := fun U => U.heap.size = sz ∧ va_P D cl W0 U.heap ∧ va_D (fun _ => True) W0 ∧ B U
variable {D : va_G} {cl : List vw_C} {W0 : va_W} {sz : Nat}
theorem st_wi {B : State → Prop} {P : Int32 → Heap → Prop} {ty : FieldType} (hy : plainName y.cls = true) (hw : ws = Cond.code y cc maxL ret :: ws') (hret : ret = some ty) (hlen : (lg_sl av).length ≤ maxL) (hlv : lv_args 0 av = lv) (hn : ∀ v H, P v H → narrow ty (.int v) = .int v)
    (body : ∀ (p : Program) (e : Env) (s : State) (m : MethodId) (args : Array Value) (below : List Frame) (meth : Method) (c : Code) (R : Room) (Q : State → Prop) (ls : Array Slot) (A : Nat → Prop), p.tables.exec = Jvm.exec → c.code = cc → (∀ w ∈ ws, w.before args s = true) → s.vm.findClass y.cls = some m.cls → c.maxLocals = maxL → R = rm → va_P D cl W0 s.heap → va_D A W0 → (∀ q : Nat, s.heap.size ≤ q → A q) → va_S A s.heap s.heap [] → B s → lv_has ls maxL lv →
      (∀ (pc : Nat) (ls : Array Slot) (v : Int32) (H : Heap) (locs : List Loc), decode cc pc = .ok (.ireturn, 1) → P v H → va_S A s.heap H locs → W p l e R s m args below meth c H locs 0 0 Q (F0 m pc ls [.int v])) → W p l e R s m args below meth c s.heap [] 0 0 Q (F0 m 0 ls [])) :
    Met l y ws rm (va_Pc av (wr_B D cl W0 sz B)) (wr_Qi P (va_A W0 sz)) 0 0 (va_A W0 sz) := by
  refine Met.ofW hy hw ?_
  intro p e s m args below meth c s₁ Bd hml hv
  obtain ⟨rfl, rfl, hP, hD, hB⟩ := hv
  rw [lg_entry_eq]
  refine body p e s m _ below meth c _ _ _ (va_A W0 s.heap.size) Bd.exec Bd.bytes (atoms_spec Bd.pre) (findClass_of_methodNamed Bd.named) hml rfl hP hD.self (fun q h => Or.inr h) va_S.rf hB (hlv ▸ lv_entry av hlen) ?_
  intro pc ls v H locs hdg hp hS
  exact W.zret Bd.exec Bd.bytes (Bd.returns.trans hret) (hn v H hp) (fun t ht hW => ⟨⟨v, v, rfl, rfl, by subst ht; exact hp⟩, hS.F ht⟩) hS.2.2 hdg Bd.notSynchronized
theorem st_wv {B : State → Prop} {P : Heap → Prop} (hy : plainName y.cls = true) (hw : ws = Cond.code y cc maxL none :: ws') (hlen : (lg_sl av).length ≤ maxL) (hlv : lv_args 0 av = lv)
    (body : ∀ (p : Program) (e : Env) (s : State) (m : MethodId) (args : Array Value) (below : List Frame) (meth : Method) (c : Code) (R : Room) (Q : State → Prop) (ls : Array Slot) (A : Nat → Prop), p.tables.exec = Jvm.exec → c.code = cc → (∀ w ∈ ws, w.before args s = true) → s.vm.findClass y.cls = some m.cls → c.maxLocals = maxL → R = rm → va_P D cl W0 s.heap → va_D A W0 → (∀ q : Nat, s.heap.size ≤ q → A q) → va_S A s.heap s.heap [] → B s → lv_has ls maxL lv →
      (∀ (pc : Nat) (ls : Array Slot) (H : Heap) (locs : List Loc), decode cc pc = .ok (.return_, 1) → P H → va_S A s.heap H locs → W p l e R s m args below meth c H locs 0 0 Q (F0 m pc ls [])) → W p l e R s m args below meth c s.heap [] 0 0 Q (F0 m 0 ls [])) :
    Met l y ws rm (va_Pc av (wr_B D cl W0 sz B)) (wr_Qv P (va_A W0 sz)) 0 0 (va_A W0 sz) := by
  refine Met.ofW hy hw ?_
  intro p e s m args below meth c s₁ Bd hml hv
  obtain ⟨rfl, rfl, hP, hD, hB⟩ := hv
  rw [lg_entry_eq]
  refine body p e s m _ below meth c _ _ _ (va_A W0 s.heap.size) Bd.exec Bd.bytes (atoms_spec Bd.pre) (findClass_of_methodNamed Bd.named) hml rfl hP hD.self (fun q h => Or.inr h) va_S.rf hB (hlv ▸ lv_entry av hlen) ?_
  intro pc ls H locs hdg hp hS
  exact W.vret Bd.exec Bd.bytes Bd.returns (fun t ht hW => ⟨⟨(), rfl, trivial, by subst ht; exact hp⟩, hS.F ht⟩) hS.2.2 hdg Bd.notSynchronized
/-- a constructor, or any void method that makes cells -/
theorem st_cv {B : State → Prop} {P : (Nat → Prop) → Heap → Prop} {mc ms : Nat} (hy : plainName y.cls = true) (hw : ws = Cond.code y cc maxL none :: ws') (hlen : (lg_sl av).length ≤ maxL) (hlv : lv_args 0 av = lv)
    (body : ∀ (p : Program) (e : Env) (s : State) (m : MethodId) (args : Array Value) (below : List Frame) (meth : Method) (c : Code) (R : Room) (Q : State → Prop) (ls : Array Slot) (A : Nat → Prop), p.tables.exec = Jvm.exec → c.code = cc → (∀ w ∈ ws, w.before args s = true) → s.vm.findClass y.cls = some m.cls → c.maxLocals = maxL → R = rm → meth.name = y.name → va_P D cl W0 s.heap → va_D A W0 → (∀ q : Nat, s.heap.size ≤ q → A q) → va_S A s.heap s.heap [] → B s → lv_has ls maxL lv →
      (∀ (pc : Nat) (ls : Array Slot) (H : Heap) (locs : List Loc), decode cc pc = .ok (.return_, 1) → P A H → va_S A s.heap H locs → W p l e R s m args below meth c H locs mc ms Q (F0 m pc ls [])) → W p l e R s m args below meth c s.heap [] 0 0 Q (F0 m 0 ls [])) :
    Met l y ws rm (va_Pc av (wr_B D cl W0 sz B)) (va_Qv (S := Unit) (fun _ => True) (fun _ t => P (va_A W0 sz) t.heap) (va_A W0 sz)) mc ms (va_A W0 sz) := by
  refine Met.ofW hy hw ?_
  intro p e s m args below meth c s₁ Bd hml hv
  obtain ⟨rfl, rfl, hP, hD, hB⟩ := hv
  rw [lg_entry_eq]
  refine body p e s m _ below meth c _ _ _ (va_A W0 s.heap.size) Bd.exec Bd.bytes (atoms_spec Bd.pre) (findClass_of_methodNamed Bd.named) hml rfl (name_of_methodNamed Bd.named Bd.method).1 hP hD.self (fun q h => Or.inr h) va_S.rf hB (hlv ▸ lv_entry av hlen) ?_
  intro pc ls H locs hdg hp hS
  exact W.vret Bd.exec Bd.bytes Bd.returns (fun t ht hW => ⟨⟨(), rfl, trivial, by subst ht; exact hp⟩, hS.F ht⟩) hS.2.2 hdg Bd.notSynchronized
end ST
theorem kc_eq {D : va_G} {cl : List vw_C} {cI cA : ClassId} {s : State} (hK : va_K D cl [(cI, .int), (cA, .int)] s) : cA = cI := by
  have h1 : s.vm.findClass ("[" ++ (FieldType.int).toString) = some cI := (hK.2 0 _ rfl).2
  have h2 : s.vm.findClass ("[" ++ (FieldType.int).toString) = some cA := (hK.2 1 _ rfl).2
  exact Option.some.inj (h2.symm.trans h1)
section SC
variable {p : Program} {l : Launch} {e : Env} {R : Room} {s : State} {m : MethodId} {args : Array Value} {below : List Frame} {meth : Method} {c : Code} {H : Heap} {locs : List Loc} {cells slots : Nat} {Q : State → Prop}
variable {pc : Nat} {ls : Array Slot} {rest st0 : List Value} {a : Array Value} {A0 : Nat → Prop} {H0 : Heap} {D : va_G} {cl : List vw_C} {wsw wc wr : va_W}
theorem cl_rd {z : Int} (hr : va_Run p l e R s m args below meth c H locs cells slots 0 0 (F0 m pc ls st0) rest (vp_Si (fun r => r = ji_n z) a) (fun _ => False))
    (kk : W p l e R s m args below meth c H locs cells slots Q (F0 m (pc + 3) ls (.int (ji_n z) :: rest))) : W p l e R s m args below meth c H locs cells slots Q (F0 m pc ls st0) := vp_callSi hr.run (fun r h => by rw [h]; exact kk)
theorem cl_rp {post : Int32 → Prop} (hr : va_Run p l e R s m args below meth c H locs cells slots 0 0 (F0 m pc ls st0) rest (vp_Si post a) (fun _ => False))
    (kk : ∀ r, post r → W p l e R s m args below meth c H locs cells slots Q (F0 m (pc + 3) ls (.int r :: rest))) : W p l e R s m args below meth c H locs cells slots Q (F0 m pc ls st0) := vp_callSi hr.run kk
/-- a writing callee, its cells at the places isC, the others at isR -/
theorem cl_wi {P : Int32 → Heap → Prop} (isC isR : List Nat) (hC : isC.map (fun i => wsw[i]?) = wc.map some) (hR : isR.map (fun i => wsw[i]?) = wr.map some) (hnC : va_nd isC = true) (hn : va_nd isR = true) (hdis : ∀ i ∈ isR, i ∉ isC) (hP : va_P D cl wsw H) (hD : va_D A0 wsw) (hS : va_S A0 H0 H locs) (hA : ∀ q, H0.size ≤ q → A0 q)
    (hr : va_Run p l e R s m args below meth c H locs cells slots 0 0 (F0 m pc ls st0) rest (wr_Qi P (va_A wc H.size) a) (va_A wc H.size))
    (kk : ∀ (r : Int32) (H1 : Heap) (locs1 : List Loc), P r H1 → (∀ w1 : va_W, w1.map (fun q => q.1) = wc.map (fun q => q.1) → va_P D cl w1 H1 → va_P D cl (wr ++ w1) H1 ∧ va_D A0 (wr ++ w1)) → va_S A0 H0 H1 locs1 → W p l e R s m args below meth c H1 locs1 cells slots Q (F0 m (pc + 3) ls (.int r :: rest))) : W p l e R s m args below meth c H locs cells slots Q (F0 m pc ls st0) := by
  have hF := va_free (wc := wc) hD hS hA isC hC
  have hDc : va_D (va_A wc H.size) wc := (hD.sub isC hnC hC).self
  refine va_calli hr hS (fun q _ h => hF q h) hF (fun r u t H1 locs1 ht hvm hp hB hz hk hS1 => ?_)
  cases hp
  rw [ht] at hB
  exact kk r H1 locs1 hB (fun w1 e1 hP1 => va_join hP hD isC isR hC hR hn hdis hk hF hP1 (va_D_ad hDc e1)) hS1
theorem cl_wv {P : Heap → Prop} (isC isR : List Nat) (hC : isC.map (fun i => wsw[i]?) = wc.map some) (hR : isR.map (fun i => wsw[i]?) = wr.map some) (hnC : va_nd isC = true) (hn : va_nd isR = true) (hdis : ∀ i ∈ isR, i ∉ isC) (hP : va_P D cl wsw H) (hD : va_D A0 wsw) (hS : va_S A0 H0 H locs) (hA : ∀ q, H0.size ≤ q → A0 q)
    (hr : va_Run p l e R s m args below meth c H locs cells slots 0 0 (F0 m pc ls st0) rest (wr_Qv P (va_A wc H.size) a) (va_A wc H.size))
    (kk : ∀ (H1 : Heap) (locs1 : List Loc), P H1 → (∀ w1 : va_W, w1.map (fun q => q.1) = wc.map (fun q => q.1) → va_P D cl w1 H1 → va_P D cl (wr ++ w1) H1 ∧ va_D A0 (wr ++ w1)) → va_S A0 H0 H1 locs1 → W p l e R s m args below meth c H1 locs1 cells slots Q (F0 m (pc + 3) ls rest)) : W p l e R s m args below meth c H locs cells slots Q (F0 m pc ls st0) := by
  have hF := va_free (wc := wc) hD hS hA isC hC
  have hDc : va_D (va_A wc H.size) wc := (hD.sub isC hnC hC).self
  refine va_callv hr hS (fun q _ h => hF q h) hF (fun u t H1 locs1 ht hvm hp hB hz hk hS1 => ?_)
  rw [ht] at hB
  exact kk H1 locs1 hB (fun w1 e1 hP1 => va_join hP hD isC isR hC hR hn hdis hk hF hP1 (va_D_ad hDc e1)) hS1
end SC
end
section
section JC
variable {p : Program} {l : Launch} {e : Env} {R : Room} {s : State} {m : MethodId} {args : Array Value} {below : List Frame} {meth : Method} {c : Code} {H : Heap} {locs : List Loc} {cells slots : Nat} {Q : State → Prop}
variable {cc : ByteArray} {pc : Nat} {ls : Array Slot} {rest : List Value} {D : va_G} {cl : List vw_C} {A : Nat → Prop} {a : Nat} {tys : List (ClassId × FieldType)} {ws : va_W} {H0 : Heap}
theorem jn_copy (hexec : p.tables.exec = Jvm.exec) (hb : c.code = cc) (hml : c.maxLocals = ls.size) {own : String} {index : Nat} (hown : s.vm.findClass own = some m.cls) (hlink : (Cond.methodLink own index arraycopyName).before args s = true) (hnat : (Cond.native arraycopyName).before args s = true) (hstat : (Cond.static arraycopyName).before args s = true) (hini : (Cond.initialized "java/lang/System").before args s = true)
    (hK : va_K D cl tys s) (hP : va_P D cl ws H) (hD : va_D A ws) (hS : va_S A H0 H locs) (q0 q1 t0 : Nat) {a0 : Nat} {c0 : ClassId} {n0 n1 : Nat} {f g : Nat → Int32} (ha0 : ws[q0]? = some (a0, .inl (c0, n0, .inl f))) (ha1 : ws[q1]? = some (a, .inl (c0, n1, .inl g))) (ht0 : tys[t0]? = some (c0, .int))
    (x y k : Nat) {zx zy zk : Int} (hx9 : zx = (x : Int)) (hy9 : zy = (y : Int)) (hk9 : zk = (k : Int)) (h4 : x + k ≤ n0) (h5 : y + k ≤ n1) (h6 : n0 < 2147483648) (h7 : n1 < 2147483648)
    (hframes : 1 ≤ R.frames) (hlocals : (rest.map fun v => v.category).sum + (nativeFrameWords "java/lang/System" "arraycopy" 5 + 11) ≤ R.locals) (hdg : decode cc pc = .ok (.invokestatic index, 3))
    (kk : ∀ (H1 : Heap) (locs1 : List Loc), va_P D cl (ws.set q1 (a, .inl (c0, n1, .inl (va_cpy f g x y k)))) H1 → va_D A (ws.set q1 (a, .inl (c0, n1, .inl (va_cpy f g x y k)))) → va_S A H0 H1 locs1 → W p l e R s m args below meth c H1 locs1 cells slots Q (F0 m (pc + 3) ls rest)) : W p l e R s m args below meth c H locs cells slots Q (F0 m pc ls (.int (ji_n zk) :: .int (ji_n zy) :: .ref a :: .int (ji_n zx) :: .ref a0 :: rest)) := by
  subst hx9; subst hy9; subst hk9
  have e1 : (ji_n (x : Int)).toNatClampNeg = x := ji_clamp (by omega)
  have e2 : (ji_n (y : Int)).toNatClampNeg = y := ji_clamp (by omega)
  have e3 : (ji_n (k : Int)).toNatClampNeg = k := ji_clamp (by omega)
  refine va_copyi hexec hb hml hown hlink hnat hstat hini hK hP hD hS q0 q1 t0 t0 ha0 ha1 ht0 ht0 rfl (by rw [← ji_nI]; exact nI_pos (by omega)) (by rw [← ji_nI]; exact nI_pos (by omega)) (by rw [← ji_nI]; exact nI_pos (by omega)) (by rw [e1, e3]; exact h4) (by rw [e2, e3]; exact h5) (fun _ _ => rfl) hframes hlocals hdg (fun H1 locs1 h1 h2 h3 => ?_)
  rw [e1, e2, e3] at h1 h2
  exact kk H1 locs1 h1 h2 h3
end JC
end
section
-- ===== PART A: goes FIRST, ahead of the names: the tables' words, and 'selects' of the private methods out of them =====
/-- a private method of a class that the tables say can be made, by its rows of tables_1 -/
def lw_okq (q : MethodName × Nat) : Prop := (q.1.cls ≠ "java/lang/invoke/MethodHandle" ∧ q.1.cls ≠ "java/lang/invoke/VarHandle") ∧ Cond.instantiable q.1.cls q.2 ∈ tables_1 ∧ Cond.privateMethod q.1 ∈ tables_1 ∧ Cond.instanceMethod q.1 ∈ tables_1
theorem lw_p0 : lw_okq (⟨"SpanDesk$Program", "shift", "(III)V"⟩, 4) := ⟨⟨by decide +kernel, by decide +kernel⟩, List.mem_of_getElem? (i := 22) (by decide +kernel), List.mem_of_getElem? (i := 99) (by decide +kernel), List.mem_of_getElem? (i := 100) (by decide +kernel)⟩
theorem lw_p1 : lw_okq (⟨"SpanDesk$Assembly", "lineByte", "(II)I"⟩, 4) := ⟨⟨by decide +kernel, by decide +kernel⟩, List.mem_of_getElem? (i := 47) (by decide +kernel), List.mem_of_getElem? (i := 130) (by decide +kernel), List.mem_of_getElem? (i := 131) (by decide +kernel)⟩
theorem lw_p2 : lw_okq (⟨"SpanDesk$Assembly", "longByte", "(II)I"⟩, 4) := ⟨⟨by decide +kernel, by decide +kernel⟩, List.mem_of_getElem? (i := 47) (by decide +kernel), List.mem_of_getElem? (i := 137) (by decide +kernel), List.mem_of_getElem? (i := 138) (by decide +kernel)⟩
theorem lw_p3 : lw_okq (⟨"SpanDesk$Assembly", "lineSize", "(I)I"⟩, 4) := ⟨⟨by decide +kernel, by decide +kernel⟩, List.mem_of_getElem? (i := 47) (by decide +kernel), List.mem_of_getElem? (i := 141) (by decide +kernel), List.mem_of_getElem? (i := 142) (by decide +kernel)⟩
theorem lw_p4 : lw_okq (⟨"SpanDesk$Assembly", "distance", "(I)I"⟩, 4) := ⟨⟨by decide +kernel, by decide +kernel⟩, List.mem_of_getElem? (i := 47) (by decide +kernel), List.mem_of_getElem? (i := 148) (by decide +kernel), List.mem_of_getElem? (i := 149) (by decide +kernel)⟩
theorem lw_p5 : lw_okq (⟨"SpanDesk$Assembly", "shortByte", "(II)I"⟩, 4) := ⟨⟨by decide +kernel, by decide +kernel⟩, List.mem_of_getElem? (i := 47) (by decide +kernel), List.mem_of_getElem? (i := 152) (by decide +kernel), List.mem_of_getElem? (i := 153) (by decide +kernel)⟩
theorem lw_p6 : lw_okq (⟨"SpanDesk$Program", "countDefined", "(I)I"⟩, 4) := ⟨⟨by decide +kernel, by decide +kernel⟩, List.mem_of_getElem? (i := 22) (by decide +kernel), List.mem_of_getElem? (i := 216) (by decide +kernel), List.mem_of_getElem? (i := 217) (by decide +kernel)⟩
theorem lw_p7 : lw_okq (⟨"java/lang/Throwable", "fillInStackTrace", "(I)Ljava/lang/Throwable;"⟩, 6) := ⟨⟨by decide +kernel, by decide +kernel⟩, List.mem_of_getElem? (i := 258) (by decide +kernel), List.mem_of_getElem? (i := 256) (by decide +kernel), List.mem_of_getElem? (i := 257) (by decide +kernel)⟩
theorem lw_p8 : lw_okq (⟨"SpanDesk$Assembly", "makeAllShort", "()V"⟩, 4) := ⟨⟨by decide +kernel, by decide +kernel⟩, List.mem_of_getElem? (i := 47) (by decide +kernel), List.mem_of_getElem? (i := 316) (by decide +kernel), List.mem_of_getElem? (i := 317) (by decide +kernel)⟩
theorem lw_p9 : lw_okq (⟨"SpanDesk$Assembly", "place", "()V"⟩, 4) := ⟨⟨by decide +kernel, by decide +kernel⟩, List.mem_of_getElem? (i := 47) (by decide +kernel), List.mem_of_getElem? (i := 320) (by decide +kernel), List.mem_of_getElem? (i := 321) (by decide +kernel)⟩
theorem lw_p10 : lw_okq (⟨"SpanDesk$Assembly", "lengthen", "()Z"⟩, 4) := ⟨⟨by decide +kernel, by decide +kernel⟩, List.mem_of_getElem? (i := 47) (by decide +kernel), List.mem_of_getElem? (i := 324) (by decide +kernel), List.mem_of_getElem? (i := 325) (by decide +kernel)⟩
theorem lw_p11 : lw_okq (⟨"SpanDeskModel", "wrong", "()I"⟩, 11) := ⟨⟨by decide +kernel, by decide +kernel⟩, List.mem_of_getElem? (i := 353) (by decide +kernel), List.mem_of_getElem? (i := 419) (by decide +kernel), List.mem_of_getElem? (i := 420) (by decide +kernel)⟩
theorem lw_p12 : lw_okq (⟨"SpanDeskModel", "definitions", "(I)I"⟩, 11) := ⟨⟨by decide +kernel, by decide +kernel⟩, List.mem_of_getElem? (i := 353) (by decide +kernel), List.mem_of_getElem? (i := 423) (by decide +kernel), List.mem_of_getElem? (i := 424) (by decide +kernel)⟩
theorem lw_p13 : lw_okq (⟨"SpanDeskModel", "span", "(I)I"⟩, 11) := ⟨⟨by decide +kernel, by decide +kernel⟩, List.mem_of_getElem? (i := 353) (by decide +kernel), List.mem_of_getElem? (i := 427) (by decide +kernel), List.mem_of_getElem? (i := 428) (by decide +kernel)⟩
theorem lw_p14 : lw_okq (⟨"SpanDeskModel", "labelled", "(I)I"⟩, 11) := ⟨⟨by decide +kernel, by decide +kernel⟩, List.mem_of_getElem? (i := 353) (by decide +kernel), List.mem_of_getElem? (i := 431) (by decide +kernel), List.mem_of_getElem? (i := 432) (by decide +kernel)⟩
theorem lw_p15 : lw_okq (⟨"SpanDeskModel", "place", "(I)I"⟩, 11) := ⟨⟨by decide +kernel, by decide +kernel⟩, List.mem_of_getElem? (i := 353) (by decide +kernel), List.mem_of_getElem? (i := 435) (by decide +kernel), List.mem_of_getElem? (i := 436) (by decide +kernel)⟩
def lw_privs_1 : List (MethodName × Nat) := [(⟨"SpanDesk$Program", "shift", "(III)V"⟩, 4), (⟨"SpanDesk$Assembly", "lineByte", "(II)I"⟩, 4), (⟨"SpanDesk$Assembly", "longByte", "(II)I"⟩, 4), (⟨"SpanDesk$Assembly", "lineSize", "(I)I"⟩, 4), (⟨"SpanDesk$Assembly", "distance", "(I)I"⟩, 4), (⟨"SpanDesk$Assembly", "shortByte", "(II)I"⟩, 4), (⟨"SpanDesk$Program", "countDefined", "(I)I"⟩, 4), (⟨"java/lang/Throwable", "fillInStackTrace", "(I)Ljava/lang/Throwable;"⟩, 6), (⟨"SpanDesk$Assembly", "makeAllShort", "()V"⟩, 4), (⟨"SpanDesk$Assembly", "place", "()V"⟩, 4), (⟨"SpanDesk$Assembly", "lengthen", "()Z"⟩, 4), (⟨"SpanDeskModel", "wrong", "()I"⟩, 11), (⟨"SpanDeskModel", "definitions", "(I)I"⟩, 11), (⟨"SpanDeskModel", "span", "(I)I"⟩, 11), (⟨"SpanDeskModel", "labelled", "(I)I"⟩, 11), (⟨"SpanDeskModel", "place", "(I)I"⟩, 11)]
theorem lw_r1 : ∀ q ∈ lw_privs_1, lw_okq q := List.forall_mem_cons.mpr ⟨lw_p0, List.forall_mem_cons.mpr ⟨lw_p1, List.forall_mem_cons.mpr ⟨lw_p2, List.forall_mem_cons.mpr ⟨lw_p3, List.forall_mem_cons.mpr ⟨lw_p4, List.forall_mem_cons.mpr ⟨lw_p5, List.forall_mem_cons.mpr ⟨lw_p6, List.forall_mem_cons.mpr ⟨lw_p7, List.forall_mem_cons.mpr ⟨lw_p8, List.forall_mem_cons.mpr ⟨lw_p9, List.forall_mem_cons.mpr ⟨lw_p10, List.forall_mem_cons.mpr ⟨lw_p11, List.forall_mem_cons.mpr ⟨lw_p12, List.forall_mem_cons.mpr ⟨lw_p13, List.forall_mem_cons.mpr ⟨lw_p14, List.forall_mem_cons.mpr ⟨lw_p15, fun _ h => absurd h List.not_mem_nil⟩⟩⟩⟩⟩⟩⟩⟩⟩⟩⟩⟩⟩⟩⟩⟩
theorem lw_p16 : lw_okq (⟨"SpanDeskModel", "byteAt", "(I)I"⟩, 11) := ⟨⟨by decide +kernel, by decide +kernel⟩, List.mem_of_getElem? (i := 353) (by decide +kernel), List.mem_of_getElem? (i := 443) (by decide +kernel), List.mem_of_getElem? (i := 444) (by decide +kernel)⟩
theorem lw_p17 : lw_okq (⟨"SpanDeskModel", "jumpByte", "(II)I"⟩, 11) := ⟨⟨by decide +kernel, by decide +kernel⟩, List.mem_of_getElem? (i := 353) (by decide +kernel), List.mem_of_getElem? (i := 447) (by decide +kernel), List.mem_of_getElem? (i := 448) (by decide +kernel)⟩
theorem lw_p18 : lw_okq (⟨"SpanDeskModel", "length", "(I)I"⟩, 11) := ⟨⟨by decide +kernel, by decide +kernel⟩, List.mem_of_getElem? (i := 353) (by decide +kernel), List.mem_of_getElem? (i := 471) (by decide +kernel), List.mem_of_getElem? (i := 472) (by decide +kernel)⟩
theorem lw_p19 : lw_okq (⟨"SpanDeskModel", "next", "(IZ)I"⟩, 11) := ⟨⟨by decide +kernel, by decide +kernel⟩, List.mem_of_getElem? (i := 353) (by decide +kernel), List.mem_of_getElem? (i := 475) (by decide +kernel), List.mem_of_getElem? (i := 476) (by decide +kernel)⟩
def lw_privs_2 : List (MethodName × Nat) := [(⟨"SpanDeskModel", "byteAt", "(I)I"⟩, 11), (⟨"SpanDeskModel", "jumpByte", "(II)I"⟩, 11), (⟨"SpanDeskModel", "length", "(I)I"⟩, 11), (⟨"SpanDeskModel", "next", "(IZ)I"⟩, 11)]
theorem lw_r2 : ∀ q ∈ lw_privs_2, lw_okq q := List.forall_mem_cons.mpr ⟨lw_p16, List.forall_mem_cons.mpr ⟨lw_p17, List.forall_mem_cons.mpr ⟨lw_p18, List.forall_mem_cons.mpr ⟨lw_p19, fun _ h => absurd h List.not_mem_nil⟩⟩⟩⟩
def lw_privs : List (MethodName × Nat) := lw_privs_1 ++ (lw_privs_2)
def lw_tbl : List Cond := k2_sels lw_privs ++ tables_1
theorem lw_privs_ok : ∀ q ∈ lw_privs, lw_okq q := by
  show ∀ q ∈ lw_privs_1 ++ (lw_privs_2), lw_okq q
  exact List.forall_mem_append.mpr ⟨lw_r1, lw_r2⟩
end
section
/-! ===== BEGIN words of one list among another's, by their places ===== -/
theorem goodIn_r {big : List Cond} (ws : List Cond) (ps : List Nat) (hp : ws = ps.filterMap (fun i => big[i]?)) (h : ws.all goodWord = true) : GoodIn big ws := by
  intro w hw
  have h1 := List.all_eq_true.mp h w hw
  rw [hp] at hw
  obtain ⟨i, -, hi⟩ := List.mem_filterMap.mp hw
  have hm : w ∈ big := by first | exact List.mem_of_getElem? hi | exact List.getElem?_mem hi
  exact ⟨hm, good_of_word h1⟩
theorem goodIn_app {big a b : List Cond} (ha : GoodIn big a) (hb : GoodIn big b) : GoodIn big (a ++ b) := fun w h => (List.mem_append.mp h).elim (ha w) (hb w)
theorem goodIn_ca {big a b : List Cond} {c : Cond} (ha : GoodIn big (c :: a)) (hb : GoodIn big b) : GoodIn big (c :: (a ++ b)) := fun w h => (List.mem_cons.mp h).elim (fun e => ha w (List.mem_cons.mpr (Or.inl e))) (fun h => (List.mem_append.mp h).elim (fun h => ha w (List.mem_cons.mpr (Or.inr h))) (hb w))
theorem goodIn_sub {big ws : List Cond} (hm : ∀ w ∈ ws, w ∈ big) (h : ws.all goodWord = true) : GoodIn big ws := fun w hw => ⟨hm w hw, good_of_word (List.all_eq_true.mp h w hw)⟩
/-! ===== END ===== -/

/-! ===== BEGIN exceptions that leave a method, and their catching by the caller (launches without stack traces) ===== -/
section VXA
/-! The laws vx_back, vx_callV, vx_callS, vx_callSW, vx_throw0, vx_throwS follow proofs of the library, with one case more: JvmDerived/Free/Laws.lean (Back.of_free), Shelf42/LK1.lean (callV, callS), Shelf/KitTraced.lean (throwNew0V, throwNewS). -/
/-- where a method has thrown q: the class by its name, the cell, what was written, the world -/
def vx_T (XC : String → State → State → Prop) (st : State) (q : Addr) (t : State) (mc ms : Nat) (free : Addr → Prop) : Prop :=
  ∃ (E : String) (ce : Cell) (L : List Loc), XC E st t ∧ t.heap[q]? = some ce ∧ ce.vm = .none ∧ st.vm.findClass E = some ce.cls ∧ st.WarmedH t.vm ∧ st.sameButNew ({ t with vm := st.vm } : State) L mc ms ∧ ∀ z ∈ L, free z.base
def vx_Q (Qc : Array Value → State → Outcome → State → Prop) (XC : String → State → State → Prop) (mc ms : Nat) (free : Addr → Prop) : Array Value → State → Outcome → State → Prop := fun a st o t =>
  (Qc a st o t ∧ ∃ L, FrameEnd st o t L mc ms ∧ ∀ q ∈ L, free q.base) ∨ ∃ q, o = .threw q ∧ vx_T XC st q t mc ms free
/-- a callee that returns or throws -/
def vx_Met (l : Launch) (y : MethodName) (ws : List Cond) (rm : Room) (Pc : Array Value → State → Prop) (Qc : Array Value → State → Outcome → State → Prop) (XC : String → State → State → Prop) (mc ms : Nat) (free : Addr → Prop) : Prop :=
  MetFree l y (headSpec ws rm) Pc (fun _ _ _ _ _ => True) (vx_Q Qc XC mc ms free)
def vx_Post (XC : String → State → State → Prop) (mc ms : Nat) (free : Addr → Prop) : Pt → Array Value → Addr → Pt → Prop := fun A a q B =>
  ∃ (g : JFrame) (mk : MethodId) (t : State) (L : List Loc) (E : String) (ce : Cell), B.U.heap = t.heap ∧ B.U.vm = t.vm ∧ XC E (A.U.calling g mk a) t ∧ t.heap[q]? = some ce ∧ ce.vm = .none ∧ A.U.vm.findClass E = some ce.cls ∧ B.locs = A.locs ++ L ∧ (∀ z ∈ L, free z.base) ∧ B.cells = A.cells + mc ∧ B.slots = A.slots + ms
def vx_Back (l : Launch) (R : Room) (p : Program) (e : Env) (below : List Frame) (s : State) (sargs : Array Value) (y : MethodName) (len W9 : Nat)
    (Pre : Pt → Array Value → Prop) (Post : Pt → Array Value → Option Value → Pt → Prop) (PostX : Pt → Array Value → Addr → Pt → Prop) : Prop :=
  ∀ (m : MethodId) (meth : Method) (c : Code) (A : Pt) (g : JFrame) (ig : Instr) (mk : MethodId) (a : Array Value),
    Stand p l e R s m sargs below meth c A.U A.locs A.cells A.slots → g.method = m → g.locals.size = c.maxLocals → decode c.code g.pc = .ok (ig, len) →
    2 * g.monitorRoom + (g.stack.map fun v => v.category).sum ≤ W9 → A.U.methodNamed? y = some mk → Pre A a →
    (∃ (v : Option Value) (B : Pt), Stand p l e R s m sargs below meth c B.U B.locs B.cells B.slots ∧ Post A a v B ∧
      Steps p.tables e below (doInvoke e (A.U.setTop g) [] mk a).1 (B.U.setTop { g with pc := g.pc + len, stack := v.toList ++ g.stack })) ∨
    (∃ (q : Addr) (B : Pt), Stand p l e R s m sargs below meth c B.U B.locs B.cells B.slots ∧ PostX A a q B ∧
      Steps p.tables e below (doInvoke e (A.U.setTop g) [] mk a).1 ((B.U.setTop g).pushFrame (.throwing q)))
section Payer
variable {l : Launch} {R : Room} {p : Program} {e : Env} {below : List Frame} {s : State} {sargs : Array Value} {y : MethodName} {len W9 : Nat}
theorem vx_back {ws : List Cond} {rm : Room} {Pc : Array Value → State → Prop} {Qc : Array Value → State → Outcome → State → Prop} {XC : String → State → State → Prop} {mc ms : Nat} {free : Addr → Prop} {bytes : ByteArray} {maxL : Nat} {ret : Option FieldType}
    (hM : vx_Met l y ws rm Pc Qc XC mc ms free) (hblind : FrameBlind Pc) (hrc : rm.cells = mc) (hrs : rm.slots = ms)
    (hframes : rm.frames + 1 ≤ R.frames) (hlocals : W9 + (maxL + 11) + rm.locals ≤ R.locals)
    (hws : ∀ w ∈ ws, ∀ a' U, s.WarmedH U.vm → w.before a' U = true) (hcode : Cond.code y bytes maxL ret ∈ ws) (hinit : ∀ a' U, s.WarmedH U.vm → (Cond.initialized y.cls).before a' U = true) :
    vx_Back l R p e below s sargs y len W9 (PreOf R mc ms Pc) (PostOf Qc mc ms free) (vx_Post XC mc ms free) := by
  intro m meth c A g ig mk a X hg hsize hdg hW hn hp
  have h1 : (headSpec ws rm).pre.before a A.U = true := atoms_intro fun w hw => hws w hw _ _ X.warmed
  have h2 : (Cond.code y bytes maxL ret).before a A.U = true := hws _ hcode _ _ X.warmed
  have h3 : (Cond.initialized y.cls).before a A.U = true := hinit _ _ X.warmed
  have h4 : A.cells + (headSpec ws rm).room.cells ≤ R.cells := by rw [show (headSpec ws rm).room.cells = mc from hrc]; exact hp.1
  have h5 : A.slots + (headSpec ws rm).room.slots ≤ R.slots := by rw [show (headSpec ws rm).room.slots = ms from hrs]; exact hp.2.1
  have hPc : Pc a (A.U.calling g mk a) := hblind _ _ _ _ hp.2.2
  obtain ⟨U, Ls, c0, s0⟩ := A
  dsimp only [Pt.U, Pt.locs, Pt.cells, Pt.slots] at h1 h2 h3 h4 h5 X hn hPc ⊢
  obtain ⟨methY, cY, hmY, hcY, -, hlY, -, -, -, -⟩ := Cond.code_spec hn h2
  obtain ⟨kY, hkY, -⟩ := className_of_methodNamed hn
  have hinitY : kY.init = .initialized := Cond.initialized_spec (findClass_of_methodNamed hn) hkY h3
  have h : At U g.method c below := by rw [hg]; exact X.here
  have hlocals9 : W9 + (maxL + 11) + (headSpec ws rm).room.locals ≤ R.locals := hlocals
  have happ : (headSpec ws rm).appliesLoose y e.platform (U.calling g mk a) = true :=
    Spec.appliesLoose_calling (g := g) h hdg hn hkY hinitY
      (X.room_calling (g := g) (R' := (headSpec ws rm).room) hsize hmY hcY hframes (by rw [hlY]; omega) h4 h5) h1
  obtain ⟨mid, hmid⟩ := h.above
  have hfr : (U.setTop g).frames = (.java g :: mid) ++ below := by rw [State.frames_setTop' g h.top, hmid]; rfl
  obtain ⟨o, s₂, hsteps, -, hend, hq⟩ := Steps.callFree hM p X.admits X.cas X.clock (acts := []) hfr happ hPc trivial
  have hq' : vx_Q Qc XC mc ms free a (U.calling g mk a) o s₂ := hq
  rw [State.frames_setTop' g h.top] at hend
  obtain ⟨g₀, hg0⟩ := Option.isSome_iff_exists.mp h.top
  obtain ⟨r, hr⟩ := State.topJava?_eq_some.mp hg0
  have hr' : (({ U with heap := s₂.heap, slotsUsed := s₂.slotsUsed } : State).setVm s₂.vm).frames = .java g₀ :: r := hr
  rcases hq' with ⟨hqc, L, hfe, hL⟩ | ⟨q, rfl, E, ce, L, hx, hce, hcv, hcl, hW₂, hsm, hL⟩
  · obtain ⟨⟨v, rfl⟩, hW₂, e2, q2, q3, q4, q5, q6⟩ := id hfe
    have e3 : s₂ = ({ (U.calling g mk a).setFrames s₂.frames with heap := s₂.heap, slotsUsed := s₂.slotsUsed } : State).setVm s₂.vm := by
      have : s₂ = ({ s₂ with vm := (U.calling g mk a).vm } : State).setVm s₂.vm := rfl
      rw [e2] at this
      exact this
    obtain ⟨c₂, i₂, len₂, hc₂, hd₂, hf₂⟩ := hend
    have hW' : U.WarmedH s₂.vm := hW₂
    have hcc : c₂ = c := by
      have h1 : s₂.code? g.method = U.code? g.method := by
        rw [State.code?_eq, State.code?_eq, hW'.alike.method?]
      exact Option.some.inj (hc₂.symm.trans (h1.trans h.code))
    subst hcc
    have hlen : len₂ = len := by rw [hdg] at hd₂; cases hd₂; rfl
    subst hlen
    have hs₂ : s₂ = (({ U with heap := s₂.heap, slotsUsed := s₂.slotsUsed } : State).setVm s₂.vm).setTop { g with pc := g.pc + len₂, stack := v.toList ++ g.stack } := by
      refine e3.trans ?_
      rw [hf₂, State.calling_eq h.top, State.setFrames_setFrames, State.setTop_of_frames _ hr', hr]
      rfl
    have hsame : U.sameButNew ({ U with heap := s₂.heap, slotsUsed := s₂.slotsUsed } : State) L mc ms := by
      refine ⟨?_, q2, q3, q4, q5, q6⟩
      obtain ⟨t, ht, -⟩ := State.frames_cons hr
      show ({ U with heap := s₂.heap, slotsUsed := s₂.slotsUsed } : State) = { U.setFrames U.frames with heap := s₂.heap, slotsUsed := s₂.slotsUsed }
      rw [State.setFrames_self ht]
    subst hg
    refine Or.inl ⟨v, ⟨(({ U with heap := s₂.heap, slotsUsed := s₂.slotsUsed } : State).setVm s₂.vm), Ls ++ L, c0 + mc, s0 + ms⟩,
      ⟨X.admits, X.cas, X.clock, X.frames, X.room, X.hears, X.method, X.code, (X.here.setHeapUsed s₂.heap s₂.slotsUsed).setVm hW'.alike, X.tail, State.WarmedH.trans X.warmed hW', X.limits, X.bytes, X.same.trans (hsame.setVm s.vm)⟩,
      ⟨g, mk, s₂, L, rfl, rfl, hqc, rfl, hL, rfl, rfl⟩, ?_⟩
    show Steps p.tables e below _ ((({ U with heap := s₂.heap, slotsUsed := s₂.slotsUsed } : State).setVm s₂.vm).setTop { g with pc := g.pc + len₂, stack := v.toList ++ g.stack })
    rw [← hs₂]
    exact hsteps
  · obtain ⟨e2, q2, q3, q4, q5, q6⟩ := id hsm
    have e3 : s₂ = ({ (U.calling g mk a).setFrames s₂.frames with heap := s₂.heap, slotsUsed := s₂.slotsUsed } : State).setVm s₂.vm := by
      have : s₂ = ({ s₂ with vm := (U.calling g mk a).vm } : State).setVm s₂.vm := rfl
      rw [e2] at this
      exact this
    have hf₂ : s₂.frames = .throwing q :: .java g :: U.frames.tail := hend
    have hW' : U.WarmedH s₂.vm := hW₂
    have hs₂ : s₂ = ((({ U with heap := s₂.heap, slotsUsed := s₂.slotsUsed } : State).setVm s₂.vm).setTop g).pushFrame (.throwing q) := by
      refine e3.trans ?_
      rw [hf₂, State.calling_eq h.top, State.setFrames_setFrames, State.pushFrame, State.frames_setTop _ hr', State.setTop_of_frames _ hr', State.setFrames_setFrames, hr]
      rfl
    have hsame : U.sameButNew ({ U with heap := s₂.heap, slotsUsed := s₂.slotsUsed } : State) L mc ms := by
      refine ⟨?_, q2, q3, q4, q5, q6⟩
      obtain ⟨t, ht, -⟩ := State.frames_cons hr
      show ({ U with heap := s₂.heap, slotsUsed := s₂.slotsUsed } : State) = { U.setFrames U.frames with heap := s₂.heap, slotsUsed := s₂.slotsUsed }
      rw [State.setFrames_self ht]
    subst hg
    refine Or.inr ⟨q, ⟨(({ U with heap := s₂.heap, slotsUsed := s₂.slotsUsed } : State).setVm s₂.vm), Ls ++ L, c0 + mc, s0 + ms⟩,
      ⟨X.admits, X.cas, X.clock, X.frames, X.room, X.hears, X.method, X.code, (X.here.setHeapUsed s₂.heap s₂.slotsUsed).setVm hW'.alike, X.tail, State.WarmedH.trans X.warmed hW', X.limits, X.bytes, X.same.trans (hsame.setVm s.vm)⟩,
      ⟨g, mk, s₂, L, E, ce, rfl, rfl, hx, hce, hcv, hcl, rfl, hL, rfl, rfl⟩, ?_⟩
    show Steps p.tables e below _ (((({ U with heap := s₂.heap, slotsUsed := s₂.slotsUsed } : State).setVm s₂.vm).setTop g).pushFrame (.throwing q))
    rw [← hs₂]
    exact hsteps
end Payer
section Calls
variable {p : Program} {l : Launch} {e : Env} {R : Room} {s : State} {m : MethodId} {args : Array Value} {below : List Frame} {meth : Method} {c : Code} {T : State} {locs : List Loc} {cells slots : Nat}
theorem vx_callV (X : Stand p l e R s m args below meth c T locs cells slots) (hexec : p.tables.exec = Jvm.exec) {own C : String} {index : Nat} {y : MethodName} {bytes : ByteArray} {maxL : Nat} {ret : Option FieldType}
    (hown : s.vm.findClass own = some m.cls) (hlink : (Cond.methodLink own index y).before args s = true) (hinst : (Cond.instanceMethod y).before args s = true) (hsel : (Cond.selects C y y).before args s = true)
    (hcode : (Cond.code y bytes maxL ret).before args s = true) (hy : y.cls ≠ "java/lang/invoke/MethodHandle" ∧ y.cls ≠ "java/lang/invoke/VarHandle")
    {W9 : Nat} {Pre : Pt → Array Value → Prop} {Post : Pt → Array Value → Option Value → Pt → Prop} {PostX : Pt → Array Value → Addr → Pt → Prop} (hK : vx_Back l R p e below s args y 3 W9 Pre Post PostX)
    {b : Addr} {cellB : Cell} (hcell : T.heap[b]? = some cellB) (hobj : cellB.vm.isStatics = false) (hcls : s.vm.findClass C = some cellB.cls)
    {g : JFrame} (hg : g.method = m) (hsize : g.locals.size = c.maxLocals) {argsL rest : List Value} (hlen : ∀ sig, parseMethodDescriptor y.desc = some sig → argsL.length = sig.parameters.length)
    (hstack : g.stack = argsL.reverse ++ .ref b :: rest) (hW : 2 * g.monitorRoom + (rest.map fun v => v.category).sum ≤ W9) (hdg : decode c.code g.pc = .ok (.invokevirtual index, 3))
    (hpre : ∀ vm₁, s.WarmedH vm₁ → Pre ⟨T.setVm vm₁, locs, cells, slots⟩ (Value.ref b :: argsL).toArray) :
    (∃ (v : Option Value) (vm₁ : Vm) (B : Pt), s.WarmedH vm₁ ∧ Stand p l e R s m args below meth c B.U B.locs B.cells B.slots ∧ Post ⟨T.setVm vm₁, locs, cells, slots⟩ (Value.ref b :: argsL).toArray v B ∧
      ∀ target, Steps p.tables e below (B.U.setTop { g with pc := g.pc + 3, stack := v.toList ++ rest }) target → Steps p.tables e below (T.setTop g) target) ∨
    (∃ (q : Addr) (vm₁ : Vm) (B : Pt), s.WarmedH vm₁ ∧ Stand p l e R s m args below meth c B.U B.locs B.cells B.slots ∧ PostX ⟨T.setVm vm₁, locs, cells, slots⟩ (Value.ref b :: argsL).toArray q B ∧
      Steps p.tables e below (T.setTop g) ((B.U.setTop { g with stack := rest }).pushFrame (.throwing q))) := by
  obtain ⟨mk, methM, hnamed, hmethM, hstM, habM⟩ := Cond.instanceMethod_spec hinst
  obtain ⟨methM', cM, hmethM', -, -, -, -, -, -, hsigM⟩ := Cond.code_spec hnamed hcode
  cases hmethM.symm.trans hmethM'
  obtain ⟨c2, r2, m2, q1, q2, q3, q4, kP, hkP, hkPi⟩ := Cond.selects_spec hsel
  cases hcls.symm.trans q1
  cases (State.methodFound?_of_named hnamed hy).symm.trans q2
  cases hnamed.symm.trans q3
  have hselP : selectMethod e.platform s.vm cellB.cls mk = .method mk := by rw [Launch.admits_selectMethod X.admits]; exact q4
  obtain ⟨vm₁, X₁, hstep₁⟩ := X.invokevirtual hexec hown hlink hnamed hmethM hstM hkP hkPi hy (a := b) (cell := cellB) hcell
    (fun z h => by rw [h] at hobj; cases hobj) hselP hmethM habM hkP hkPi (g := g) hg (argsL := argsL) (rest := rest) (hlen _ hsigM) hstack hdg
  rcases hK m meth c ⟨T.setVm vm₁, locs, cells, slots⟩ { g with stack := rest } (.invokevirtual index) mk (Value.ref b :: argsL).toArray X₁ hg hsize hdg hW (X₁.named hnamed) (hpre vm₁ X₁.warmed) with ⟨v, B, X', hpost, hsteps⟩ | ⟨q, B, X', hpost, hsteps⟩
  · exact Or.inl ⟨v, vm₁, B, X₁.warmed, X', hpost, fun target h => hstep₁ _ fun acts => by rw [doInvoke_state]; exact hsteps.trans h⟩
  · exact Or.inr ⟨q, vm₁, B, X₁.warmed, X', hpost, hstep₁ _ fun acts => by rw [doInvoke_state]; exact hsteps⟩
theorem vx_callS (X : Stand p l e R s m args below meth c T locs cells slots) (hexec : p.tables.exec = Jvm.exec) {own : String} {index : Nat} {y : MethodName} {bytes : ByteArray} {maxL : Nat} {ret : Option FieldType}
    (hown : s.vm.findClass own = some m.cls) (hlink : (Cond.methodLink own index y).before args s = true) (hstat : (Cond.static y).before args s = true) (hinit : (Cond.initialized y.cls).before args s = true)
    (hcode : (Cond.code y bytes maxL ret).before args s = true) (hy : y.cls ≠ "java/lang/invoke/MethodHandle" ∧ y.cls ≠ "java/lang/invoke/VarHandle")
    {W9 : Nat} {Pre : Pt → Array Value → Prop} {Post : Pt → Array Value → Option Value → Pt → Prop} {PostX : Pt → Array Value → Addr → Pt → Prop} (hK : vx_Back l R p e below s args y 3 W9 Pre Post PostX)
    {g : JFrame} (hg : g.method = m) (hsize : g.locals.size = c.maxLocals) {argsL rest : List Value} (hlen : ∀ sig, parseMethodDescriptor y.desc = some sig → argsL.length = sig.parameters.length)
    (hstack : g.stack = argsL.reverse ++ rest) (hW : 2 * g.monitorRoom + (rest.map fun v => v.category).sum ≤ W9) (hdg : decode c.code g.pc = .ok (.invokestatic index, 3))
    (hpre : ∀ vm₁, s.WarmedH vm₁ → Pre ⟨T.setVm vm₁, locs, cells, slots⟩ argsL.toArray) :
    (∃ (v : Option Value) (vm₁ : Vm) (B : Pt), s.WarmedH vm₁ ∧ Stand p l e R s m args below meth c B.U B.locs B.cells B.slots ∧ Post ⟨T.setVm vm₁, locs, cells, slots⟩ argsL.toArray v B ∧
      ∀ target, Steps p.tables e below (B.U.setTop { g with pc := g.pc + 3, stack := v.toList ++ rest }) target → Steps p.tables e below (T.setTop g) target) ∨
    (∃ (q : Addr) (vm₁ : Vm) (B : Pt), s.WarmedH vm₁ ∧ Stand p l e R s m args below meth c B.U B.locs B.cells B.slots ∧ PostX ⟨T.setVm vm₁, locs, cells, slots⟩ argsL.toArray q B ∧
      Steps p.tables e below (T.setTop g) ((B.U.setTop { g with stack := rest }).pushFrame (.throwing q))) := by
  obtain ⟨mk, hnamed⟩ := Cond.code_named hcode
  obtain ⟨methM, cM, hmethM, -, -, -, -, -, -, hsigM⟩ := Cond.code_spec hnamed hcode
  have hstatic : methM.isStatic = true := Cond.static_spec hnamed hmethM hstat
  obtain ⟨kP, hkP, -⟩ := className_of_methodNamed hnamed
  have hinitP : kP.init = .initialized := Cond.initialized_spec (findClass_of_methodNamed hnamed) hkP hinit
  obtain ⟨vm₁, X₁, hstep₁⟩ := X.invokestatic hexec hown hlink hnamed hmethM hstatic hkP hinitP hy (g := g) hg (argsL := argsL) (rest := rest) (hlen _ hsigM) hstack hdg
  rcases hK m meth c ⟨T.setVm vm₁, locs, cells, slots⟩ { g with stack := rest } (.invokestatic index) mk argsL.toArray X₁ hg hsize hdg hW (X₁.named hnamed) (hpre vm₁ X₁.warmed) with ⟨v, B, X', hpost, hsteps⟩ | ⟨q, B, X', hpost, hsteps⟩
  · exact Or.inl ⟨v, vm₁, B, X₁.warmed, X', hpost, fun target h => hstep₁ _ fun acts => by rw [doInvoke_state]; exact hsteps.trans h⟩
  · exact Or.inr ⟨q, vm₁, B, X₁.warmed, X', hpost, hstep₁ _ fun acts => by rw [doInvoke_state]; exact hsteps⟩
end Calls
theorem vx_cls {s : State} {T : State} {vm₁ : Vm} {E : String} {k : ClassId} (hW : s.WarmedH vm₁) (h : (T.setVm vm₁).vm.findClass E = some k) : s.vm.findClass E = some k := by
  have h1 : vm₁.findClass E = some k := h
  rw [hW.alike.findClass] at h1
  exact h1
/-- the method's frame g, with q thrown over it -/
def vx_W (p : Program) (l : Launch) (e : Env) (R : Room) (s : State) (m : MethodId) (args : Array Value) (below : List Frame) (meth : Method) (c : Code) (H : Heap) (locs : List Loc) (cells slots : Nat) (Q : State → Prop) (g : JFrame) (q : Addr) : Prop :=
  ∀ T : State, T.heap = H → Stand p l e R s m args below meth c T locs cells slots → ∃ t, Steps p.tables e below ((T.setTop g).pushFrame (.throwing q)) t ∧ Q t
def vx_Run (p : Program) (l : Launch) (e : Env) (R : Room) (s : State) (m : MethodId) (args : Array Value) (below : List Frame) (meth : Method) (c : Code) (H : Heap) (locs : List Loc) (cells slots mc ms : Nat) (g : JFrame) (rest : List Value) (Qa : State → Outcome → State → Prop) (XC : String → State → State → Prop) (free : Addr → Prop) : Prop :=
  ∀ T : State, T.heap = H → Stand p l e R s m args below meth c T locs cells slots →
    (∃ (v : Option Value) (st₀ t T' : State) (L : List Loc), st₀.heap = H ∧ Stand p l e R s m args below meth c T' (locs ++ L) (cells + mc) (slots + ms) ∧ (∀ q ∈ L, free q.base) ∧ T'.heap = t.heap ∧ T'.vm = t.vm ∧ Qa st₀ (.returned v) t ∧
      Goes p e below T g T' { g with pc := g.pc + 3, stack := v.toList ++ rest }) ∨
    (∃ (q : Addr) (st₀ t T' : State) (L : List Loc) (E : String) (ce : Cell), st₀.heap = H ∧ Stand p l e R s m args below meth c T' (locs ++ L) (cells + mc) (slots + ms) ∧ (∀ z ∈ L, free z.base) ∧ T'.heap = t.heap ∧ T'.vm = t.vm ∧ XC E st₀ t ∧ t.heap[q]? = some ce ∧ ce.vm = .none ∧ s.vm.findClass E = some ce.cls ∧
      Steps p.tables e below (T.setTop g) ((T'.setTop { g with stack := rest }).pushFrame (.throwing q)))
def vx_X {S : Type} (px : S → Prop) (B : String → S → State → Prop) (A : Nat → Prop) : String → State → State → Prop := fun E st t => ∃ u : S, px u ∧ B E u t ∧ va_F A st t
section Runs
variable {p : Program} {l : Launch} {e : Env} {R : Room} {s : State} {m : MethodId} {args : Array Value} {below : List Frame} {meth : Method} {c : Code} {H : Heap} {locs : List Loc} {cells slots : Nat}
variable {y : MethodName} {bytes cc : ByteArray} {maxL nL mc ms n index : Nat} {ret : Option FieldType} {ws : List Cond} {rm : Room} {Pc : Array Value → State → Prop} {Qc : Array Value → State → Outcome → State → Prop} {XC : String → State → State → Prop} {free : Addr → Prop} {Ts : List Cond} {own C : String} {b : Addr} {As rest : List Value} {g : JFrame}
theorem vx_callBack (cb : CallB R s args own index y bytes maxL ret ws rm mc ms n) (hM : vx_Met l y ws rm Pc Qc XC mc ms free) (hbl : FrameBlind Pc) : vx_Back l R p e below s args y 3 8 (PreOf R mc ms Pc) (PostOf Qc mc ms free) (vx_Post XC mc ms free) := by
  obtain ⟨hrc, hrs, hfr, hlo, hws, hcw, -, hini, -⟩ := cb
  exact vx_back (bytes := bytes) (maxL := maxL) (ret := ret) hM hbl hrc hrs hfr hlo hws hcw (fun a' U hW => word_at hW (Or.inl (by first | rfl | simp [Cond.onTables, Cond.keeps, Cond.steady])) hini)
theorem vx_runV (S : CallFix p m c cc nL s args Ts own) (hM : vx_Met l y ws rm Pc Qc XC mc ms free) (cw : CallW R s args own C index y bytes maxL ret ws rm mc ms n) (hp : PreV s H C b Pc As)
    (hg : g.method = m) (hn : As.length = n) (hsize : g.locals.size = nL) (hstack : g.stack = As.reverse ++ .ref b :: rest) (hW : 2 * g.monitorRoom + (rest.map fun v => v.category).sum ≤ 8) (hdg : decode cc g.pc = .ok (.invokevirtual index, 3)) (hf : cells + mc ≤ R.cells ∧ slots + ms ≤ R.slots) :
    vx_Run p l e R s m args below meth c H locs cells slots mc ms g rest (Qc (Value.ref b :: As).toArray) XC free := by
  have hK : vx_Back l R p e below s args y 3 8 (PreOf R mc ms Pc) (PostOf Qc mc ms free) (vx_Post XC mc ms free) := vx_callBack cw.1 hM hp.1
  obtain ⟨⟨-, -, -, -, -, -, hcode, -, hy, hlen, hl⟩, hin, hse⟩ := cw
  obtain ⟨hx, hb, hml, ho, -⟩ := S
  obtain ⟨-, ⟨cellB, hcB, hoB, hclB⟩, hPc⟩ := hp
  intro T hT X
  rcases vx_callV X hx (C := C) (bytes := bytes) (maxL := maxL) (ret := ret) ho hl hin hse hcode hy hK (by rw [hT]; exact hcB) hoB hclB hg (hsize.trans hml.symm) (argsL := As) (rest := rest) (fun sig h => hn.trans (hlen sig h)) hstack hW (by rw [hb]; exact hdg)
    (fun vm₁ hW₁ => ⟨hf.1, hf.2, hPc (T.setVm vm₁) hT hW₁⟩) with ⟨v, vm₁, ⟨U', l2, c2, s2⟩, hW₁, X', ⟨g', mk, t, L, e1, e2, hq, h1, hL, h2, h3⟩, st⟩ | ⟨q, vm₁, ⟨U', l2, c2, s2⟩, hW₁, X', ⟨g', mk, t, L, E, ce, e1, e2, hq, hce, hcv, hcl, h1, hL, h2, h3⟩, st⟩
  · dsimp only [Pt.U, Pt.locs, Pt.cells, Pt.slots] at X' e1 e2 h1 h2 h3 st
    subst h1; subst h2; subst h3
    exact Or.inl ⟨v, (T.setVm vm₁).calling g' mk (Value.ref b :: As).toArray, t, U', L, hT, X', hL, e1, e2, hq, st⟩
  · dsimp only [Pt.U, Pt.locs, Pt.cells, Pt.slots] at X' e1 e2 h1 h2 h3 st hcl
    subst h1; subst h2; subst h3
    exact Or.inr ⟨q, (T.setVm vm₁).calling g' mk (Value.ref b :: As).toArray, t, U', L, E, ce, hT, X', hL, e1, e2, hq, hce, hcv, vx_cls hW₁ hcl, st⟩
theorem vx_runS (S : CallFix p m c cc nL s args Ts own) (hM : vx_Met l y ws rm Pc Qc XC mc ms free) (cw : CallB R s args own index y bytes maxL ret ws rm mc ms n ∧ (Cond.static y).before args s = true) (hp : PreS s H Pc As)
    (hg : g.method = m) (hn : As.length = n) (hsize : g.locals.size = nL) (hstack : g.stack = As.reverse ++ rest) (hW : 2 * g.monitorRoom + (rest.map fun v => v.category).sum ≤ 8) (hdg : decode cc g.pc = .ok (.invokestatic index, 3)) (hf : cells + mc ≤ R.cells ∧ slots + ms ≤ R.slots) :
    vx_Run p l e R s m args below meth c H locs cells slots mc ms g rest (Qc As.toArray) XC free := by
  have hK : vx_Back l R p e below s args y 3 8 (PreOf R mc ms Pc) (PostOf Qc mc ms free) (vx_Post XC mc ms free) := vx_callBack cw.1 hM hp.1
  obtain ⟨⟨-, -, -, -, -, -, hcode, hini, hy, hlen, hl⟩, hstt⟩ := cw
  obtain ⟨hx, hb, hml, ho, -⟩ := S
  intro T hT X
  rcases vx_callS X hx (bytes := bytes) (maxL := maxL) (ret := ret) ho hl hstt hini hcode hy hK hg (hsize.trans hml.symm) (argsL := As) (rest := rest) (fun sig h => hn.trans (hlen sig h)) hstack hW (by rw [hb]; exact hdg)
    (fun vm₁ hW₁ => ⟨hf.1, hf.2, hp.2 (T.setVm vm₁) hT hW₁⟩) with ⟨v, vm₁, ⟨U', l2, c2, s2⟩, hW₁, X', ⟨g', mk, t, L, e1, e2, hq, h1, hL, h2, h3⟩, st⟩ | ⟨q, vm₁, ⟨U', l2, c2, s2⟩, hW₁, X', ⟨g', mk, t, L, E, ce, e1, e2, hq, hce, hcv, hcl, h1, hL, h2, h3⟩, st⟩
  · dsimp only [Pt.U, Pt.locs, Pt.cells, Pt.slots] at X' e1 e2 h1 h2 h3 st
    subst h1; subst h2; subst h3
    exact Or.inl ⟨v, (T.setVm vm₁).calling g' mk As.toArray, t, U', L, hT, X', hL, e1, e2, hq, st⟩
  · dsimp only [Pt.U, Pt.locs, Pt.cells, Pt.slots] at X' e1 e2 h1 h2 h3 st hcl
    subst h1; subst h2; subst h3
    exact Or.inr ⟨q, (T.setVm vm₁).calling g' mk As.toArray, t, U', L, E, ce, hT, X', hL, e1, e2, hq, hce, hcv, vx_cls hW₁ hcl, st⟩
end Runs
section Rows
variable {p : Program} {l : Launch} {e : Env} {R : Room} {s : State} {m : MethodId} {args : Array Value} {below : List Frame} {meth : Method} {c : Code} {H : Heap} {locs : List Loc} {cells slots : Nat} {Q : State → Prop}
variable {mc ms : Nat} {free : Addr → Prop} {A0 A1 : Nat → Prop} {H0 : Heap} {a : Array Value} {pc : Nat} {ls : Array Slot} {st0 rest : List Value}
theorem vx_keep {st₀ t T' : State} {L : List Loc} (h0 : st₀.heap = H) (e1 : T'.heap = t.heap) (hS : va_S A0 H0 H locs) (hA : ∀ q, q < H.size → A1 q → A0 q) (hf : ∀ q, free q → A0 q) (hL : ∀ q ∈ L, free q.base) (hF : va_F A1 st₀ t) :
    H.size ≤ T'.heap.size ∧ (∀ q : Nat, q < H.size → ¬ A1 q → T'.heap[q]? = H[q]?) ∧ va_S A0 H0 T'.heap (locs ++ L) := by
  obtain ⟨hz, hk⟩ := hF
  rw [h0] at hz hk
  exact ⟨by rw [e1]; exact hz, fun q h1 h2 => by rw [e1]; exact hk q h1 h2,
    ⟨Nat.le_trans hS.1 (by rw [e1]; exact hz), fun q h1 h2 => by rw [e1, hk q (Nat.lt_of_lt_of_le h1 hS.1) (fun z => h2 (hA q (Nat.lt_of_lt_of_le h1 hS.1) z))]; exact hS.2.1 q h1 h2, fun q hq => by
      rcases List.mem_append.mp hq with h | h
      · exact hS.2.2 q h
      · exact hf _ (hL q h)⟩⟩
theorem vx_calli {S SX : Type} {post : Int32 → S → Prop} {px : SX → Prop} {B : S → State → Prop} {BX : String → SX → State → Prop} {AX : Nat → Prop} (hr : vx_Run p l e R s m args below meth c H locs cells slots mc ms (F0 m pc ls st0) rest (va_Qi post B A1 a) (vx_X px BX AX) free) (hS : va_S A0 H0 H locs) (hA : ∀ q, q < H.size → A1 q → A0 q) (hf : ∀ q, free q → A0 q) (hAX : ∀ q, q < H.size → AX q → A0 q)
    (kx : ∀ (E : String) (ce : Cell) (q9 : Addr) (u : SX) (t : State) (H1 : Heap) (locs1 : List Loc), t.heap = H1 → s.vm.Alike t.vm → px u → BX E u t → H.size ≤ H1.size → (∀ q : Nat, q < H.size → ¬ AX q → H1[q]? = H[q]?) → va_S A0 H0 H1 locs1 → H1[q9]? = some ce → ce.vm = .none → s.vm.findClass E = some ce.cls → vx_W p l e R s m args below meth c H1 locs1 (cells + mc) (slots + ms) Q (F0 m pc ls rest) q9)
    (kk : ∀ (r : Int32) (u : S) (t : State) (H1 : Heap) (locs1 : List Loc), t.heap = H1 → s.vm.Alike t.vm → post r u → B u t → H.size ≤ H1.size → (∀ q : Nat, q < H.size → ¬ A1 q → H1[q]? = H[q]?) → va_S A0 H0 H1 locs1 → W p l e R s m args below meth c H1 locs1 (cells + mc) (slots + ms) Q (F0 m (pc + 3) ls (.int r :: rest))) : W p l e R s m args below meth c H locs cells slots Q (F0 m pc ls st0) := by
  intro T hT X
  rcases hr T hT X with ⟨v, st₀, t, T', L, h0, X', hL, e1, e2, ⟨⟨r, u, hv, hp, hb⟩, hF⟩, st⟩ | ⟨q, st₀, t, T', L, E, ce, h0, X', hL, e1, e2, ⟨u, hp, hb, hF⟩, hce, hcv, hcl, st⟩
  · cases hv
    obtain ⟨k1, k2, k3⟩ := vx_keep h0 e1 hS hA hf hL hF
    obtain ⟨t2, a1, b1⟩ := kk r u t T'.heap (locs ++ L) e1.symm (by rw [← e2]; exact X'.warmed.alike) hp hb k1 k2 k3 T' rfl X'
    exact ⟨t2, st t2 a1, b1⟩
  · obtain ⟨k1, k2, k3⟩ := vx_keep h0 e1 hS hAX hf hL hF
    obtain ⟨t2, a1, b1⟩ := kx E ce q u t T'.heap (locs ++ L) e1.symm (by rw [← e2]; exact X'.warmed.alike) hp hb k1 k2 k3 (by rw [e1]; exact hce) hcv hcl T' rfl X'
    exact ⟨t2, st.trans a1, b1⟩
theorem vx_calll {S SX : Type} {post : Int64 → S → Prop} {px : SX → Prop} {B : S → State → Prop} {BX : String → SX → State → Prop} {AX : Nat → Prop} (hr : vx_Run p l e R s m args below meth c H locs cells slots mc ms (F0 m pc ls st0) rest (va_Ql post B A1 a) (vx_X px BX AX) free) (hS : va_S A0 H0 H locs) (hA : ∀ q, q < H.size → A1 q → A0 q) (hf : ∀ q, free q → A0 q) (hAX : ∀ q, q < H.size → AX q → A0 q)
    (kx : ∀ (E : String) (ce : Cell) (q9 : Addr) (u : SX) (t : State) (H1 : Heap) (locs1 : List Loc), t.heap = H1 → s.vm.Alike t.vm → px u → BX E u t → H.size ≤ H1.size → (∀ q : Nat, q < H.size → ¬ AX q → H1[q]? = H[q]?) → va_S A0 H0 H1 locs1 → H1[q9]? = some ce → ce.vm = .none → s.vm.findClass E = some ce.cls → vx_W p l e R s m args below meth c H1 locs1 (cells + mc) (slots + ms) Q (F0 m pc ls rest) q9)
    (kk : ∀ (r : Int64) (u : S) (t : State) (H1 : Heap) (locs1 : List Loc), t.heap = H1 → s.vm.Alike t.vm → post r u → B u t → H.size ≤ H1.size → (∀ q : Nat, q < H.size → ¬ A1 q → H1[q]? = H[q]?) → va_S A0 H0 H1 locs1 → W p l e R s m args below meth c H1 locs1 (cells + mc) (slots + ms) Q (F0 m (pc + 3) ls (.long r :: rest))) : W p l e R s m args below meth c H locs cells slots Q (F0 m pc ls st0) := by
  intro T hT X
  rcases hr T hT X with ⟨v, st₀, t, T', L, h0, X', hL, e1, e2, ⟨⟨r, u, hv, hp, hb⟩, hF⟩, st⟩ | ⟨q, st₀, t, T', L, E, ce, h0, X', hL, e1, e2, ⟨u, hp, hb, hF⟩, hce, hcv, hcl, st⟩
  · cases hv
    obtain ⟨k1, k2, k3⟩ := vx_keep h0 e1 hS hA hf hL hF
    obtain ⟨t2, a1, b1⟩ := kk r u t T'.heap (locs ++ L) e1.symm (by rw [← e2]; exact X'.warmed.alike) hp hb k1 k2 k3 T' rfl X'
    exact ⟨t2, st t2 a1, b1⟩
  · obtain ⟨k1, k2, k3⟩ := vx_keep h0 e1 hS hAX hf hL hF
    obtain ⟨t2, a1, b1⟩ := kx E ce q u t T'.heap (locs ++ L) e1.symm (by rw [← e2]; exact X'.warmed.alike) hp hb k1 k2 k3 (by rw [e1]; exact hce) hcv hcl T' rfl X'
    exact ⟨t2, st.trans a1, b1⟩
theorem vx_callf {S SX : Type} {post : UInt32 → S → Prop} {px : SX → Prop} {B : S → State → Prop} {BX : String → SX → State → Prop} {AX : Nat → Prop} (hr : vx_Run p l e R s m args below meth c H locs cells slots mc ms (F0 m pc ls st0) rest (va_Qf post B A1 a) (vx_X px BX AX) free) (hS : va_S A0 H0 H locs) (hA : ∀ q, q < H.size → A1 q → A0 q) (hf : ∀ q, free q → A0 q) (hAX : ∀ q, q < H.size → AX q → A0 q)
    (kx : ∀ (E : String) (ce : Cell) (q9 : Addr) (u : SX) (t : State) (H1 : Heap) (locs1 : List Loc), t.heap = H1 → s.vm.Alike t.vm → px u → BX E u t → H.size ≤ H1.size → (∀ q : Nat, q < H.size → ¬ AX q → H1[q]? = H[q]?) → va_S A0 H0 H1 locs1 → H1[q9]? = some ce → ce.vm = .none → s.vm.findClass E = some ce.cls → vx_W p l e R s m args below meth c H1 locs1 (cells + mc) (slots + ms) Q (F0 m pc ls rest) q9)
    (kk : ∀ (r : UInt32) (u : S) (t : State) (H1 : Heap) (locs1 : List Loc), t.heap = H1 → s.vm.Alike t.vm → post r u → B u t → H.size ≤ H1.size → (∀ q : Nat, q < H.size → ¬ A1 q → H1[q]? = H[q]?) → va_S A0 H0 H1 locs1 → W p l e R s m args below meth c H1 locs1 (cells + mc) (slots + ms) Q (F0 m (pc + 3) ls (.float r :: rest))) : W p l e R s m args below meth c H locs cells slots Q (F0 m pc ls st0) := by
  intro T hT X
  rcases hr T hT X with ⟨v, st₀, t, T', L, h0, X', hL, e1, e2, ⟨⟨r, u, hv, hp, hb⟩, hF⟩, st⟩ | ⟨q, st₀, t, T', L, E, ce, h0, X', hL, e1, e2, ⟨u, hp, hb, hF⟩, hce, hcv, hcl, st⟩
  · cases hv
    obtain ⟨k1, k2, k3⟩ := vx_keep h0 e1 hS hA hf hL hF
    obtain ⟨t2, a1, b1⟩ := kk r u t T'.heap (locs ++ L) e1.symm (by rw [← e2]; exact X'.warmed.alike) hp hb k1 k2 k3 T' rfl X'
    exact ⟨t2, st t2 a1, b1⟩
  · obtain ⟨k1, k2, k3⟩ := vx_keep h0 e1 hS hAX hf hL hF
    obtain ⟨t2, a1, b1⟩ := kx E ce q u t T'.heap (locs ++ L) e1.symm (by rw [← e2]; exact X'.warmed.alike) hp hb k1 k2 k3 (by rw [e1]; exact hce) hcv hcl T' rfl X'
    exact ⟨t2, st.trans a1, b1⟩
theorem vx_calld {S SX : Type} {post : UInt64 → S → Prop} {px : SX → Prop} {B : S → State → Prop} {BX : String → SX → State → Prop} {AX : Nat → Prop} (hr : vx_Run p l e R s m args below meth c H locs cells slots mc ms (F0 m pc ls st0) rest (va_Qd post B A1 a) (vx_X px BX AX) free) (hS : va_S A0 H0 H locs) (hA : ∀ q, q < H.size → A1 q → A0 q) (hf : ∀ q, free q → A0 q) (hAX : ∀ q, q < H.size → AX q → A0 q)
    (kx : ∀ (E : String) (ce : Cell) (q9 : Addr) (u : SX) (t : State) (H1 : Heap) (locs1 : List Loc), t.heap = H1 → s.vm.Alike t.vm → px u → BX E u t → H.size ≤ H1.size → (∀ q : Nat, q < H.size → ¬ AX q → H1[q]? = H[q]?) → va_S A0 H0 H1 locs1 → H1[q9]? = some ce → ce.vm = .none → s.vm.findClass E = some ce.cls → vx_W p l e R s m args below meth c H1 locs1 (cells + mc) (slots + ms) Q (F0 m pc ls rest) q9)
    (kk : ∀ (r : UInt64) (u : S) (t : State) (H1 : Heap) (locs1 : List Loc), t.heap = H1 → s.vm.Alike t.vm → post r u → B u t → H.size ≤ H1.size → (∀ q : Nat, q < H.size → ¬ A1 q → H1[q]? = H[q]?) → va_S A0 H0 H1 locs1 → W p l e R s m args below meth c H1 locs1 (cells + mc) (slots + ms) Q (F0 m (pc + 3) ls (.double r :: rest))) : W p l e R s m args below meth c H locs cells slots Q (F0 m pc ls st0) := by
  intro T hT X
  rcases hr T hT X with ⟨v, st₀, t, T', L, h0, X', hL, e1, e2, ⟨⟨r, u, hv, hp, hb⟩, hF⟩, st⟩ | ⟨q, st₀, t, T', L, E, ce, h0, X', hL, e1, e2, ⟨u, hp, hb, hF⟩, hce, hcv, hcl, st⟩
  · cases hv
    obtain ⟨k1, k2, k3⟩ := vx_keep h0 e1 hS hA hf hL hF
    obtain ⟨t2, a1, b1⟩ := kk r u t T'.heap (locs ++ L) e1.symm (by rw [← e2]; exact X'.warmed.alike) hp hb k1 k2 k3 T' rfl X'
    exact ⟨t2, st t2 a1, b1⟩
  · obtain ⟨k1, k2, k3⟩ := vx_keep h0 e1 hS hAX hf hL hF
    obtain ⟨t2, a1, b1⟩ := kx E ce q u t T'.heap (locs ++ L) e1.symm (by rw [← e2]; exact X'.warmed.alike) hp hb k1 k2 k3 (by rw [e1]; exact hce) hcv hcl T' rfl X'
    exact ⟨t2, st.trans a1, b1⟩
theorem vx_callv {S SX : Type} {post : S → Prop} {px : SX → Prop} {B : S → State → Prop} {BX : String → SX → State → Prop} {AX : Nat → Prop} (hr : vx_Run p l e R s m args below meth c H locs cells slots mc ms (F0 m pc ls st0) rest (va_Qv post B A1 a) (vx_X px BX AX) free) (hS : va_S A0 H0 H locs) (hA : ∀ q, q < H.size → A1 q → A0 q) (hf : ∀ q, free q → A0 q) (hAX : ∀ q, q < H.size → AX q → A0 q)
    (kx : ∀ (E : String) (ce : Cell) (q9 : Addr) (u : SX) (t : State) (H1 : Heap) (locs1 : List Loc), t.heap = H1 → s.vm.Alike t.vm → px u → BX E u t → H.size ≤ H1.size → (∀ q : Nat, q < H.size → ¬ AX q → H1[q]? = H[q]?) → va_S A0 H0 H1 locs1 → H1[q9]? = some ce → ce.vm = .none → s.vm.findClass E = some ce.cls → vx_W p l e R s m args below meth c H1 locs1 (cells + mc) (slots + ms) Q (F0 m pc ls rest) q9)
    (kk : ∀ (u : S) (t : State) (H1 : Heap) (locs1 : List Loc), t.heap = H1 → s.vm.Alike t.vm → post u → B u t → H.size ≤ H1.size → (∀ q : Nat, q < H.size → ¬ A1 q → H1[q]? = H[q]?) → va_S A0 H0 H1 locs1 → W p l e R s m args below meth c H1 locs1 (cells + mc) (slots + ms) Q (F0 m (pc + 3) ls (rest))) : W p l e R s m args below meth c H locs cells slots Q (F0 m pc ls st0) := by
  intro T hT X
  rcases hr T hT X with ⟨v, st₀, t, T', L, h0, X', hL, e1, e2, ⟨⟨u, hv, hp, hb⟩, hF⟩, st⟩ | ⟨q, st₀, t, T', L, E, ce, h0, X', hL, e1, e2, ⟨u, hp, hb, hF⟩, hce, hcv, hcl, st⟩
  · cases hv
    obtain ⟨k1, k2, k3⟩ := vx_keep h0 e1 hS hA hf hL hF
    obtain ⟨t2, a1, b1⟩ := kk u t T'.heap (locs ++ L) e1.symm (by rw [← e2]; exact X'.warmed.alike) hp hb k1 k2 k3 T' rfl X'
    exact ⟨t2, st t2 a1, b1⟩
  · obtain ⟨k1, k2, k3⟩ := vx_keep h0 e1 hS hAX hf hL hF
    obtain ⟨t2, a1, b1⟩ := kx E ce q u t T'.heap (locs ++ L) e1.symm (by rw [← e2]; exact X'.warmed.alike) hp hb k1 k2 k3 (by rw [e1]; exact hce) hcv hcl T' rfl X'
    exact ⟨t2, st.trans a1, b1⟩
/-- caught by the row x of this method's table; the rows ahead don't take it -/
theorem vx_catch {own name : String} {E : String} {ce : Cell} {q : Addr} (hown : s.vm.findClass own = some m.cls) (pre : List ExceptionTableEntry) (x : ExceptionTableEntry) (suf : List ExceptionTableEntry) (hsplit : c.exceptionTable.toList = pre ++ x :: suf)
    (hpass : ∀ z ∈ pre, covers z pc = false ∨ (z.catchType ≠ 0 ∧ ∃ nm : String, (Cond.classLink own z.catchType nm).before args s = true ∧ va_Nc E nm s)) (hx : covers x pc = true) (h0 : x.catchType ≠ 0)
    (hlink : (Cond.classLink own x.catchType name).before args s = true) (hcast : (Cond.castable E name).before args s = true) (hcell : H[q]? = some ce) (hv : ce.vm = .none) (hcl : s.vm.findClass E = some ce.cls)
    (kk : W p l e R s m args below meth c H locs cells slots Q (F0 m x.handlerPc ls [.ref q])) : vx_W p l e R s m args below meth c H locs cells slots Q (F0 m pc ls rest) q := by
  intro T hT X
  have hpl : e.platform.magicAccessors = ({} : Platform).magicAccessors := by rw [X.admits.platform]
  obtain ⟨c3, c4, hc3, hc4, hasg⟩ := Cond.castable_spec hcast
  cases Option.some.inj (hc3.symm.trans hcl)
  obtain ⟨c5, hc5, hcl5⟩ := Cond.classLink_spec hown hlink e.platform hpl
  cases Option.some.inj (hc4.symm.trans hc5)
  obtain ⟨vm', X', st⟩ := X.thenCaughtThrough q (g := F0 m pc ls rest) rfl (Steps.refl _) (by rw [hT]; exact hcell) (by rw [hv]; rfl) (by obtain ⟨k9, h9, -⟩ := Vm.findClass_spec hcl; exact ⟨k9, h9⟩) pre x suf hsplit
    (fun z hz => by
      rcases hpass z hz with h | ⟨hz0, nm, hl1, hn1⟩
      · exact Or.inl h
      · obtain ⟨c6, hc6, hcl6⟩ := Cond.classLink_spec hown hl1 e.platform hpl
        obtain ⟨a8, b8, h1, h2, h3⟩ := hn1
        cases Option.some.inj (h1.symm.trans hcl)
        cases Option.some.inj (h2.symm.trans hc6)
        exact Or.inr ⟨hz0, _, hcl6, h3⟩) hx (Or.inr ⟨h0, c4, hcl5, hasg⟩)
  obtain ⟨t, a1, b1⟩ := kk (T.setVm vm') hT X'
  exact ⟨t, st.trans a1, b1⟩
end Rows
section Ends
variable {p : Program} {l : Launch} {e : Env} {R : Room} {s : State} {m : MethodId} {args : Array Value} {below : List Frame} {meth : Method} {c : Code} {H : Heap} {locs : List Loc} {cells slots : Nat} {Q : State → Prop}
variable {mc ms : Nat} {free : Addr → Prop} {A0 A1 : Nat → Prop} {H0 : Heap} {a : Array Value} {ls : Array Slot} {st0 rest : List Value}
variable {Qc : Array Value → State → Outcome → State → Prop} {XC : String → State → State → Prop}
/-- what a body that may throw owes at its end -/
def vx_MQ (below : List Frame) (Qc : Array Value → State → Outcome → State → Prop) (XC : String → State → State → Prop) (a : Array Value) (s : State) (mc ms : Nat) (free : Addr → Prop) : State → Prop := fun t =>
  ∃ o, t.status = .running ∧ Ended t below o ∧ vx_Q Qc XC mc ms free a s o t
theorem vx_ret {g : JFrame} {mc ms : Nat} (k : W p l e R s m args below meth c H locs cells slots (MQ below Qc args s mc ms free) g) : W p l e R s m args below meth c H locs cells slots (vx_MQ below Qc XC args s mc ms free) g := by
  intro T hT X
  obtain ⟨t, a1, o, b1, b2, b3, b4⟩ := k T hT X
  exact ⟨t, a1, o, b1, b2, Or.inl ⟨b3, b4⟩⟩
/-- not caught here: it goes on to the caller -/
theorem vx_widen {g : JFrame} {q : Addr} {k n : Nat} (h1 : cells ≤ k) (h2 : slots ≤ n) (kk : vx_W p l e R s m args below meth c H locs k n Q g q) : vx_W p l e R s m args below meth c H locs cells slots Q g q := fun T hT X => kk T hT (stand_widen X h1 h2)
theorem vx_out {pc : Nat} {E : String} {ce : Cell} {q : Addr} {mc ms : Nat} (hout : ∀ x ∈ c.exceptionTable.toList, covers x pc = false) (hlocks : meth.locks = false) (hcell : H[q]? = some ce) (hv : ce.vm = .none) (hcl : s.vm.findClass E = some ce.cls)
    (hx : ∀ t : State, t.heap = H → s.vm.Alike t.vm → XC E s t) (hf : ∀ z ∈ locs, free z.base) (hc : cells ≤ mc) (hs : slots ≤ ms) :
    vx_W p l e R s m args below meth c H locs cells slots (vx_MQ below Qc XC args s mc ms free) (F0 m pc ls rest) q := by
  intro T hT X
  obtain ⟨st1, hrun, hend, hW, hsm⟩ := X.leaveThrown q (g := F0 m pc ls rest) rfl rfl rfl hout hlocks
  have hcell9 : (T.setFrames (.throwing q :: below)).heap[q]? = some ce := by
    show T.heap[q]? = some ce
    rw [hT]; exact hcell
  exact ⟨_, st1, .threw q, hrun, hend, Or.inr ⟨q, rfl, E, ce, locs, hx _ hT hW.alike, hcell9, hv, hcl, hW, hsm.mono hc hs, hf⟩⟩
theorem vx_frame {U : State} {k n : Nat} (h : s.sameButNew ({ U with vm := s.vm } : State) locs k n) : s.heap.size ≤ U.heap.size ∧ ∀ q : Nat, q < s.heap.size → (∀ z ∈ locs, z.base ≠ q) → U.heap[q]? = s.heap[q]? := by
  obtain ⟨-, h2, -, -, -, h6⟩ := h
  refine ⟨h2, fun q hq hz => ?_⟩
  obtain ⟨c9, e1, e2, e3, e4⟩ := h6 q _ (Array.getElem?_eq_getElem hq)
  have hs : c9.slots = (s.heap[q]).slots := Array.ext_getElem? fun i => e4 i fun hm => hz _ hm rfl
  have h9 : c9 = s.heap[q] := by
    rw [hs] at e2
    exact e2
  have e5 : U.heap[q]? = some c9 := e1
  rw [e5, h9, Array.getElem?_eq_getElem hq]
/-- the words of a throw but the four that speak of the heap -/
def vx_no (w : Cond) : Bool := decide (w ≠ .isRef (.static Bundle.tN "UNASSIGNED_STACK" Bundle.steD)) && decide (w ≠ .isRef (.static Bundle.tN "SUPPRESSED_SENTINEL" Bundle.listD)) && decide (w ≠ .laysStatic Bundle.tN "UNASSIGNED_STACK" Bundle.steD) && decide (w ≠ .laysStatic Bundle.tN "SUPPRESSED_SENTINEL" Bundle.listD)
def vx_at0 (own : String) (ic : Nat) (X : String) (names : List String) : List Cond := (Bundle.ownAtoms0 own ic X names).filter vx_no
def vx_atS (own : String) (ic : Nat) (X : String) (names : List String) : List Cond := (Bundle.ownAtoms own ic X names).filter vx_no
/-- a word that the tables alone decide, or a good one -/
def vx_ot (w : Cond) : Bool := w.onTables || goodWord w
theorem vx_ot_at {args a' : Array Value} {s U : State} {w : Cond} (hW : s.WarmedH U.vm) (hvm : s.vm = U.vm) (hg : vx_ot w = true) (h : w.before args s = true) : w.before a' U = true := by
  simp only [vx_ot, Bool.or_eq_true] at hg
  rcases hg with hg | hg
  · exact va_tabs hg hvm h
  · exact word_at hW (good_of_word hg) h
/-- a list's words: the good ones out of the method's own list, the others by premises of their own -/
theorem vx_hat {args : Array Value} {s : State} {L B : List Cond} (h1 : ∀ w ∈ L.filter goodWord, w.before args s = true) (h2 : ∀ w ∈ L.filter (fun w => !goodWord w), w ∈ B) (h3 : ∀ w ∈ B, w.before args s = true) : ∀ w ∈ L, w.before args s = true := by
  intro w hw
  by_cases g : goodWord w = true
  · exact h1 w (List.mem_filter.mpr ⟨hw, g⟩)
  · refine h3 w (h2 w (List.mem_filter.mpr ⟨hw, ?_⟩))
    show (!goodWord w) = true
    cases hgw : goodWord w
    · rfl
    · exact absurd hgw g
theorem vx_c {args : Array Value} {s : State} {w : Cond} {B : List Cond} (h : w.before args s = true) (t : ∀ w ∈ B, w.before args s = true) : ∀ w' ∈ w :: B, w'.before args s = true := fun w' h' => (List.mem_cons.mp h').elim (fun e => by rw [e]; exact h) (t w')
theorem vx_n {args : Array Value} {s : State} : ∀ w ∈ ([] : List Cond), w.before args s = true := fun _ h => nomatch h
theorem vx_own {args : Array Value} {s : State} {L : List Cond} (h1 : ∀ w ∈ L.filter vx_no, w.before args s = true)
    (hU : (Cond.isRef (.static Bundle.tN "UNASSIGNED_STACK" Bundle.steD)).before args s = true) (hN : (Cond.isRef (.static Bundle.tN "SUPPRESSED_SENTINEL" Bundle.listD)).before args s = true)
    (lU : (Cond.laysStatic Bundle.tN "UNASSIGNED_STACK" Bundle.steD).before args s = true) (lN : (Cond.laysStatic Bundle.tN "SUPPRESSED_SENTINEL" Bundle.listD).before args s = true) : ∀ w ∈ L, w.before args s = true := by
  intro w hw
  by_cases e1 : w = .isRef (.static Bundle.tN "UNASSIGNED_STACK" Bundle.steD)
  · rw [e1]; exact hU
  · by_cases e2 : w = .isRef (.static Bundle.tN "SUPPRESSED_SENTINEL" Bundle.listD)
    · rw [e2]; exact hN
    · by_cases e3 : w = .laysStatic Bundle.tN "UNASSIGNED_STACK" Bundle.steD
      · rw [e3]; exact lU
      · by_cases e4 : w = .laysStatic Bundle.tN "SUPPRESSED_SENTINEL" Bundle.listD
        · rw [e4]; exact lN
        · exact h1 w (List.mem_filter.mpr ⟨hw, by unfold vx_no; rw [decide_eq_true e1, decide_eq_true e2, decide_eq_true e3, decide_eq_true e4]; rfl⟩)
/-- where a static field lies, its class's statics cell in H -/
def vx_L (C n d : String) (A : Nat → Prop) (U : State) (H : Heap) : Prop := ∃ (c : ClassId) (k : Class) (i : Nat) (f : Field) (a : Nat) (cell : Cell), U.vm.findClass C = some c ∧ U.fieldFound? C n d = some (c, k, i, f) ∧ f.isStatic = true ∧ k.statics = some a ∧ H[a]? = some cell ∧ cell.vm.isStatics = true ∧ cell.cls = c ∧ f.slot < cell.slots.size ∧ k.staticTypes[f.slot]? = some f.type ∧ ¬ A a
theorem vx_L.moved {C n d : String} {A : Nat → Prop} {u U : State} {H : Heap} (hvm : u.vm.Alike U.vm) (h : vx_L C n d A u H) : vx_L C n d A U H := by
  obtain ⟨c, k, i, f, a, cell, h1, h2, h3, h4, h5, h6, h7, h8, h9, h10⟩ := h
  obtain ⟨k', hi', he⟩ := State.fieldFound?_setVm hvm h2
  exact ⟨c, k', i, f, a, cell, by rw [hvm.findClass]; exact h1, hi', h3, by rw [he]; exact h4, h5, h6, h7, h8, by rw [he]; exact h9, h10⟩
theorem vx_L.kept {C n d : String} {A : Nat → Prop} {U : State} {H H1 : Heap} (h : vx_L C n d A U H) (hq : ∀ a : Nat, a < H.size → ¬ A a → H1[a]? = H[a]?) : vx_L C n d A U H1 := by
  obtain ⟨c, k, i, f, a, cell, h1, h2, h3, h4, h5, h6, h7, h8, h9, h10⟩ := h
  exact ⟨c, k, i, f, a, cell, h1, h2, h3, h4, by rw [hq a (Array.getElem?_eq_some_iff.mp h5).1 h10]; exact h5, h6, h7, h8, h9, h10⟩
theorem vx_L.narrow {C n d : String} {A B : Nat → Prop} {U : State} {H : Heap} (h : vx_L C n d A U H) (hAB : ∀ q, B q → A q) : vx_L C n d B U H := by
  obtain ⟨c, k, i, f, a, cell, h1, h2, h3, h4, h5, h6, h7, h8, h9, h10⟩ := h
  exact ⟨c, k, i, f, a, cell, h1, h2, h3, h4, h5, h6, h7, h8, h9, fun z => h10 (hAB _ z)⟩
theorem vx_L.word {C n d : String} {A : Nat → Prop} {s : State} {args : Array Value} (h : vx_L C n d A s s.heap) : (Cond.laysStatic C n d).before args s = true := by
  obtain ⟨c, k, i, f, a, cell, h1, h2, h3, h4, h5, h6, h7, h8, h9, -⟩ := h
  show (Cond.laysStatic C n d).holds args s none s [] = true
  exact Cond.laysStatic_of h1 h2 h3 h4 h5 h6 h7 h8 h9
/-- .. and what it holds: null or some reference -/
def vx_Zq (C n d : String) (A : Nat → Prop) (U : State) (H : Heap) : Prop := va_Zq C n d A U H ∧ vx_L C n d A U H
theorem vx_Zq.moved {C n d : String} {A : Nat → Prop} {u U : State} {H : Heap} (hvm : u.vm.Alike U.vm) (h : vx_Zq C n d A u H) : vx_Zq C n d A U H := ⟨va_Zq.moved hvm h.1, vx_L.moved hvm h.2⟩
theorem vx_Zq.kept {C n d : String} {A : Nat → Prop} {U : State} {H H1 : Heap} (h : vx_Zq C n d A U H) (hq : ∀ a : Nat, a < H.size → ¬ A a → H1[a]? = H[a]?) : vx_Zq C n d A U H1 := ⟨va_Zq.kept h.1 hq, vx_L.kept h.2 hq⟩
theorem vx_Zq.narrow {C n d : String} {A B : Nat → Prop} {U : State} {H : Heap} (h : vx_Zq C n d A U H) (hAB : ∀ q, B q → A q) : vx_Zq C n d B U H := ⟨va_Zq.narrow h.1 hAB, vx_L.narrow h.2 hAB⟩
theorem vx_Zqof {args : Array Value} {s : State} {C n d : String} {A : Nat → Prop} (hl : (Cond.laysStatic C n d).before args s = true) (hini : (Cond.initialized C).before args s = true) (h : (Cond.isRef (.static C n d)).before args s = true) (hA : ∀ a : Nat, a < s.heap.size → ¬ A a) : vx_Zq C n d A s s.heap := by
  refine ⟨va_Zqof hl hini h hA, ?_⟩
  obtain ⟨c, k, i, f, a, cell, h1, h2, h3, h4, h5, h6, h7, h8, h9⟩ := Cond.laysStatic_spec hl
  exact ⟨c, k, i, f, a, cell, h1, h2, h3, h4, h5, h6, h7, h8, h9, hA a (Array.getElem?_eq_some_iff.mp h5).1⟩
theorem vx_isRef {C n d : String} {v : Value} {A : Nat → Prop} {s : State} {args : Array Value} (h : va_Z C n d v A s s.heap) (hv : v.isRef = true) : (Cond.isRef (.static C n d)).before args s = true := by
  obtain ⟨cf, kf, fi, f, a, cell, h1, h2, h3, h4, h5, h6, h7, -⟩ := h
  have he : (Term.static C n d).eval args s none [] s = some v := by
    simp [Term.eval, State.fieldNamed?, h1, h2, h4, h5, h6, h7]
  simp only [Cond.before, Cond.holds, Cond.value, he]
  cases v <;> simp_all [Value.isRef]
theorem vx_isRefq {C n d : String} {A : Nat → Prop} {s : State} {args : Array Value} (h : va_Zq C n d A s s.heap) : (Cond.isRef (.static C n d)).before args s = true := by
  rcases h with h | ⟨t, h⟩
  · exact vx_isRef h rfl
  · exact vx_isRef h rfl
/-- the same frame, seen from here: as if the method were called anew in this heap -/
theorem vx_rebase {T : State} (X : Stand p l e R s m args below meth c T locs cells slots) {R' : Room} (hf : R'.frames ≤ R.frames) (hl : R'.locals ≤ R.locals) (hc : cells + R'.cells ≤ R.cells) (hs : slots + R'.slots ≤ R.slots) :
    Stand p l e R' ((T.setVm s.vm).setFrames (.invoking m args :: below)) m args below meth c T [] 0 0 := by
  have htop : (T.setVm s.vm).topJava?.isSome := X.here.top
  have hF : ((T.setVm s.vm).setFrames (.invoking m args :: below)).frames = .invoking m args :: below := State.frames_setFrames _ (State.cur_lt_of_top htop)
  obtain ⟨g₀, hg0⟩ := Option.isSome_iff_exists.mp htop
  obtain ⟨r, hr⟩ := State.topJava?_eq_some.mp hg0
  have hl9 : e.platform.stackLimits (T.setVm s.vm).me = e.platform.stackLimits s.me := X.limits
  have hb9 : (T.setVm s.vm).me.stackBytes = s.me.stackBytes := X.bytes
  refine ⟨X.admits, X.cas, X.clock, hF, ?_, X.hears, X.method, X.code, X.here, X.tail, X.warmed, ?_, ?_, ?_⟩
  · have h := X.room
    have hU : ((T.setVm s.vm).setFrames (.invoking m args :: below)).localsInUse = s.localsInUse := by
      rw [State.localsInUse_invoking hF (meth := meth) (c := c) X.method X.code, State.localsInUse_invoking X.frames X.method X.code]
    simp only [State.hasRoom, Bool.and_eq_true, decide_eq_true_eq] at h ⊢
    obtain ⟨⟨⟨⟨h1, h2, h3, h4, h5, h6⟩, h7⟩, h8⟩, h9⟩ := h
    rw [X.frames, List.length_cons] at h2 h3
    have q1 := X.heapSize
    have q2 := X.used
    simp only [hF, hU, List.length_cons, State.stackLimits_setFrames, State.stackBytes_setFrames, hl9, hb9]
    refine ⟨⟨⟨⟨by omega, by omega, by omega, by omega, by omega, h6⟩, ?_⟩, ?_⟩, X.book⟩
    · show T.heap.size + R'.cells ≤ e.platform.maxCells
      omega
    · show T.slotsUsed + R'.slots ≤ e.platform.maxSlots
      omega
  · rw [State.stackLimits_setFrames]; rfl
  · rw [State.stackBytes_setFrames]; rfl
  · refine ⟨?_, Nat.le_refl _, Nat.le_refl _, ?_, ?_, fun a c9 h9 => ⟨c9, h9, rfl, rfl, fun _ _ => rfl⟩⟩
    · obtain ⟨t, ht, -⟩ := State.frames_cons hr
      show T.setVm s.vm = { ((T.setVm s.vm).setFrames (.invoking m args :: below)).setFrames (T.setVm s.vm).frames with heap := T.heap, slotsUsed := T.slotsUsed }
      rw [State.setFrames_setFrames, State.setFrames_self ht]
      rfl
    · show T.slotsUsed = T.slotsUsed + ((T.heap.toList.drop T.heap.size).map (·.slots.size)).sum
      rw [List.drop_eq_nil_of_le (Nat.le_of_eq Array.length_toList)]
      rfl
    · show ((T.heap.toList.drop T.heap.size).map (·.slots.size)).sum ≤ 0
      rw [List.drop_eq_nil_of_le (Nat.le_of_eq Array.length_toList)]
      exact Nat.le_refl _
/-- 'throw new E()': new; dup; invokespecial; athrow -/
theorem vx_throw0 {cc : ByteArray} {pc : Nat} (hexec : p.tables.exec = Jvm.exec) (hb : c.code = cc) (hl : l.stackTraces = false) {own cls : String} {names : List String} {ik ic mc ms : Nat} {A : Nat → Prop}
    (hown : s.vm.findClass own = some m.cls) (hcls : Bundle.fit cls = true) (hnames : ∀ n ∈ names, Bundle.fit n = true)
    (hk : (Cond.classLink own ik cls).before args s = true) (hini : (Cond.initialized cls).before args s = true) (hat : ∀ w ∈ vx_at0 own ic cls names, w.before args s = true)
    (hgood : ∀ w ∈ Cond.classLink own ik cls :: Cond.initialized cls :: vx_at0 own ic cls names, vx_ot w = true)
    (hU : vx_Zq Bundle.tN "UNASSIGNED_STACK" Bundle.steD A s s.heap) (hN : vx_Zq Bundle.tN "SUPPRESSED_SENTINEL" Bundle.listD A s s.heap) (hS : va_S A s.heap H locs) (hsize : ls.size = c.maxLocals)
    (d0 : decode cc pc = .ok (.new ik, 3)) (d3 : decode cc (pc + 3) = .ok (.dup, 1)) (d4 : decode cc (pc + 4) = .ok (.invokespecial ic, 3)) (d7 : decode cc (pc + 7) = .ok (.athrow, 1))
    (hout : ∀ x ∈ c.exceptionTable.toList, covers x (pc + 7) = false)
    (hRframes : names.length + 3 < R.frames) (hRlocals : (rest.map fun v => v.category).sum + (13 * (names.length + 1) + 42) ≤ R.locals) (hRcells : cells + 1 ≤ R.cells) (hRslots : slots + 6 ≤ R.slots) (hlocks : meth.locks = false)
    (hx : ∀ t : State, s.vm.Alike t.vm → H.size ≤ t.heap.size → (∀ q : Nat, q < H.size → t.heap[q]? = H[q]?) → XC cls s t)
    (hf : ∀ z ∈ locs, free z.base) (hc : cells + 1 ≤ mc) (hs : slots + 6 ≤ ms) :
    W p l e R s m args below meth c H locs cells slots (vx_MQ below Qc XC args s mc ms free) (F0 m pc ls rest) := by
  intro T hT X
  have htr : e.platform.stackTraces = false := (show e.platform.stackTraces = l.stackTraces by rw [X.admits.platform]).trans hl
  have Y := vx_rebase X (R' := { frames := R.frames, locals := R.locals, cells := 1, slots := 6 }) (Nat.le_refl _) (Nat.le_refl _) hRcells hRslots
  obtain ⟨s', hA⟩ : ∃ z, z = (T.setVm s.vm).setFrames (.invoking m args :: below) := ⟨_, rfl⟩
  rw [← hA] at Y
  have hvm : s'.vm = s.vm := by rw [hA]; rfl
  have hhp : s'.heap = H := by rw [hA]; exact hT
  have hW0 : s.WarmedH s'.vm := by rw [hvm]; exact State.WarmedH.refl s
  have hat' : ∀ w ∈ vx_at0 own ic cls names, w.before args s' = true := fun w hw => vx_ot_at hW0 hvm.symm (hgood w (List.mem_cons_of_mem _ (List.mem_cons_of_mem _ hw))) (hat w hw)
  have hk' : (Cond.classLink own ik cls).before args s' = true := vx_ot_at hW0 hvm.symm (hgood _ List.mem_cons_self) hk
  have hini' : (Cond.initialized cls).before args s' = true := vx_ot_at hW0 hvm.symm (hgood _ (List.mem_cons_of_mem _ List.mem_cons_self)) hini
  have hU' : vx_Zq Bundle.tN "UNASSIGNED_STACK" Bundle.steD A s' s'.heap := by rw [hhp]; exact vx_Zq.moved hW0.alike (hU.kept hS.2.1)
  have hN' : vx_Zq Bundle.tN "SUPPRESSED_SENTINEL" Bundle.listD A s' s'.heap := by rw [hhp]; exact vx_Zq.moved hW0.alike (hN.kept hS.2.1)
  have h : ∀ w ∈ Bundle.ownAtoms0 own ic cls names, w.before args s' = true := vx_own hat' (vx_isRefq hU'.1) (vx_isRefq hN'.1) hU'.2.word hN'.2.word
  have hown' : s'.vm.findClass own = some m.cls := by rw [hvm]; exact hown
  have hins : (Cond.instantiable cls 6).before args s' = true := h _ (by simp [Bundle.ownAtoms0])
  obtain ⟨vm₁, cX, kX, hfX, hkX, -, -, X₁, st1⟩ := Y.newCold hexec (own := own) (C := cls) (index := ik) (n := 6) hown' hk' hins hini'
    (g := F0 m pc ls rest) rfl (by rw [hb]; exact d0) (Nat.le_refl _) (Nat.le_refl _)
  generalize hT1 : (T.setVm vm₁).pushCell { cls := cX, slots := kX.instanceTypes.map defaultValue, vm := .none } = T1 at X₁ st1
  have hcat : (Value.ref T.heap.size).category = 1 := rfl
  have hcellA : T1.heap[T.heap.size]? = some (freshCell cX kX) := by rw [← hT1]; exact State.heap_pushCell_size _ _
  have d3' : decode c.code (pc + 3) = .ok (.dup, 1) := by rw [hb]; exact d3
  obtain ⟨U, hsteps, hrun, hend, hW, hsame, ce, hce, hO⟩ := X₁.ctorThrow0 hexec htr (own := own) (cls := cls) (names := names) (ic := ic) hown' hcls hnames h (fun x hx => nomatch hx) hfX hkX hcellA (by rw [hhp, hT]; exact Nat.le_refl _)
    (g := { method := m, pc := pc + 4, locals := ls, stack := .ref T.heap.size :: .ref T.heap.size :: rest, locked := none }) rfl hsize rfl rfl (rest := rest) rfl
    (by rw [hb]; exact d4) (by rw [hb]; exact d7) hout hRframes (by simp only [List.map_cons, List.sum_cons, hcat]; omega) hlocks
  obtain ⟨f1, f2⟩ := vx_frame hsame
  rw [hhp] at f1 f2
  have hWs : s.WarmedH U.vm := State.WarmedH.trans hW0 hW
  have hcl : s.vm.findClass cls = some ce.cls := by
    have h9 := hO.cls
    rw [hvm] at h9
    exact h9
  have hall : s.sameButNew ({ U with vm := s.vm } : State) locs mc ms := by
    subst hA
    obtain ⟨e1, e2⟩ := hsame
    rw [State.setFrames_setFrames] at e1
    have h2 : (T.setVm s.vm).sameButNew ({ U with vm := s.vm } : State) [] (0 + 1) (0 + 6) := ⟨e1, e2⟩
    have h3 := X.same.trans h2
    rw [List.append_nil] at h3
    exact h3.mono hc hs
  refine ⟨U, ?_, .threw T.heap.size, hrun, hend, Or.inr ⟨T.heap.size, rfl, cls, ce, locs, hx U hWs.alike f1 (fun q hq => f2 q hq (fun z hz => nomatch hz)), hce, hO.vm, hcl, hWs, hall, hf⟩⟩
  refine st1 _ ?_
  show Steps p.tables e below (T1.setTop { method := m, pc := pc + 3, locals := ls, stack := .ref T.heap.size :: rest, locked := none }) _
  jvm_step X₁.here [X₁.here.top, hexec, d3', Value.category]
  exact hsteps
/-- 'throw new E("text")': new; dup; ldc; invokespecial; athrow -/
theorem vx_throwS {cc : ByteArray} {pc : Nat} (hexec : p.tables.exec = Jvm.exec) (hb : c.code = cc) (hl : l.stackTraces = false) {own cls text : String} {names : List String} {ik is ic mc ms sa : Nat} {A : Nat → Prop}
    (hown : s.vm.findClass own = some m.cls) (hcls : Bundle.fit cls = true) (hnames : ∀ n ∈ names, Bundle.fit n = true)
    (hk : (Cond.classLink own ik cls).before args s = true) (hini : (Cond.initialized cls).before args s = true) (hstr : vk_R own is text sa s) (hat : ∀ w ∈ vx_atS own ic cls names, w.before args s = true)
    (hgood : ∀ w ∈ Cond.classLink own ik cls :: Cond.initialized cls :: vx_atS own ic cls names, vx_ot w = true)
    (hU : vx_Zq Bundle.tN "UNASSIGNED_STACK" Bundle.steD A s s.heap) (hN : vx_Zq Bundle.tN "SUPPRESSED_SENTINEL" Bundle.listD A s s.heap) (hS : va_S A s.heap H locs) (hsize : ls.size = c.maxLocals)
    (d0 : decode cc pc = .ok (.new ik, 3)) (d3 : decode cc (pc + 3) = .ok (.dup, 1)) (d4 : decode cc (pc + 4) = .ok (.ldc is, 2)) (d6 : decode cc (pc + 6) = .ok (.invokespecial ic, 3)) (d9 : decode cc (pc + 9) = .ok (.athrow, 1))
    (hout : ∀ x ∈ c.exceptionTable.toList, covers x (pc + 9) = false)
    (hRframes : names.length + 3 < R.frames) (hRlocals : (rest.map fun v => v.category).sum + (13 * (names.length + 1) + 43) ≤ R.locals) (hRcells : cells + 1 ≤ R.cells) (hRslots : slots + 6 ≤ R.slots) (hlocks : meth.locks = false)
    (hx : ∀ t : State, s.vm.Alike t.vm → H.size ≤ t.heap.size → (∀ q : Nat, q < H.size → t.heap[q]? = H[q]?) → XC cls s t)
    (hf : ∀ z ∈ locs, free z.base) (hc : cells + 1 ≤ mc) (hs : slots + 6 ≤ ms) :
    W p l e R s m args below meth c H locs cells slots (vx_MQ below Qc XC args s mc ms free) (F0 m pc ls rest) := by
  intro T hT X
  have htr : e.platform.stackTraces = false := (show e.platform.stackTraces = l.stackTraces by rw [X.admits.platform]).trans hl
  have Y := vx_rebase X (R' := { frames := R.frames, locals := R.locals, cells := 1, slots := 6 }) (Nat.le_refl _) (Nat.le_refl _) hRcells hRslots
  obtain ⟨s', hA⟩ : ∃ z, z = (T.setVm s.vm).setFrames (.invoking m args :: below) := ⟨_, rfl⟩
  rw [← hA] at Y
  have hvm : s'.vm = s.vm := by rw [hA]; rfl
  have hhp : s'.heap = H := by rw [hA]; exact hT
  have hW0 : s.WarmedH s'.vm := by rw [hvm]; exact State.WarmedH.refl s
  have hat' : ∀ w ∈ vx_atS own ic cls names, w.before args s' = true := fun w hw => vx_ot_at hW0 hvm.symm (hgood w (List.mem_cons_of_mem _ (List.mem_cons_of_mem _ hw))) (hat w hw)
  have hk' : (Cond.classLink own ik cls).before args s' = true := vx_ot_at hW0 hvm.symm (hgood _ List.mem_cons_self) hk
  have hini' : (Cond.initialized cls).before args s' = true := vx_ot_at hW0 hvm.symm (hgood _ (List.mem_cons_of_mem _ List.mem_cons_self)) hini
  have hU' : vx_Zq Bundle.tN "UNASSIGNED_STACK" Bundle.steD A s' s'.heap := by rw [hhp]; exact vx_Zq.moved hW0.alike (hU.kept hS.2.1)
  have hN' : vx_Zq Bundle.tN "SUPPRESSED_SENTINEL" Bundle.listD A s' s'.heap := by rw [hhp]; exact vx_Zq.moved hW0.alike (hN.kept hS.2.1)
  have h : ∀ w ∈ Bundle.ownAtoms own ic cls names, w.before args s' = true := vx_own hat' (vx_isRefq hU'.1) (vx_isRefq hN'.1) hU'.2.word hN'.2.word
  have hown' : s'.vm.findClass own = some m.cls := by rw [hvm]; exact hown
  have hins : (Cond.instantiable cls 6).before args s' = true := h _ (by simp [Bundle.ownAtoms])
  obtain ⟨vm₁, cX, kX, hfX, hkX, -, -, X₁, st1⟩ := Y.newCold hexec (own := own) (C := cls) (index := ik) (n := 6) hown' hk' hins hini'
    (g := F0 m pc ls rest) rfl (by rw [hb]; exact d0) (Nat.le_refl _) (Nat.le_refl _)
  generalize hT1 : (T.setVm vm₁).pushCell { cls := cX, slots := kX.instanceTypes.map defaultValue, vm := .none } = T1 at X₁ st1
  have hcat : (Value.ref T.heap.size).category = 1 := rfl
  have hcellA : T1.heap[T.heap.size]? = some (freshCell cX kX) := by rw [← hT1]; exact State.heap_pushCell_size _ _
  have d3' : decode c.code (pc + 3) = .ok (.dup, 1) := by rw [hb]; exact d3
  have d4' : decode c.code (pc + 4) = .ok (.ldc is, 2) := by rw [hb]; exact d4
  have hstr' : vk_R own is text sa s' := vk_R.warm hW0 hstr
  obtain ⟨U, hsteps, hrun, hend, hW, hsame, ce, hce, hO⟩ := X₁.ctorThrowS hexec htr (own := own) (cls := cls) (names := names) (ic := ic) hown' hcls hnames h (fun x hx => nomatch hx) hfX hkX hcellA (by rw [hhp, hT]; exact Nat.le_refl _) (msg := .ref sa) rfl
    (g := { method := m, pc := pc + 6, locals := ls, stack := .ref sa :: .ref T.heap.size :: .ref T.heap.size :: rest, locked := none }) rfl hsize rfl rfl (rest := rest) rfl
    (by rw [hb]; exact d6) (by rw [hb]; exact d9) hout hRframes (by simp only [List.map_cons, List.sum_cons, hcat]; omega) hlocks
  obtain ⟨f1, f2⟩ := vx_frame hsame
  rw [hhp] at f1 f2
  have hWs : s.WarmedH U.vm := State.WarmedH.trans hW0 hW
  have hcl : s.vm.findClass cls = some ce.cls := by
    have h9 := hO.cls
    rw [hvm] at h9
    exact h9
  have hall : s.sameButNew ({ U with vm := s.vm } : State) locs mc ms := by
    subst hA
    obtain ⟨e1, e2⟩ := hsame
    rw [State.setFrames_setFrames] at e1
    have h2 : (T.setVm s.vm).sameButNew ({ U with vm := s.vm } : State) [] (0 + 1) (0 + 6) := ⟨e1, e2⟩
    have h3 := X.same.trans h2
    rw [List.append_nil] at h3
    exact h3.mono hc hs
  refine ⟨U, ?_, .threw T.heap.size, hrun, hend, Or.inr ⟨T.heap.size, rfl, cls, ce, locs, hx U hWs.alike f1 (fun q hq => f2 q hq (fun z hz => nomatch hz)), hce, hO.vm, hcl, hWs, hall, hf⟩⟩
  refine st1 _ ?_
  show Steps p.tables e below (T1.setTop { method := m, pc := pc + 3, locals := ls, stack := .ref T.heap.size :: rest, locked := none }) _
  jvm_step X₁.here [X₁.here.top, hexec, d3', Value.category]
  exact X₁.ldcString hexec (own := own) (text := text) (index := is) (a := sa) hown' hstr'.1 hstr'.2
    (g := { method := m, pc := pc + 4, locals := ls, stack := .ref T.heap.size :: .ref T.heap.size :: rest, locked := none }) rfl d4' _ hsteps
/-- 'throw new E("text")', the text by a wide index -/
theorem vx_throwSW {cc : ByteArray} {pc : Nat} (hexec : p.tables.exec = Jvm.exec) (hb : c.code = cc) (hl : l.stackTraces = false) {own cls text : String} {names : List String} {ik is ic mc ms sa : Nat} {A : Nat → Prop}
    (hown : s.vm.findClass own = some m.cls) (hcls : Bundle.fit cls = true) (hnames : ∀ n ∈ names, Bundle.fit n = true)
    (hk : (Cond.classLink own ik cls).before args s = true) (hini : (Cond.initialized cls).before args s = true) (hstr : vk_R own is text sa s) (hat : ∀ w ∈ vx_atS own ic cls names, w.before args s = true)
    (hgood : ∀ w ∈ Cond.classLink own ik cls :: Cond.initialized cls :: vx_atS own ic cls names, vx_ot w = true)
    (hU : vx_Zq Bundle.tN "UNASSIGNED_STACK" Bundle.steD A s s.heap) (hN : vx_Zq Bundle.tN "SUPPRESSED_SENTINEL" Bundle.listD A s s.heap) (hS : va_S A s.heap H locs) (hsize : ls.size = c.maxLocals)
    (d0 : decode cc pc = .ok (.new ik, 3)) (d3 : decode cc (pc + 3) = .ok (.dup, 1)) (d4 : decode cc (pc + 4) = .ok (.ldc_w is, 3)) (d7 : decode cc (pc + 7) = .ok (.invokespecial ic, 3)) (d10 : decode cc (pc + 10) = .ok (.athrow, 1))
    (hout : ∀ x ∈ c.exceptionTable.toList, covers x (pc + 10) = false)
    (hRframes : names.length + 3 < R.frames) (hRlocals : (rest.map fun v => v.category).sum + (13 * (names.length + 1) + 43) ≤ R.locals) (hRcells : cells + 1 ≤ R.cells) (hRslots : slots + 6 ≤ R.slots) (hlocks : meth.locks = false)
    (hx : ∀ t : State, s.vm.Alike t.vm → H.size ≤ t.heap.size → (∀ q : Nat, q < H.size → t.heap[q]? = H[q]?) → XC cls s t)
    (hf : ∀ z ∈ locs, free z.base) (hc : cells + 1 ≤ mc) (hs : slots + 6 ≤ ms) :
    W p l e R s m args below meth c H locs cells slots (vx_MQ below Qc XC args s mc ms free) (F0 m pc ls rest) := by
  intro T hT X
  have htr : e.platform.stackTraces = false := (show e.platform.stackTraces = l.stackTraces by rw [X.admits.platform]).trans hl
  have Y := vx_rebase X (R' := { frames := R.frames, locals := R.locals, cells := 1, slots := 6 }) (Nat.le_refl _) (Nat.le_refl _) hRcells hRslots
  obtain ⟨s', hA⟩ : ∃ z, z = (T.setVm s.vm).setFrames (.invoking m args :: below) := ⟨_, rfl⟩
  rw [← hA] at Y
  have hvm : s'.vm = s.vm := by rw [hA]; rfl
  have hhp : s'.heap = H := by rw [hA]; exact hT
  have hW0 : s.WarmedH s'.vm := by rw [hvm]; exact State.WarmedH.refl s
  have hat' : ∀ w ∈ vx_atS own ic cls names, w.before args s' = true := fun w hw => vx_ot_at hW0 hvm.symm (hgood w (List.mem_cons_of_mem _ (List.mem_cons_of_mem _ hw))) (hat w hw)
  have hk' : (Cond.classLink own ik cls).before args s' = true := vx_ot_at hW0 hvm.symm (hgood _ List.mem_cons_self) hk
  have hini' : (Cond.initialized cls).before args s' = true := vx_ot_at hW0 hvm.symm (hgood _ (List.mem_cons_of_mem _ List.mem_cons_self)) hini
  have hU' : vx_Zq Bundle.tN "UNASSIGNED_STACK" Bundle.steD A s' s'.heap := by rw [hhp]; exact vx_Zq.moved hW0.alike (hU.kept hS.2.1)
  have hN' : vx_Zq Bundle.tN "SUPPRESSED_SENTINEL" Bundle.listD A s' s'.heap := by rw [hhp]; exact vx_Zq.moved hW0.alike (hN.kept hS.2.1)
  have h : ∀ w ∈ Bundle.ownAtoms own ic cls names, w.before args s' = true := vx_own hat' (vx_isRefq hU'.1) (vx_isRefq hN'.1) hU'.2.word hN'.2.word
  have hown' : s'.vm.findClass own = some m.cls := by rw [hvm]; exact hown
  have hins : (Cond.instantiable cls 6).before args s' = true := h _ (by simp [Bundle.ownAtoms])
  obtain ⟨vm₁, cX, kX, hfX, hkX, -, -, X₁, st1⟩ := Y.newCold hexec (own := own) (C := cls) (index := ik) (n := 6) hown' hk' hins hini'
    (g := F0 m pc ls rest) rfl (by rw [hb]; exact d0) (Nat.le_refl _) (Nat.le_refl _)
  generalize hT1 : (T.setVm vm₁).pushCell { cls := cX, slots := kX.instanceTypes.map defaultValue, vm := .none } = T1 at X₁ st1
  have hcat : (Value.ref T.heap.size).category = 1 := rfl
  have hcellA : T1.heap[T.heap.size]? = some (freshCell cX kX) := by rw [← hT1]; exact State.heap_pushCell_size _ _
  have d3' : decode c.code (pc + 3) = .ok (.dup, 1) := by rw [hb]; exact d3
  have d4' : decode c.code (pc + 4) = .ok (.ldc_w is, 3) := by rw [hb]; exact d4
  have hstr' : vk_R own is text sa s' := vk_R.warm hW0 hstr
  obtain ⟨U, hsteps, hrun, hend, hW, hsame, ce, hce, hO⟩ := X₁.ctorThrowS hexec htr (own := own) (cls := cls) (names := names) (ic := ic) hown' hcls hnames h (fun x hx => nomatch hx) hfX hkX hcellA (by rw [hhp, hT]; exact Nat.le_refl _) (msg := .ref sa) rfl
    (g := { method := m, pc := pc + 7, locals := ls, stack := .ref sa :: .ref T.heap.size :: .ref T.heap.size :: rest, locked := none }) rfl hsize rfl rfl (rest := rest) rfl
    (by rw [hb]; exact d7) (by rw [hb]; exact d10) hout hRframes (by simp only [List.map_cons, List.sum_cons, hcat]; omega) hlocks
  obtain ⟨f1, f2⟩ := vx_frame hsame
  rw [hhp] at f1 f2
  have hWs : s.WarmedH U.vm := State.WarmedH.trans hW0 hW
  have hcl : s.vm.findClass cls = some ce.cls := by
    have h9 := hO.cls
    rw [hvm] at h9
    exact h9
  have hall : s.sameButNew ({ U with vm := s.vm } : State) locs mc ms := by
    subst hA
    obtain ⟨e1, e2⟩ := hsame
    rw [State.setFrames_setFrames] at e1
    have h2 : (T.setVm s.vm).sameButNew ({ U with vm := s.vm } : State) [] (0 + 1) (0 + 6) := ⟨e1, e2⟩
    have h3 := X.same.trans h2
    rw [List.append_nil] at h3
    exact h3.mono hc hs
  refine ⟨U, ?_, .threw T.heap.size, hrun, hend, Or.inr ⟨T.heap.size, rfl, cls, ce, locs, hx U hWs.alike f1 (fun q hq => f2 q hq (fun z hz => nomatch hz)), hce, hO.vm, hcl, hWs, hall, hf⟩⟩
  refine st1 _ ?_
  show Steps p.tables e below (T1.setTop { method := m, pc := pc + 3, locals := ls, stack := .ref T.heap.size :: rest, locked := none }) _
  jvm_step X₁.here [X₁.here.top, hexec, d3', Value.category]
  exact X₁.ldcStringW hexec (own := own) (text := text) (index := is) (a := sa) hown' hstr'.1 hstr'.2
    (g := { method := m, pc := pc + 4, locals := ls, stack := .ref T.heap.size :: .ref T.heap.size :: rest, locked := none }) rfl d4' _ hsteps
end Ends
section Bodies
variable {l : Launch}
theorem vx_ofW {y : MethodName} {ws ws' : List Cond} {rm : Room} {Pc : Array Value → State → Prop} {Qc : Array Value → State → Outcome → State → Prop} {XC : String → State → State → Prop} {mc ms : Nat} {free : Addr → Prop} {cc : ByteArray} {maxL : Nat} {ret : Option FieldType}
    (hy : plainName y.cls = true) (hw : ws = Cond.code y cc maxL ret :: ws')
    (body : ∀ p e s m args below meth c s₁, BodyLoose p l y (headSpec ws rm) cc maxL ret e s m args below meth c s₁ → c.maxLocals = maxL → (∀ x ∈ c.exceptionTable.toList, False) → Pc args s →
      W p l e (headSpec ws rm).room s m args below meth c s.heap [] 0 0 (vx_MQ below Qc XC args s mc ms free) (entryFrame m args maxL)) : vx_Met l y ws rm Pc Qc XC mc ms free := by
  refine MetFree.of_bodyS (code := cc) (maxLocals := maxL) (ret := ret) hy ?_ ?_
  · intro args s m h hn
    obtain ⟨meth, c, h1, h2, h3, h4, h5, h6, -, -⟩ := Cond.code_spec hn (atoms_spec (ws := ws) h _ (by rw [hw]; exact List.mem_cons_self))
    exact ⟨meth, c, h1, h2, h3, h4, h5, h6⟩
  · intro p e s m args below meth c s₁ B hml hP _
    have hh0 : s₁.heap = s.heap := by rw [B.state]; rfl
    have ht : ∀ x ∈ c.exceptionTable.toList, False := by
      obtain ⟨meth9, c9, h1, h2, -, -, -, -, h7, -⟩ := Cond.code_spec B.named (atoms_spec (ws := ws) B.pre _ (by rw [hw]; exact List.mem_cons_self))
      cases Option.some.inj (h1.symm.trans B.method)
      cases Option.some.inj (h2.symm.trans (Stand.of_body B).code)
      intro x hx
      rw [Array.isEmpty_iff.mp h7] at hx
      cases hx
    obtain ⟨t, a1, o, b1, b2, b3⟩ := body p e s m args below meth c s₁ B hml ht hP s₁ hh0 (Stand.of_body B)
    exact ⟨t, o, a1, b1, b2, b3⟩
/-- the table of a body with handlers -/
theorem vx_table {p : Program} {x y : MethodName} {S : Spec} {cc bytes : ByteArray} {maxL maxL' : Nat} {ret ret' : Option FieldType} {e : Env} {s s₁ : State} {m : MethodId} {args : Array Value} {below : List Frame} {meth : Method} {c : Code} {hh : List (Nat × Nat × Nat × Nat)}
    (B : BodyLoose p l y S cc maxL ret e s m args below meth c s₁) (h : (Cond.codeWith y bytes maxL' ret' hh).before args s = true) : c.exceptionTable.toList = tableOf hh := by
  obtain ⟨m9, meth9, c9, hn9, h1, h2, -, -, h6, -⟩ := Cond.codeWith_spec h
  cases Option.some.inj (hn9.symm.trans B.named)
  cases Option.some.inj (h1.symm.trans B.method)
  cases Option.some.inj (h2.symm.trans (Stand.of_body B).code)
  rw [← h6, table_eq]
end Bodies
end VXA
/-! ===== END ===== -/
/-! ===== BEGIN a static call of a method with an exception table ===== -/
section VXS
variable {p : Program} {l : Launch} {e : Env} {R : Room} {s : State} {m : MethodId} {args : Array Value} {below : List Frame} {meth : Method} {c : Code} {T : State} {H : Heap} {locs : List Loc} {cells slots : Nat}
abbrev vx_CSW (R : Room) (s : State) (args : Array Value) (own : String) (index : Nat) (y : MethodName) (bytes : ByteArray) (maxL : Nat) (ret : Option FieldType) (hh : List (Nat × Nat × Nat × Nat)) (ws : List Cond) (rm : Room) (mc ms n : Nat) : Prop :=
  (rm.cells = mc ∧ rm.slots = ms ∧ rm.frames + 1 ≤ R.frames ∧ 8 + (maxL + 11) + rm.locals ≤ R.locals ∧ (∀ w ∈ ws, ∀ (a' : Array Value) (U : State), s.WarmedH U.vm → w.before a' U = true) ∧ Cond.codeWith y bytes maxL ret hh ∈ ws) ∧
  (Cond.codeWith y bytes maxL ret hh).before args s = true ∧ (Cond.initialized y.cls).before args s = true ∧ (y.cls ≠ "java/lang/invoke/MethodHandle" ∧ y.cls ≠ "java/lang/invoke/VarHandle") ∧
  (∀ sig, parseMethodDescriptor y.desc = some sig → n = sig.parameters.length) ∧ (Cond.methodLink own index y).before args s = true ∧ (Cond.static y).before args s = true
theorem vx_cwSW {own : String} {index maxL mc ms : Nat} {y : MethodName} {bytes : ByteArray} {ret : Option FieldType} {hh : List (Nat × Nat × Nat × Nat)} {Ts ws ws' : List Cond} {rm : Room} (n : Nat) (ht : ∀ w ∈ Ts, w.before args s = true) (hT : GoodIn Ts (va_wsS own index y ws)) (hw : ws = Cond.codeWith y bytes maxL ret hh :: ws') (hrc : rm.cells = mc) (hrs : rm.slots = ms)
    (hd : y.cls ≠ "java/lang/invoke/MethodHandle" ∧ y.cls ≠ "java/lang/invoke/VarHandle" ∧ (parseMethodDescriptor y.desc).map (fun d => d.parameters.length) = some n) (hR : rm.frames + 1 ≤ R.frames ∧ 8 + (maxL + 11) + rm.locals ≤ R.locals) :
    vx_CSW R s args own index y bytes maxL ret hh ws rm mc ms n := by
  have ok : ∀ w ∈ va_wsS own index y ws, w.before args s = true := fun w h => ht w (hT w h).1
  have hG : GoodIn Ts ws := fun w h => hT w (by unfold va_wsS; exact List.mem_append_right _ h)
  have hc : Cond.codeWith y bytes maxL ret hh ∈ ws := by rw [hw]; exact List.mem_cons_self
  refine ⟨⟨hrc, hrs, hR.1, hR.2, pay_in ht hG, hc⟩, ht _ (hG _ hc).1, ok _ (by simp [va_wsS]), ⟨hd.1, hd.2.1⟩, fun sig h => ?_, ok _ (by simp [va_wsS]), ok _ (by simp [va_wsS])⟩
  have h2 := hd.2.2
  rw [h] at h2
  exact (Option.some.inj h2).symm
theorem vx_callSW (X : Stand p l e R s m args below meth c T locs cells slots) (hexec : p.tables.exec = Jvm.exec) {own : String} {index : Nat} {y : MethodName} {bytes : ByteArray} {maxL : Nat} {ret : Option FieldType} {hh : List (Nat × Nat × Nat × Nat)}
    (hown : s.vm.findClass own = some m.cls) (hlink : (Cond.methodLink own index y).before args s = true) (hstat : (Cond.static y).before args s = true) (hinit : (Cond.initialized y.cls).before args s = true)
    (hcode : (Cond.codeWith y bytes maxL ret hh).before args s = true) (hy : y.cls ≠ "java/lang/invoke/MethodHandle" ∧ y.cls ≠ "java/lang/invoke/VarHandle")
    {W9 : Nat} {Pre : Pt → Array Value → Prop} {Post : Pt → Array Value → Option Value → Pt → Prop} (hK : Back l R p e below s args y 3 W9 Pre Post)
    {g : JFrame} (hg : g.method = m) (hsize : g.locals.size = c.maxLocals) {argsL rest : List Value} (hlen : ∀ sig, parseMethodDescriptor y.desc = some sig → argsL.length = sig.parameters.length)
    (hstack : g.stack = argsL.reverse ++ rest) (hW : 2 * g.monitorRoom + (rest.map fun v => v.category).sum ≤ W9) (hdg : decode c.code g.pc = .ok (.invokestatic index, 3))
    (hpre : ∀ vm₁, s.WarmedH vm₁ → Pre ⟨T.setVm vm₁, locs, cells, slots⟩ argsL.toArray) :
    ∃ (v : Option Value) (vm₁ : Vm) (B : Pt), s.WarmedH vm₁ ∧ Stand p l e R s m args below meth c B.U B.locs B.cells B.slots ∧ Post ⟨T.setVm vm₁, locs, cells, slots⟩ argsL.toArray v B ∧
      ∀ target, Steps p.tables e below (B.U.setTop { g with pc := g.pc + 3, stack := v.toList ++ rest }) target → Steps p.tables e below (T.setTop g) target := by
  obtain ⟨mk, methM, cM, hnamed, hmethM, -, -, -, -, -, -, hsigM⟩ := Cond.codeWith_spec hcode
  have hstatic : methM.isStatic = true := Cond.static_spec hnamed hmethM hstat
  obtain ⟨kP, hkP, -⟩ := className_of_methodNamed hnamed
  have hinitP : kP.init = .initialized := Cond.initialized_spec (findClass_of_methodNamed hnamed) hkP hinit
  obtain ⟨vm₁, X₁, hstep₁⟩ := X.invokestatic hexec hown hlink hnamed hmethM hstatic hkP hinitP hy (g := g) hg (argsL := argsL) (rest := rest) (hlen _ hsigM) hstack hdg
  obtain ⟨v, B, X', hpost, hsteps⟩ := hK m meth c ⟨T.setVm vm₁, locs, cells, slots⟩ { g with stack := rest } (.invokestatic index) mk argsL.toArray X₁ hg hsize hdg hW (X₁.named hnamed) (hpre vm₁ X₁.warmed)
  exact ⟨v, vm₁, B, X₁.warmed, X', hpost, fun target h => hstep₁ _ fun acts => by rw [doInvoke_state]; exact hsteps.trans h⟩
theorem vx_runSW {y : MethodName} {bytes cc : ByteArray} {maxL nL mc ms n index : Nat} {ret : Option FieldType} {hh : List (Nat × Nat × Nat × Nat)} {ws : List Cond} {rm : Room} {Pc : Array Value → State → Prop} {Qc : Array Value → State → Outcome → State → Prop} {free : Addr → Prop} {Ts : List Cond} {own : String} {As rest : List Value} {g : JFrame}
    (S : CallFix p m c cc nL s args Ts own) (hM : Met l y ws rm Pc Qc mc ms free) (cw : vx_CSW R s args own index y bytes maxL ret hh ws rm mc ms n) (hp : PreS s H Pc As)
    (hg : g.method = m) (hn : As.length = n) (hsize : g.locals.size = nL) (hstack : g.stack = As.reverse ++ rest) (hW : 2 * g.monitorRoom + (rest.map fun v => v.category).sum ≤ 8) (hdg : decode cc g.pc = .ok (.invokestatic index, 3)) (hf : cells + mc ≤ R.cells ∧ slots + ms ≤ R.slots) :
    va_Run p l e R s m args below meth c H locs cells slots mc ms g rest (Qc As.toArray) (free) := by
  obtain ⟨⟨hrc, hrs, hfr, hlo, hws, hcw⟩, hcode, hini, hy, hlen, hl, hstt⟩ := cw
  have hK : Back l R p e below s args y 3 8 (PreOf R mc ms Pc) (PostOf Qc mc ms free) := va_backW (hh := hh) (bytes := bytes) (maxL := maxL) (ret := ret) hM hp.1 hrc hrs hfr hlo hws hcw (fun a' U hW => word_at hW (Or.inl (by first | rfl | simp [Cond.onTables, Cond.keeps, Cond.steady])) hini)
  obtain ⟨hx, hb, hml, ho, -⟩ := S
  intro T hT X
  obtain ⟨v, vm₁, ⟨U', l2, c2, s2⟩, hW₁, X', ⟨g', mk, t, L, e1, e2, hq, h1, hL, h2, h3⟩, st⟩ := vx_callSW X hx (hh := hh) (bytes := bytes) (maxL := maxL) (ret := ret) ho hl hstt hini hcode hy hK hg (hsize.trans hml.symm) (argsL := As) (rest := rest) (fun sig h => hn.trans (hlen sig h)) hstack hW (by rw [hb]; exact hdg)
    (fun vm₁ hW₁ => ⟨hf.1, hf.2, hp.2 (T.setVm vm₁) hT hW₁⟩)
  dsimp only [Pt.U, Pt.locs, Pt.cells, Pt.slots] at X' e1 e2 h1 h2 h3 st
  subst h1; subst h2; subst h3
  exact ⟨v, (T.setVm vm₁).calling g' mk As.toArray, t, U', L, hT, X', hL, e1, e2, hq, st⟩
/-- not caught here, past rows that name other classes: it goes on to the caller -/
theorem vx_outP {p : Program} {l : Launch} {e : Env} {R : Room} {s : State} {m : MethodId} {args : Array Value} {below : List Frame} {meth : Method} {c : Code} {H : Heap} {locs : List Loc} {cells slots : Nat} {free : Addr → Prop} {ls : Array Slot} {rest : List Value} {Qc : Array Value → State → Outcome → State → Prop} {XC : String → State → State → Prop}
    {pc : Nat} {own E : String} {ce : Cell} {q : Addr} {mc ms : Nat} (hown : s.vm.findClass own = some m.cls) (hlocks : meth.locks = false)
    (hpass : ∀ z ∈ c.exceptionTable.toList, covers z pc = false ∨ (z.catchType ≠ 0 ∧ ∃ nm : String, (Cond.classLink own z.catchType nm).before args s = true ∧ va_Nc E nm s)) (hcell : H[q]? = some ce) (hv : ce.vm = .none) (hcl : s.vm.findClass E = some ce.cls)
    (hx : ∀ t : State, t.heap = H → s.vm.Alike t.vm → XC E s t) (hf : ∀ z ∈ locs, free z.base) (hc : cells ≤ mc) (hs : slots ≤ ms) :
    vx_W p l e R s m args below meth c H locs cells slots (vx_MQ below Qc XC args s mc ms free) (F0 m pc ls rest) q := by
  intro T hT X
  have hpl : e.platform.magicAccessors = ({} : Platform).magicAccessors := by rw [X.admits.platform]
  obtain ⟨vm', hW', X', st⟩ := X.outThrough hlocks q (g := F0 m pc ls rest) rfl rfl rfl (cell := ce) (by rw [hT]; exact hcell) (by rw [hv]; rfl)
    (by obtain ⟨k9, h9, -⟩ := Vm.findClass_spec hcl; exact ⟨k9, h9⟩) (fun z hz => by
      rcases hpass z hz with h | ⟨hz0, nm, hl1, hn1⟩
      · exact Or.inl h
      · obtain ⟨c6, hc6, hcl6⟩ := Cond.classLink_spec hown hl1 e.platform hpl
        obtain ⟨a8, b8, h1, h2, h3⟩ := hn1
        cases Option.some.inj (h1.symm.trans hcl)
        cases Option.some.inj (h2.symm.trans hc6)
        exact Or.inr ⟨hz0, _, hcl6, h3⟩)
  obtain ⟨g₀, hfr⟩ := X'.frames_eq
  have hcell9 : ((T.setVm vm').setFrames (.throwing q :: below)).heap[q]? = some ce := by
    show T.heap[q]? = some ce
    rw [hT]; exact hcell
  have hend : Ended ((T.setVm vm').setFrames (.throwing q :: below)) below (.threw q) := State.frames_setFrames _ (State.cur_lt_of_frames hfr)
  refine ⟨(T.setVm vm').setFrames (.throwing q :: below), ?_, .threw q, X'.here.running, hend, Or.inr ⟨q, rfl, E, ce, locs, hx _ hT (X'.ends _).1.alike, hcell9, hv, hcl, (X'.ends _).1, (X'.ends _).2.mono hc hs, hf⟩⟩
  rw [X.pushThrowing_eq]
  exact st
/-- a thing of a world lies in the heap -/
theorem vx_lt {D : va_G} {cl : List vw_C} {ws : va_W} {H1 : Heap} (h : va_P D cl ws H1) {k : Nat} {q : Nat × va_E} (hk : ws[k]? = some q) : q.1 < H1.size := (h k q hk).lt
end VXS
/-! ===== END ===== -/
/-! ===== BEGIN methods with a table of their own: called by a name, returning or throwing ===== -/
section VXH
/-! vx_backW, vx_callVX, vx_callSX, vx_callVW, vx_runVW, vx_runVX, vx_runSX, vx_ofWH follow the same proofs as their sisters above (Free/Laws.lean, Shelf42/LK1.lean); vx_outP calls Shelf42/NT130.lean (outThrough). -/
section
variable {l : Launch} {R : Room} {p : Program} {e : Env} {below : List Frame} {s : State} {sargs : Array Value} {y : MethodName} {len W9 : Nat}
theorem vx_backW {ws : List Cond} {rm : Room} {Pc : Array Value → State → Prop} {Qc : Array Value → State → Outcome → State → Prop} {XC : String → State → State → Prop} {mc ms : Nat} {free : Addr → Prop} {bytes : ByteArray} {maxL : Nat} {ret : Option FieldType} {hh : List (Nat × Nat × Nat × Nat)}
    (hM : vx_Met l y ws rm Pc Qc XC mc ms free) (hblind : FrameBlind Pc) (hrc : rm.cells = mc) (hrs : rm.slots = ms)
    (hframes : rm.frames + 1 ≤ R.frames) (hlocals : W9 + (maxL + 11) + rm.locals ≤ R.locals)
    (hws : ∀ w ∈ ws, ∀ a' U, s.WarmedH U.vm → w.before a' U = true) (hcode : Cond.codeWith y bytes maxL ret hh ∈ ws) (hinit : ∀ a' U, s.WarmedH U.vm → (Cond.initialized y.cls).before a' U = true) :
    vx_Back l R p e below s sargs y len W9 (PreOf R mc ms Pc) (PostOf Qc mc ms free) (vx_Post XC mc ms free) := by
  intro m meth c A g ig mk a X hg hsize hdg hW hn hp
  have h1 : (headSpec ws rm).pre.before a A.U = true := atoms_intro fun w hw => hws w hw _ _ X.warmed
  have h2 : (Cond.codeWith y bytes maxL ret hh).before a A.U = true := hws _ hcode _ _ X.warmed
  have h3 : (Cond.initialized y.cls).before a A.U = true := hinit _ _ X.warmed
  have h4 : A.cells + (headSpec ws rm).room.cells ≤ R.cells := by rw [show (headSpec ws rm).room.cells = mc from hrc]; exact hp.1
  have h5 : A.slots + (headSpec ws rm).room.slots ≤ R.slots := by rw [show (headSpec ws rm).room.slots = ms from hrs]; exact hp.2.1
  have hPc : Pc a (A.U.calling g mk a) := hblind _ _ _ _ hp.2.2
  obtain ⟨U, Ls, c0, s0⟩ := A
  dsimp only [Pt.U, Pt.locs, Pt.cells, Pt.slots] at h1 h2 h3 h4 h5 X hn hPc ⊢
  obtain ⟨m9, methY, cY, hn9, hmY, hcY, -, hlY, -⟩ := Cond.codeWith_spec h2
  cases Option.some.inj (hn9.symm.trans hn)
  obtain ⟨kY, hkY, -⟩ := className_of_methodNamed hn
  have hinitY : kY.init = .initialized := Cond.initialized_spec (findClass_of_methodNamed hn) hkY h3
  have h : At U g.method c below := by rw [hg]; exact X.here
  have hlocals9 : W9 + (maxL + 11) + (headSpec ws rm).room.locals ≤ R.locals := hlocals
  have happ : (headSpec ws rm).appliesLoose y e.platform (U.calling g mk a) = true :=
    Spec.appliesLoose_calling (g := g) h hdg hn hkY hinitY
      (X.room_calling (g := g) (R' := (headSpec ws rm).room) hsize hmY hcY hframes (by rw [hlY]; omega) h4 h5) h1
  obtain ⟨mid, hmid⟩ := h.above
  have hfr : (U.setTop g).frames = (.java g :: mid) ++ below := by rw [State.frames_setTop' g h.top, hmid]; rfl
  obtain ⟨o, s₂, hsteps, -, hend, hq⟩ := Steps.callFree hM p X.admits X.cas X.clock (acts := []) hfr happ hPc trivial
  have hq' : vx_Q Qc XC mc ms free a (U.calling g mk a) o s₂ := hq
  rw [State.frames_setTop' g h.top] at hend
  obtain ⟨g₀, hg0⟩ := Option.isSome_iff_exists.mp h.top
  obtain ⟨r, hr⟩ := State.topJava?_eq_some.mp hg0
  have hr' : (({ U with heap := s₂.heap, slotsUsed := s₂.slotsUsed } : State).setVm s₂.vm).frames = .java g₀ :: r := hr
  rcases hq' with ⟨hqc, L, hfe, hL⟩ | ⟨q, rfl, E, ce, L, hx, hce, hcv, hcl, hW₂, hsm, hL⟩
  · obtain ⟨⟨v, rfl⟩, hW₂, e2, q2, q3, q4, q5, q6⟩ := id hfe
    have e3 : s₂ = ({ (U.calling g mk a).setFrames s₂.frames with heap := s₂.heap, slotsUsed := s₂.slotsUsed } : State).setVm s₂.vm := by
      have : s₂ = ({ s₂ with vm := (U.calling g mk a).vm } : State).setVm s₂.vm := rfl
      rw [e2] at this
      exact this
    obtain ⟨c₂, i₂, len₂, hc₂, hd₂, hf₂⟩ := hend
    have hW' : U.WarmedH s₂.vm := hW₂
    have hcc : c₂ = c := by
      have h1 : s₂.code? g.method = U.code? g.method := by
        rw [State.code?_eq, State.code?_eq, hW'.alike.method?]
      exact Option.some.inj (hc₂.symm.trans (h1.trans h.code))
    subst hcc
    have hlen : len₂ = len := by rw [hdg] at hd₂; cases hd₂; rfl
    subst hlen
    have hs₂ : s₂ = (({ U with heap := s₂.heap, slotsUsed := s₂.slotsUsed } : State).setVm s₂.vm).setTop { g with pc := g.pc + len₂, stack := v.toList ++ g.stack } := by
      refine e3.trans ?_
      rw [hf₂, State.calling_eq h.top, State.setFrames_setFrames, State.setTop_of_frames _ hr', hr]
      rfl
    have hsame : U.sameButNew ({ U with heap := s₂.heap, slotsUsed := s₂.slotsUsed } : State) L mc ms := by
      refine ⟨?_, q2, q3, q4, q5, q6⟩
      obtain ⟨t, ht, -⟩ := State.frames_cons hr
      show ({ U with heap := s₂.heap, slotsUsed := s₂.slotsUsed } : State) = { U.setFrames U.frames with heap := s₂.heap, slotsUsed := s₂.slotsUsed }
      rw [State.setFrames_self ht]
    subst hg
    refine Or.inl ⟨v, ⟨(({ U with heap := s₂.heap, slotsUsed := s₂.slotsUsed } : State).setVm s₂.vm), Ls ++ L, c0 + mc, s0 + ms⟩,
      ⟨X.admits, X.cas, X.clock, X.frames, X.room, X.hears, X.method, X.code, (X.here.setHeapUsed s₂.heap s₂.slotsUsed).setVm hW'.alike, X.tail, State.WarmedH.trans X.warmed hW', X.limits, X.bytes, X.same.trans (hsame.setVm s.vm)⟩,
      ⟨g, mk, s₂, L, rfl, rfl, hqc, rfl, hL, rfl, rfl⟩, ?_⟩
    show Steps p.tables e below _ ((({ U with heap := s₂.heap, slotsUsed := s₂.slotsUsed } : State).setVm s₂.vm).setTop { g with pc := g.pc + len₂, stack := v.toList ++ g.stack })
    rw [← hs₂]
    exact hsteps
  · obtain ⟨e2, q2, q3, q4, q5, q6⟩ := id hsm
    have e3 : s₂ = ({ (U.calling g mk a).setFrames s₂.frames with heap := s₂.heap, slotsUsed := s₂.slotsUsed } : State).setVm s₂.vm := by
      have : s₂ = ({ s₂ with vm := (U.calling g mk a).vm } : State).setVm s₂.vm := rfl
      rw [e2] at this
      exact this
    have hf₂ : s₂.frames = .throwing q :: .java g :: U.frames.tail := hend
    have hW' : U.WarmedH s₂.vm := hW₂
    have hs₂ : s₂ = ((({ U with heap := s₂.heap, slotsUsed := s₂.slotsUsed } : State).setVm s₂.vm).setTop g).pushFrame (.throwing q) := by
      refine e3.trans ?_
      rw [hf₂, State.calling_eq h.top, State.setFrames_setFrames, State.pushFrame, State.frames_setTop _ hr', State.setTop_of_frames _ hr', State.setFrames_setFrames, hr]
      rfl
    have hsame : U.sameButNew ({ U with heap := s₂.heap, slotsUsed := s₂.slotsUsed } : State) L mc ms := by
      refine ⟨?_, q2, q3, q4, q5, q6⟩
      obtain ⟨t, ht, -⟩ := State.frames_cons hr
      show ({ U with heap := s₂.heap, slotsUsed := s₂.slotsUsed } : State) = { U.setFrames U.frames with heap := s₂.heap, slotsUsed := s₂.slotsUsed }
      rw [State.setFrames_self ht]
    subst hg
    refine Or.inr ⟨q, ⟨(({ U with heap := s₂.heap, slotsUsed := s₂.slotsUsed } : State).setVm s₂.vm), Ls ++ L, c0 + mc, s0 + ms⟩,
      ⟨X.admits, X.cas, X.clock, X.frames, X.room, X.hears, X.method, X.code, (X.here.setHeapUsed s₂.heap s₂.slotsUsed).setVm hW'.alike, X.tail, State.WarmedH.trans X.warmed hW', X.limits, X.bytes, X.same.trans (hsame.setVm s.vm)⟩,
      ⟨g, mk, s₂, L, E, ce, rfl, rfl, hx, hce, hcv, hcl, rfl, hL, rfl, rfl⟩, ?_⟩
    show Steps p.tables e below _ (((({ U with heap := s₂.heap, slotsUsed := s₂.slotsUsed } : State).setVm s₂.vm).setTop g).pushFrame (.throwing q))
    rw [← hs₂]
    exact hsteps
end
variable {p : Program} {l : Launch} {e : Env} {R : Room} {s : State} {m : MethodId} {args : Array Value} {below : List Frame} {meth : Method} {c : Code} {T : State} {H : Heap} {locs : List Loc} {cells slots : Nat}
theorem vx_callVX (X : Stand p l e R s m args below meth c T locs cells slots) (hexec : p.tables.exec = Jvm.exec) {own C : String} {index : Nat} {y : MethodName} {bytes : ByteArray} {maxL : Nat} {ret : Option FieldType} {hh : List (Nat × Nat × Nat × Nat)}
    (hown : s.vm.findClass own = some m.cls) (hlink : (Cond.methodLink own index y).before args s = true) (hinst : (Cond.instanceMethod y).before args s = true) (hsel : (Cond.selects C y y).before args s = true)
    (hcode : (Cond.codeWith y bytes maxL ret hh).before args s = true) (hy : y.cls ≠ "java/lang/invoke/MethodHandle" ∧ y.cls ≠ "java/lang/invoke/VarHandle")
    {W9 : Nat} {Pre : Pt → Array Value → Prop} {Post : Pt → Array Value → Option Value → Pt → Prop} {PostX : Pt → Array Value → Addr → Pt → Prop} (hK : vx_Back l R p e below s args y 3 W9 Pre Post PostX)
    {b : Addr} {cellB : Cell} (hcell : T.heap[b]? = some cellB) (hobj : cellB.vm.isStatics = false) (hcls : s.vm.findClass C = some cellB.cls)
    {g : JFrame} (hg : g.method = m) (hsize : g.locals.size = c.maxLocals) {argsL rest : List Value} (hlen : ∀ sig, parseMethodDescriptor y.desc = some sig → argsL.length = sig.parameters.length)
    (hstack : g.stack = argsL.reverse ++ .ref b :: rest) (hW : 2 * g.monitorRoom + (rest.map fun v => v.category).sum ≤ W9) (hdg : decode c.code g.pc = .ok (.invokevirtual index, 3))
    (hpre : ∀ vm₁, s.WarmedH vm₁ → Pre ⟨T.setVm vm₁, locs, cells, slots⟩ (Value.ref b :: argsL).toArray) :
    (∃ (v : Option Value) (vm₁ : Vm) (B : Pt), s.WarmedH vm₁ ∧ Stand p l e R s m args below meth c B.U B.locs B.cells B.slots ∧ Post ⟨T.setVm vm₁, locs, cells, slots⟩ (Value.ref b :: argsL).toArray v B ∧
      ∀ target, Steps p.tables e below (B.U.setTop { g with pc := g.pc + 3, stack := v.toList ++ rest }) target → Steps p.tables e below (T.setTop g) target) ∨
    (∃ (q : Addr) (vm₁ : Vm) (B : Pt), s.WarmedH vm₁ ∧ Stand p l e R s m args below meth c B.U B.locs B.cells B.slots ∧ PostX ⟨T.setVm vm₁, locs, cells, slots⟩ (Value.ref b :: argsL).toArray q B ∧
      Steps p.tables e below (T.setTop g) ((B.U.setTop { g with stack := rest }).pushFrame (.throwing q))) := by
  obtain ⟨mk, methM, hnamed, hmethM, hstM, habM⟩ := Cond.instanceMethod_spec hinst
  obtain ⟨m8, methM', cM, hn8, hmethM', -, -, -, -, -, -, hsigM⟩ := Cond.codeWith_spec hcode
  cases Option.some.inj (hn8.symm.trans hnamed)
  cases hmethM.symm.trans hmethM'
  obtain ⟨c2, r2, m2, q1, q2, q3, q4, kP, hkP, hkPi⟩ := Cond.selects_spec hsel
  cases hcls.symm.trans q1
  cases (State.methodFound?_of_named hnamed hy).symm.trans q2
  cases hnamed.symm.trans q3
  have hselP : selectMethod e.platform s.vm cellB.cls mk = .method mk := by rw [Launch.admits_selectMethod X.admits]; exact q4
  obtain ⟨vm₁, X₁, hstep₁⟩ := X.invokevirtual hexec hown hlink hnamed hmethM hstM hkP hkPi hy (a := b) (cell := cellB) hcell
    (fun z h => by rw [h] at hobj; cases hobj) hselP hmethM habM hkP hkPi (g := g) hg (argsL := argsL) (rest := rest) (hlen _ hsigM) hstack hdg
  rcases hK m meth c ⟨T.setVm vm₁, locs, cells, slots⟩ { g with stack := rest } (.invokevirtual index) mk (Value.ref b :: argsL).toArray X₁ hg hsize hdg hW (X₁.named hnamed) (hpre vm₁ X₁.warmed) with ⟨v, B, X', hpost, hsteps⟩ | ⟨q, B, X', hpost, hsteps⟩
  · exact Or.inl ⟨v, vm₁, B, X₁.warmed, X', hpost, fun target h => hstep₁ _ fun acts => by rw [doInvoke_state]; exact hsteps.trans h⟩
  · exact Or.inr ⟨q, vm₁, B, X₁.warmed, X', hpost, hstep₁ _ fun acts => by rw [doInvoke_state]; exact hsteps⟩
theorem vx_callSX (X : Stand p l e R s m args below meth c T locs cells slots) (hexec : p.tables.exec = Jvm.exec) {own : String} {index : Nat} {y : MethodName} {bytes : ByteArray} {maxL : Nat} {ret : Option FieldType} {hh : List (Nat × Nat × Nat × Nat)}
    (hown : s.vm.findClass own = some m.cls) (hlink : (Cond.methodLink own index y).before args s = true) (hstat : (Cond.static y).before args s = true) (hinit : (Cond.initialized y.cls).before args s = true)
    (hcode : (Cond.codeWith y bytes maxL ret hh).before args s = true) (hy : y.cls ≠ "java/lang/invoke/MethodHandle" ∧ y.cls ≠ "java/lang/invoke/VarHandle")
    {W9 : Nat} {Pre : Pt → Array Value → Prop} {Post : Pt → Array Value → Option Value → Pt → Prop} {PostX : Pt → Array Value → Addr → Pt → Prop} (hK : vx_Back l R p e below s args y 3 W9 Pre Post PostX)
    {g : JFrame} (hg : g.method = m) (hsize : g.locals.size = c.maxLocals) {argsL rest : List Value} (hlen : ∀ sig, parseMethodDescriptor y.desc = some sig → argsL.length = sig.parameters.length)
    (hstack : g.stack = argsL.reverse ++ rest) (hW : 2 * g.monitorRoom + (rest.map fun v => v.category).sum ≤ W9) (hdg : decode c.code g.pc = .ok (.invokestatic index, 3))
    (hpre : ∀ vm₁, s.WarmedH vm₁ → Pre ⟨T.setVm vm₁, locs, cells, slots⟩ argsL.toArray) :
    (∃ (v : Option Value) (vm₁ : Vm) (B : Pt), s.WarmedH vm₁ ∧ Stand p l e R s m args below meth c B.U B.locs B.cells B.slots ∧ Post ⟨T.setVm vm₁, locs, cells, slots⟩ argsL.toArray v B ∧
      ∀ target, Steps p.tables e below (B.U.setTop { g with pc := g.pc + 3, stack := v.toList ++ rest }) target → Steps p.tables e below (T.setTop g) target) ∨
    (∃ (q : Addr) (vm₁ : Vm) (B : Pt), s.WarmedH vm₁ ∧ Stand p l e R s m args below meth c B.U B.locs B.cells B.slots ∧ PostX ⟨T.setVm vm₁, locs, cells, slots⟩ argsL.toArray q B ∧
      Steps p.tables e below (T.setTop g) ((B.U.setTop { g with stack := rest }).pushFrame (.throwing q))) := by
  obtain ⟨mk, methM, cM, hnamed, hmethM, -, -, -, -, -, -, hsigM⟩ := Cond.codeWith_spec hcode
  have hstatic : methM.isStatic = true := Cond.static_spec hnamed hmethM hstat
  obtain ⟨kP, hkP, -⟩ := className_of_methodNamed hnamed
  have hinitP : kP.init = .initialized := Cond.initialized_spec (findClass_of_methodNamed hnamed) hkP hinit
  obtain ⟨vm₁, X₁, hstep₁⟩ := X.invokestatic hexec hown hlink hnamed hmethM hstatic hkP hinitP hy (g := g) hg (argsL := argsL) (rest := rest) (hlen _ hsigM) hstack hdg
  rcases hK m meth c ⟨T.setVm vm₁, locs, cells, slots⟩ { g with stack := rest } (.invokestatic index) mk argsL.toArray X₁ hg hsize hdg hW (X₁.named hnamed) (hpre vm₁ X₁.warmed) with ⟨v, B, X', hpost, hsteps⟩ | ⟨q, B, X', hpost, hsteps⟩
  · exact Or.inl ⟨v, vm₁, B, X₁.warmed, X', hpost, fun target h => hstep₁ _ fun acts => by rw [doInvoke_state]; exact hsteps.trans h⟩
  · exact Or.inr ⟨q, vm₁, B, X₁.warmed, X', hpost, hstep₁ _ fun acts => by rw [doInvoke_state]; exact hsteps⟩
theorem vx_callVW (X : Stand p l e R s m args below meth c T locs cells slots) (hexec : p.tables.exec = Jvm.exec) {own C : String} {index : Nat} {y : MethodName} {bytes : ByteArray} {maxL : Nat} {ret : Option FieldType} {hh : List (Nat × Nat × Nat × Nat)}
    (hown : s.vm.findClass own = some m.cls) (hlink : (Cond.methodLink own index y).before args s = true) (hinst : (Cond.instanceMethod y).before args s = true) (hsel : (Cond.selects C y y).before args s = true)
    (hcode : (Cond.codeWith y bytes maxL ret hh).before args s = true) (hy : y.cls ≠ "java/lang/invoke/MethodHandle" ∧ y.cls ≠ "java/lang/invoke/VarHandle")
    {W9 : Nat} {Pre : Pt → Array Value → Prop} {Post : Pt → Array Value → Option Value → Pt → Prop} (hK : Back l R p e below s args y 3 W9 Pre Post)
    {b : Addr} {cellB : Cell} (hcell : T.heap[b]? = some cellB) (hobj : cellB.vm.isStatics = false) (hcls : s.vm.findClass C = some cellB.cls)
    {g : JFrame} (hg : g.method = m) (hsize : g.locals.size = c.maxLocals) {argsL rest : List Value} (hlen : ∀ sig, parseMethodDescriptor y.desc = some sig → argsL.length = sig.parameters.length)
    (hstack : g.stack = argsL.reverse ++ .ref b :: rest) (hW : 2 * g.monitorRoom + (rest.map fun v => v.category).sum ≤ W9) (hdg : decode c.code g.pc = .ok (.invokevirtual index, 3))
    (hpre : ∀ vm₁, s.WarmedH vm₁ → Pre ⟨T.setVm vm₁, locs, cells, slots⟩ (Value.ref b :: argsL).toArray) :
    ∃ (v : Option Value) (vm₁ : Vm) (B : Pt), s.WarmedH vm₁ ∧ Stand p l e R s m args below meth c B.U B.locs B.cells B.slots ∧ Post ⟨T.setVm vm₁, locs, cells, slots⟩ (Value.ref b :: argsL).toArray v B ∧
      ∀ target, Steps p.tables e below (B.U.setTop { g with pc := g.pc + 3, stack := v.toList ++ rest }) target → Steps p.tables e below (T.setTop g) target := by
  obtain ⟨mk, methM, hnamed, hmethM, hstM, habM⟩ := Cond.instanceMethod_spec hinst
  obtain ⟨m8, methM', cM, hn8, hmethM', -, -, -, -, -, -, hsigM⟩ := Cond.codeWith_spec hcode
  cases Option.some.inj (hn8.symm.trans hnamed)
  cases hmethM.symm.trans hmethM'
  obtain ⟨c2, r2, m2, q1, q2, q3, q4, kP, hkP, hkPi⟩ := Cond.selects_spec hsel
  cases hcls.symm.trans q1
  cases (State.methodFound?_of_named hnamed hy).symm.trans q2
  cases hnamed.symm.trans q3
  have hselP : selectMethod e.platform s.vm cellB.cls mk = .method mk := by rw [Launch.admits_selectMethod X.admits]; exact q4
  obtain ⟨vm₁, X₁, hstep₁⟩ := X.invokevirtual hexec hown hlink hnamed hmethM hstM hkP hkPi hy (a := b) (cell := cellB) hcell
    (fun z h => by rw [h] at hobj; cases hobj) hselP hmethM habM hkP hkPi (g := g) hg (argsL := argsL) (rest := rest) (hlen _ hsigM) hstack hdg
  obtain ⟨v, B, X', hpost, hsteps⟩ := hK m meth c ⟨T.setVm vm₁, locs, cells, slots⟩ { g with stack := rest } (.invokevirtual index) mk (Value.ref b :: argsL).toArray X₁ hg hsize hdg hW (X₁.named hnamed) (hpre vm₁ X₁.warmed)
  exact ⟨v, vm₁, B, X₁.warmed, X', hpost, fun target h => hstep₁ _ fun acts => by rw [doInvoke_state]; exact hsteps.trans h⟩
abbrev vx_CVW (R : Room) (s : State) (args : Array Value) (own C : String) (index : Nat) (y : MethodName) (bytes : ByteArray) (maxL : Nat) (ret : Option FieldType) (hh : List (Nat × Nat × Nat × Nat)) (ws : List Cond) (rm : Room) (mc ms n : Nat) : Prop :=
  (rm.cells = mc ∧ rm.slots = ms ∧ rm.frames + 1 ≤ R.frames ∧ 8 + (maxL + 11) + rm.locals ≤ R.locals ∧ (∀ w ∈ ws, ∀ (a' : Array Value) (U : State), s.WarmedH U.vm → w.before a' U = true) ∧ Cond.codeWith y bytes maxL ret hh ∈ ws) ∧
  (Cond.codeWith y bytes maxL ret hh).before args s = true ∧ (Cond.initialized y.cls).before args s = true ∧ (y.cls ≠ "java/lang/invoke/MethodHandle" ∧ y.cls ≠ "java/lang/invoke/VarHandle") ∧
  (∀ sig, parseMethodDescriptor y.desc = some sig → n = sig.parameters.length) ∧ (Cond.methodLink own index y).before args s = true ∧ (Cond.instanceMethod y).before args s = true ∧ (Cond.selects C y y).before args s = true
theorem vx_cwVW {own C : String} {index maxL mc ms : Nat} {y : MethodName} {bytes : ByteArray} {ret : Option FieldType} {hh : List (Nat × Nat × Nat × Nat)} {Ts ws ws' : List Cond} {rm : Room} (n : Nat) (ht : ∀ w ∈ Ts, w.before args s = true) (hT : GoodIn Ts (wsV own index C y ws)) (hw : ws = Cond.codeWith y bytes maxL ret hh :: ws') (hrc : rm.cells = mc) (hrs : rm.slots = ms)
    (hd : y.cls = C ∧ y.cls ≠ "java/lang/invoke/MethodHandle" ∧ y.cls ≠ "java/lang/invoke/VarHandle" ∧ (parseMethodDescriptor y.desc).map (fun d => d.parameters.length) = some n) (hR : rm.frames + 1 ≤ R.frames ∧ 8 + (maxL + 11) + rm.locals ≤ R.locals) :
    vx_CVW R s args own C index y bytes maxL ret hh ws rm mc ms n := by
  obtain ⟨hC, hd⟩ := hd
  subst hC
  have ok : ∀ w ∈ wsV own index y.cls y ws, w.before args s = true := fun w h => ht w (hT w h).1
  have hG : GoodIn Ts ws := fun w h => hT w (by unfold wsV; exact List.mem_append_right _ h)
  have hc : Cond.codeWith y bytes maxL ret hh ∈ ws := by rw [hw]; exact List.mem_cons_self
  refine ⟨⟨hrc, hrs, hR.1, hR.2, pay_in ht hG, hc⟩, ht _ (hG _ hc).1, ok _ (by simp [wsV]), ⟨hd.1, hd.2.1⟩, fun sig h => ?_, ok _ (by simp [wsV]), ok _ (by simp [wsV]), ok _ (by simp [wsV])⟩
  have h2 := hd.2.2
  rw [h] at h2
  exact (Option.some.inj h2).symm
theorem vx_runVW {y : MethodName} {bytes cc : ByteArray} {maxL nL mc ms n index : Nat} {ret : Option FieldType} {hh : List (Nat × Nat × Nat × Nat)} {ws : List Cond} {rm : Room} {Pc : Array Value → State → Prop} {Qc : Array Value → State → Outcome → State → Prop} {free : Addr → Prop} {Ts : List Cond} {own C : String} {b : Addr} {As rest : List Value} {g : JFrame}
    (S : CallFix p m c cc nL s args Ts own) (hM : Met l y ws rm Pc Qc mc ms free) (cw : vx_CVW R s args own C index y bytes maxL ret hh ws rm mc ms n) (hp : PreV s H C b Pc As)
    (hg : g.method = m) (hn : As.length = n) (hsize : g.locals.size = nL) (hstack : g.stack = As.reverse ++ .ref b :: rest) (hW : 2 * g.monitorRoom + (rest.map fun v => v.category).sum ≤ 8) (hdg : decode cc g.pc = .ok (.invokevirtual index, 3)) (hf : cells + mc ≤ R.cells ∧ slots + ms ≤ R.slots) :
    va_Run p l e R s m args below meth c H locs cells slots mc ms g rest (Qc (Value.ref b :: As).toArray) free := by
  obtain ⟨⟨hrc, hrs, hfr, hlo, hws, hcw⟩, hcode, hini, hy, hlen, hl, hin, hse⟩ := cw
  have hK : Back l R p e below s args y 3 8 (PreOf R mc ms Pc) (PostOf Qc mc ms free) := va_backW (hh := hh) (bytes := bytes) (maxL := maxL) (ret := ret) hM hp.1 hrc hrs hfr hlo hws hcw (fun a' U hW => word_at hW (Or.inl (by first | rfl | simp [Cond.onTables, Cond.keeps, Cond.steady])) hini)
  obtain ⟨hx, hb, hml, ho, -⟩ := S
  obtain ⟨-, ⟨cellB, hcB, hoB, hclB⟩, hPc⟩ := hp
  intro T hT X
  obtain ⟨v, vm₁, ⟨U', l2, c2, s2⟩, hW₁, X', ⟨g', mk, t, L, e1, e2, hq, h1, hL, h2, h3⟩, st⟩ := vx_callVW X hx (C := C) (hh := hh) (bytes := bytes) (maxL := maxL) (ret := ret) ho hl hin hse hcode hy hK (by rw [hT]; exact hcB) hoB hclB hg (hsize.trans hml.symm) (argsL := As) (rest := rest) (fun sig h => hn.trans (hlen sig h)) hstack hW (by rw [hb]; exact hdg)
    (fun vm₁ hW₁ => ⟨hf.1, hf.2, hPc (T.setVm vm₁) hT hW₁⟩)
  dsimp only [Pt.U, Pt.locs, Pt.cells, Pt.slots] at X' e1 e2 h1 h2 h3 st
  subst h1; subst h2; subst h3
  exact ⟨v, (T.setVm vm₁).calling g' mk (Value.ref b :: As).toArray, t, U', L, hT, X', hL, e1, e2, hq, st⟩
section
variable {y : MethodName} {bytes cc : ByteArray} {maxL nL mc ms n index : Nat} {ret : Option FieldType} {ws : List Cond} {rm : Room} {Pc : Array Value → State → Prop} {Qc : Array Value → State → Outcome → State → Prop} {XC : String → State → State → Prop} {free : Addr → Prop} {Ts : List Cond} {own C : String} {b : Addr} {As rest : List Value} {g : JFrame}
theorem vx_runVX {hh : List (Nat × Nat × Nat × Nat)} (S : CallFix p m c cc nL s args Ts own) (hM : vx_Met l y ws rm Pc Qc XC mc ms free) (cw : vx_CVW R s args own C index y bytes maxL ret hh ws rm mc ms n) (hp : PreV s H C b Pc As)
    (hg : g.method = m) (hn : As.length = n) (hsize : g.locals.size = nL) (hstack : g.stack = As.reverse ++ .ref b :: rest) (hW : 2 * g.monitorRoom + (rest.map fun v => v.category).sum ≤ 8) (hdg : decode cc g.pc = .ok (.invokevirtual index, 3)) (hf : cells + mc ≤ R.cells ∧ slots + ms ≤ R.slots) :
    vx_Run p l e R s m args below meth c H locs cells slots mc ms g rest (Qc (Value.ref b :: As).toArray) XC free := by
  obtain ⟨⟨hrc, hrs, hfr, hlo, hws, hcw⟩, hcode, hini, hy, hlen, hl, hin, hse⟩ := cw
  have hK : vx_Back l R p e below s args y 3 8 (PreOf R mc ms Pc) (PostOf Qc mc ms free) (vx_Post XC mc ms free) := vx_backW (hh := hh) (bytes := bytes) (maxL := maxL) (ret := ret) hM hp.1 hrc hrs hfr hlo hws hcw (fun a' U hW => word_at hW (Or.inl (by first | rfl | simp [Cond.onTables, Cond.keeps, Cond.steady])) hini)
  obtain ⟨hx, hb, hml, ho, -⟩ := S
  obtain ⟨-, ⟨cellB, hcB, hoB, hclB⟩, hPc⟩ := hp
  intro T hT X
  rcases vx_callVX X hx (C := C) (hh := hh) (bytes := bytes) (maxL := maxL) (ret := ret) ho hl hin hse hcode hy hK (by rw [hT]; exact hcB) hoB hclB hg (hsize.trans hml.symm) (argsL := As) (rest := rest) (fun sig h => hn.trans (hlen sig h)) hstack hW (by rw [hb]; exact hdg)
    (fun vm₁ hW₁ => ⟨hf.1, hf.2, hPc (T.setVm vm₁) hT hW₁⟩) with ⟨v, vm₁, ⟨U', l2, c2, s2⟩, hW₁, X', ⟨g', mk, t, L, e1, e2, hq, h1, hL, h2, h3⟩, st⟩ | ⟨q, vm₁, ⟨U', l2, c2, s2⟩, hW₁, X', ⟨g', mk, t, L, E, ce, e1, e2, hq, hce, hcv, hcl, h1, hL, h2, h3⟩, st⟩
  · dsimp only [Pt.U, Pt.locs, Pt.cells, Pt.slots] at X' e1 e2 h1 h2 h3 st
    subst h1; subst h2; subst h3
    exact Or.inl ⟨v, (T.setVm vm₁).calling g' mk (Value.ref b :: As).toArray, t, U', L, hT, X', hL, e1, e2, hq, st⟩
  · dsimp only [Pt.U, Pt.locs, Pt.cells, Pt.slots] at X' e1 e2 h1 h2 h3 st hcl
    subst h1; subst h2; subst h3
    exact Or.inr ⟨q, (T.setVm vm₁).calling g' mk (Value.ref b :: As).toArray, t, U', L, E, ce, hT, X', hL, e1, e2, hq, hce, hcv, vx_cls hW₁ hcl, st⟩
theorem vx_runSX {hh : List (Nat × Nat × Nat × Nat)} (S : CallFix p m c cc nL s args Ts own) (hM : vx_Met l y ws rm Pc Qc XC mc ms free) (cw : vx_CSW R s args own index y bytes maxL ret hh ws rm mc ms n) (hp : PreS s H Pc As)
    (hg : g.method = m) (hn : As.length = n) (hsize : g.locals.size = nL) (hstack : g.stack = As.reverse ++ rest) (hW : 2 * g.monitorRoom + (rest.map fun v => v.category).sum ≤ 8) (hdg : decode cc g.pc = .ok (.invokestatic index, 3)) (hf : cells + mc ≤ R.cells ∧ slots + ms ≤ R.slots) :
    vx_Run p l e R s m args below meth c H locs cells slots mc ms g rest (Qc As.toArray) XC free := by
  obtain ⟨⟨hrc, hrs, hfr, hlo, hws, hcw⟩, hcode, hini, hy, hlen, hl, hstt⟩ := cw
  have hK : vx_Back l R p e below s args y 3 8 (PreOf R mc ms Pc) (PostOf Qc mc ms free) (vx_Post XC mc ms free) := vx_backW (hh := hh) (bytes := bytes) (maxL := maxL) (ret := ret) hM hp.1 hrc hrs hfr hlo hws hcw (fun a' U hW => word_at hW (Or.inl (by first | rfl | simp [Cond.onTables, Cond.keeps, Cond.steady])) hini)
  obtain ⟨hx, hb, hml, ho, -⟩ := S
  intro T hT X
  rcases vx_callSX X hx (hh := hh) (bytes := bytes) (maxL := maxL) (ret := ret) ho hl hstt hini hcode hy hK hg (hsize.trans hml.symm) (argsL := As) (rest := rest) (fun sig h => hn.trans (hlen sig h)) hstack hW (by rw [hb]; exact hdg)
    (fun vm₁ hW₁ => ⟨hf.1, hf.2, hp.2 (T.setVm vm₁) hT hW₁⟩) with ⟨v, vm₁, ⟨U', l2, c2, s2⟩, hW₁, X', ⟨g', mk, t, L, e1, e2, hq, h1, hL, h2, h3⟩, st⟩ | ⟨q, vm₁, ⟨U', l2, c2, s2⟩, hW₁, X', ⟨g', mk, t, L, E, ce, e1, e2, hq, hce, hcv, hcl, h1, hL, h2, h3⟩, st⟩
  · dsimp only [Pt.U, Pt.locs, Pt.cells, Pt.slots] at X' e1 e2 h1 h2 h3 st
    subst h1; subst h2; subst h3
    exact Or.inl ⟨v, (T.setVm vm₁).calling g' mk As.toArray, t, U', L, hT, X', hL, e1, e2, hq, st⟩
  · dsimp only [Pt.U, Pt.locs, Pt.cells, Pt.slots] at X' e1 e2 h1 h2 h3 st hcl
    subst h1; subst h2; subst h3
    exact Or.inr ⟨q, (T.setVm vm₁).calling g' mk As.toArray, t, U', L, E, ce, hT, X', hL, e1, e2, hq, hce, hcv, vx_cls hW₁ hcl, st⟩
end
end VXH
theorem vx_ofWH {l : Launch} {y : MethodName} {ws ws' : List Cond} {rm : Room} {Pc : Array Value → State → Prop} {Qc : Array Value → State → Outcome → State → Prop} {XC : String → State → State → Prop} {mc ms : Nat} {free : Addr → Prop} {cc : ByteArray} {maxL : Nat} {ret : Option FieldType} {hh : List (Nat × Nat × Nat × Nat)}
    (hy : plainName y.cls = true) (hw : ws = Cond.codeWith y cc maxL ret hh :: ws')
    (body : ∀ p e s m args below meth c s₁, BodyLoose p l y (headSpec ws rm) cc maxL ret e s m args below meth c s₁ → c.maxLocals = maxL → Pc args s →
      W p l e (headSpec ws rm).room s m args below meth c s.heap [] 0 0 (vx_MQ below Qc XC args s mc ms free) (entryFrame m args maxL)) : vx_Met l y ws rm Pc Qc XC mc ms free := by
  refine MetFree.of_bodyS (code := cc) (maxLocals := maxL) (ret := ret) hy ?_ ?_
  · intro args s m h hn
    obtain ⟨m9, meth, c, hn9, h1, h2, h3, h4, -, h5, h6, -⟩ := Cond.codeWith_spec (atoms_spec (ws := ws) h _ (by rw [hw]; exact List.mem_cons_self))
    cases hn.symm.trans hn9
    exact ⟨meth, c, h1, h2, h3, h4, h5, h6⟩
  · intro p e s m args below meth c s₁ B hml hP _
    have hh0 : s₁.heap = s.heap := by rw [B.state]; rfl
    obtain ⟨t, a1, o, b1, b2, b3⟩ := body p e s m args below meth c s₁ B hml hP s₁ hh0 (Stand.of_body B)
    exact ⟨t, o, a1, b1, b2, b3⟩
/-! ===== END ===== -/
end
section
/-! names: classes, fields, methods; one list of words for all methods: the good ones of the tables -/
def tb_W : List Cond := lw_tbl.filter goodWord
theorem tb_in {w : Cond} (h : w ∈ tables_1) (g : goodWord w = true) : w ∈ tb_W := List.mem_filter.mpr ⟨List.mem_append_right _ h, g⟩
theorem tb_sel {w : Cond} (h : w ∈ k2_sels lw_privs) (g : goodWord w = true) : w ∈ tb_W := List.mem_filter.mpr ⟨List.mem_append_left _ h, g⟩
theorem tb_good {w : Cond} (h : w ∈ tb_W) : (w.onTables && w.keeps) = true ∨ ∃ ty, w = .arrayClass ty := good_of_word (List.mem_filter.mp h).2
theorem ub_I {c c' : Cond} (h : c' ∈ tb_W) : GoodIn (c :: tb_W) (c' :: tb_W) := by
  intro w hw
  rcases List.mem_cons.mp hw with rfl | hw
  · exact ⟨List.mem_cons_of_mem _ h, tb_good h⟩
  · exact ⟨List.mem_cons_of_mem _ hw, tb_good hw⟩
theorem ub_V {c c' : Cond} {own C : String} {idx : Nat} {y : MethodName} (h1 : Cond.methodLink own idx y ∈ tb_W) (h2 : Cond.instanceMethod y ∈ tb_W) (h3 : Cond.selects C y y ∈ tb_W) (h4 : Cond.initialized C ∈ tb_W) (h5 : c' ∈ tb_W) : GoodIn (c :: tb_W) (wsV own idx C y (c' :: tb_W)) := by
  intro w hw
  unfold wsV at hw
  rcases List.mem_append.mp hw with hw | hw
  · have : w ∈ tb_W := by
      rcases List.mem_cons.mp hw with rfl | hw
      · exact h1
      rcases List.mem_cons.mp hw with rfl | hw
      · exact h2
      rcases List.mem_cons.mp hw with rfl | hw
      · exact h3
      rcases List.mem_cons.mp hw with rfl | hw
      · exact h4
      cases hw
    exact ⟨List.mem_cons_of_mem _ this, tb_good this⟩
  · exact ub_I h5 w hw
theorem ub_S {c c' : Cond} {own : String} {idx : Nat} {y : MethodName} (h1 : Cond.methodLink own idx y ∈ tb_W) (h2 : Cond.static y ∈ tb_W) (h4 : Cond.initialized y.cls ∈ tb_W) (h5 : c' ∈ tb_W) : GoodIn (c :: tb_W) (va_wsS own idx y (c' :: tb_W)) := by
  intro w hw
  unfold va_wsS at hw
  rcases List.mem_append.mp hw with hw | hw
  · have : w ∈ tb_W := by
      rcases List.mem_cons.mp hw with rfl | hw
      · exact h1
      rcases List.mem_cons.mp hw with rfl | hw
      · exact h2
      rcases List.mem_cons.mp hw with rfl | hw
      · exact h4
      cases hw
    exact ⟨List.mem_cons_of_mem _ this, tb_good this⟩
  · exact ub_I h5 w hw
abbrev RX0 : String := "SpanDesk$Assembly"
def TX0 : u_T := fun k => match k with
  | 0 => ("SpanDesk$Assembly", "source", "LSpanDesk$Program;", true)
  | 1 => ("SpanDesk$Assembly", "starts", "[I", true)
  | 2 => ("SpanDesk$Assembly", "forms", "[I", true)
  | _ => ("SpanDesk$Assembly", "values", "[I", true)
def tyX0 : Nat → FieldType := fun k => match k with
  | 0 => .object "SpanDesk$Program"
  | 1 => .array .int
  | 2 => .array .int
  | _ => .array .int
theorem nmX0 : ∀ a, a < 4 → ∀ b, b < 4 → a ≠ b → (TX0 a).2.1 ≠ (TX0 b).2.1 := by decide +kernel
theorem tyX0_ok : ∀ k, k < 4 → parseFieldDescriptor (TX0 k).2.2.1 = some (tyX0 k) := by decide +kernel
theorem inX0 : ∀ w ∈ u_ws RX0 TX0 4, w ∈ tb_W := by decide +kernel
abbrev RX1 : String := "SpanDesk$Program"
def TX1 : u_T := fun k => match k with
  | 0 => ("SpanDesk$Program", "kinds", "[I", true)
  | 1 => ("SpanDesk$Program", "firsts", "[I", true)
  | 2 => ("SpanDesk$Program", "seconds", "[I", true)
  | _ => ("SpanDesk$Program", "count", "I", false)
def tyX1 : Nat → FieldType := fun k => match k with
  | 0 => .array .int
  | 1 => .array .int
  | 2 => .array .int
  | _ => .int
theorem nmX1 : ∀ a, a < 4 → ∀ b, b < 4 → a ≠ b → (TX1 a).2.1 ≠ (TX1 b).2.1 := by decide +kernel
theorem tyX1_ok : ∀ k, k < 4 → parseFieldDescriptor (TX1 k).2.2.1 = some (tyX1 k) := by decide +kernel
theorem inX1 : ∀ w ∈ u_ws RX1 TX1 4, w ∈ tb_W := by decide +kernel
abbrev RX2 : String := "SpanDesk"
def TX2 : u_T := fun k => match k with
  | 0 => ("SpanDesk", "program", "LSpanDesk$Program;", true)
  | _ => ("SpanDesk", "assembly", "LSpanDesk$Assembly;", true)
def tyX2 : Nat → FieldType := fun k => match k with
  | 0 => .object "SpanDesk$Program"
  | _ => .object "SpanDesk$Assembly"
theorem nmX2 : ∀ a, a < 2 → ∀ b, b < 2 → a ≠ b → (TX2 a).2.1 ≠ (TX2 b).2.1 := by decide +kernel
theorem tyX2_ok : ∀ k, k < 2 → parseFieldDescriptor (TX2 k).2.2.1 = some (tyX2 k) := by decide +kernel
theorem inX2 : ∀ w ∈ u_ws RX2 TX2 2, w ∈ tb_W := by decide +kernel
abbrev RX3 : String := "SpanDeskModel"
def TX3 : u_T := fun k => match k with
  | 0 => ("SpanDeskModel", "thrown", "I", false)
  | 1 => ("SpanDeskModel", "lines", "I", false)
  | 2 => ("SpanDeskModel", "kind", "[I", true)
  | 3 => ("SpanDeskModel", "a", "[I", true)
  | 4 => ("SpanDeskModel", "b", "[I", true)
  | 5 => ("SpanDeskModel", "made", "I", false)
  | 6 => ("SpanDeskModel", "madeKind", "[I", true)
  | 7 => ("SpanDeskModel", "madeA", "[I", true)
  | 8 => ("SpanDeskModel", "madeB", "[I", true)
  | 9 => ("SpanDeskModel", "size", "[I", true)
  | _ => ("SpanDeskModel", "bytes", "I", false)
def tyX3 : Nat → FieldType := fun k => match k with
  | 0 => .int
  | 1 => .int
  | 2 => .array .int
  | 3 => .array .int
  | 4 => .array .int
  | 5 => .int
  | 6 => .array .int
  | 7 => .array .int
  | 8 => .array .int
  | 9 => .array .int
  | _ => .int
theorem nmX3 : ∀ a, a < 11 → ∀ b, b < 11 → a ≠ b → (TX3 a).2.1 ≠ (TX3 b).2.1 := by decide +kernel
theorem tyX3_ok : ∀ k, k < 11 → parseFieldDescriptor (TX3 k).2.2.1 = some (tyX3 k) := by decide +kernel
theorem inX3 : ∀ w ∈ u_ws RX3 TX3 11, w ∈ tb_W := by decide +kernel
abbrev RJ7 : String := "java/util/Arrays"
abbrev RL : String := "SpanDeskLaw"
abbrev vwCl : List vw_C := [(RX0, TX0, 4), (RX1, TX1, 4), (RX2, TX2, 2), (RX3, TX3, 11)]
abbrev cX2_init : ByteArray := prog_1_method_1_code
abbrev yX2_init : MethodName := ⟨"SpanDesk", "<init>", "()V"⟩
abbrev wsX2_init : List Cond := Cond.code yX2_init cX2_init 1 none :: tb_W
abbrev cX1_init : ByteArray := prog_3_method_1_code
abbrev yX1_init : MethodName := ⟨"SpanDesk$Program", "<init>", "()V"⟩
abbrev wsX1_init : List Cond := Cond.code yX1_init cX1_init 1 none :: tb_W
abbrev cX0_init : ByteArray := prog_2_method_1_code
abbrev yX0_init : MethodName := ⟨"SpanDesk$Assembly", "<init>", "()V"⟩
abbrev wsX0_init : List Cond := Cond.code yX0_init cX0_init 1 none :: tb_W
abbrev cJ7_fill : ByteArray := prog_14_method_103_code
abbrev yJ7_fill : MethodName := ⟨"java/util/Arrays", "fill", "([II)V"⟩
abbrev wsJ7_fill : List Cond := Cond.code yJ7_fill cJ7_fill 4 none :: tb_W
abbrev cX2_insert : ByteArray := prog_1_method_2_code
abbrev yX2_insert : MethodName := ⟨"SpanDesk", "insert", "(IIII)Z"⟩
abbrev wsX2_insert : List Cond := Cond.code yX2_insert cX2_insert 5 (some .boolean) :: tb_W
abbrev cX2_isLine : ByteArray := prog_1_method_14_code
abbrev yX2_isLine : MethodName := ⟨"SpanDesk", "isLine", "(III)Z"⟩
abbrev wsX2_isLine : List Cond := Cond.code yX2_isLine cX2_isLine 3 (some .boolean) :: tb_W
abbrev cX2_isLabel : ByteArray := prog_1_method_15_code
abbrev yX2_isLabel : MethodName := ⟨"SpanDesk", "isLabel", "(I)Z"⟩
abbrev wsX2_isLabel : List Cond := Cond.code yX2_isLabel cX2_isLabel 1 (some .boolean) :: tb_W
abbrev cX2_isWithin : ByteArray := prog_1_method_16_code
abbrev yX2_isWithin : MethodName := ⟨"SpanDesk", "isWithin", "(III)Z"⟩
abbrev wsX2_isWithin : List Cond := Cond.code yX2_isWithin cX2_isWithin 3 (some .boolean) :: tb_W
abbrev cX1_open : ByteArray := prog_3_method_3_code
abbrev yX1_open : MethodName := ⟨"SpanDesk$Program", "open", "(IIII)Z"⟩
abbrev wsX1_open : List Cond := Cond.code yX1_open cX1_open 5 (some .boolean) :: tb_W
abbrev cX1_shift : ByteArray := prog_3_method_5_code
abbrev yX1_shift : MethodName := ⟨"SpanDesk$Program", "shift", "(III)V"⟩
abbrev wsX1_shift : List Cond := Cond.code yX1_shift cX1_shift 4 none :: tb_W
abbrev cX2_remove : ByteArray := prog_1_method_3_code
abbrev yX2_remove : MethodName := ⟨"SpanDesk", "remove", "(I)Z"⟩
abbrev wsX2_remove : List Cond := Cond.code yX2_remove cX2_remove 2 (some .boolean) :: tb_W
abbrev cX1_close : ByteArray := prog_3_method_4_code
abbrev yX1_close : MethodName := ⟨"SpanDesk$Program", "close", "(I)Z"⟩
abbrev wsX1_close : List Cond := Cond.code yX1_close cX1_close 2 (some .boolean) :: tb_W
abbrev cX1_has : ByteArray := prog_3_method_2_code
abbrev yX1_has : MethodName := ⟨"SpanDesk$Program", "has", "(I)Z"⟩
abbrev wsX1_has : List Cond := Cond.code yX1_has cX1_has 2 (some .boolean) :: tb_W
abbrev cX2_lines : ByteArray := prog_1_method_4_code
abbrev yX2_lines : MethodName := ⟨"SpanDesk", "lines", "()I"⟩
abbrev wsX2_lines : List Cond := Cond.code yX2_lines cX2_lines 1 (some .int) :: tb_W
abbrev cX2_at : ByteArray := prog_1_method_6_code
abbrev yX2_at : MethodName := ⟨"SpanDesk", "at", "(I)I"⟩
abbrev wsX2_at : List Cond := Cond.code yX2_at cX2_at 2 (some .int) :: tb_W
abbrev cX0_byteAt : ByteArray := prog_2_method_10_code
abbrev yX0_byteAt : MethodName := ⟨"SpanDesk$Assembly", "byteAt", "(I)I"⟩
abbrev wsX0_byteAt : List Cond := Cond.code yX0_byteAt cX0_byteAt 3 (some .int) :: tb_W
abbrev cX0_lineByte : ByteArray := prog_2_method_11_code
abbrev yX0_lineByte : MethodName := ⟨"SpanDesk$Assembly", "lineByte", "(II)I"⟩
abbrev wsX0_lineByte : List Cond := Cond.code yX0_lineByte cX0_lineByte 4 (some .int) :: tb_W
abbrev cX0_pairByte : ByteArray := prog_2_method_15_code
abbrev yX0_pairByte : MethodName := ⟨"SpanDesk$Assembly", "pairByte", "(II)I"⟩
abbrev wsX0_pairByte : List Cond := Cond.code yX0_pairByte cX0_pairByte 2 (some .int) :: tb_W
abbrev cX0_longByte : ByteArray := prog_2_method_13_code
abbrev yX0_longByte : MethodName := ⟨"SpanDesk$Assembly", "longByte", "(II)I"⟩
abbrev wsX0_longByte : List Cond := Cond.code yX0_longByte cX0_longByte 4 (some .int) :: tb_W
abbrev cX0_lineSize : ByteArray := prog_2_method_7_code
abbrev yX0_lineSize : MethodName := ⟨"SpanDesk$Assembly", "lineSize", "(I)I"⟩
abbrev wsX0_lineSize : List Cond := Cond.code yX0_lineSize cX0_lineSize 3 (some .int) :: tb_W
abbrev cX0_oppositeCode : ByteArray := prog_2_method_14_code
abbrev yX0_oppositeCode : MethodName := ⟨"SpanDesk$Assembly", "oppositeCode", "(I)I"⟩
abbrev wsX0_oppositeCode : List Cond := Cond.code yX0_oppositeCode cX0_oppositeCode 2 (some .int) :: tb_W
abbrev cX0_distance : ByteArray := prog_2_method_8_code
abbrev yX0_distance : MethodName := ⟨"SpanDesk$Assembly", "distance", "(I)I"⟩
abbrev wsX0_distance : List Cond := Cond.code yX0_distance cX0_distance 2 (some .int) :: tb_W
abbrev cX0_shortByte : ByteArray := prog_2_method_12_code
abbrev yX0_shortByte : MethodName := ⟨"SpanDesk$Assembly", "shortByte", "(II)I"⟩
abbrev wsX0_shortByte : List Cond := Cond.code yX0_shortByte cX0_shortByte 3 (some .int) :: tb_W
abbrev cX2_address : ByteArray := prog_1_method_7_code
abbrev yX2_address : MethodName := ⟨"SpanDesk", "address", "(I)I"⟩
abbrev wsX2_address : List Cond := Cond.code yX2_address cX2_address 2 (some .int) :: tb_W
abbrev cX2_form : ByteArray := prog_1_method_8_code
abbrev yX2_form : MethodName := ⟨"SpanDesk", "form", "(I)I"⟩
abbrev wsX2_form : List Cond := Cond.code yX2_form cX2_form 2 (some .int) :: tb_W
abbrev cX2_longs : ByteArray := prog_1_method_9_code
abbrev yX2_longs : MethodName := ⟨"SpanDesk", "longs", "()I"⟩
abbrev wsX2_longs : List Cond := Cond.code yX2_longs cX2_longs 1 (some .int) :: tb_W
abbrev cX0_countLong : ByteArray := prog_2_method_9_code
abbrev yX0_countLong : MethodName := ⟨"SpanDesk$Assembly", "countLong", "()I"⟩
abbrev wsX0_countLong : List Cond := Cond.code yX0_countLong cX0_countLong 3 (some .int) :: tb_W
abbrev cX2_value : ByteArray := prog_1_method_10_code
abbrev yX2_value : MethodName := ⟨"SpanDesk", "value", "(I)I"⟩
abbrev wsX2_value : List Cond := Cond.code yX2_value cX2_value 2 (some .int) :: tb_W
abbrev cX2_jumps : ByteArray := prog_1_method_12_code
abbrev yX2_jumps : MethodName := ⟨"SpanDesk", "jumps", "(I)Z"⟩
abbrev wsX2_jumps : List Cond := Cond.code yX2_jumps cX2_jumps 2 (some .boolean) :: tb_W
abbrev cX0_operationSize : ByteArray := prog_2_method_16_code
abbrev yX0_operationSize : MethodName := ⟨"SpanDesk$Assembly", "operationSize", "(I)I"⟩
abbrev wsX0_operationSize : List Cond := Cond.code yX0_operationSize cX0_operationSize 4 (some .int) :: tb_W
abbrev cX0_size : ByteArray := prog_2_method_2_code
abbrev yX0_size : MethodName := ⟨"SpanDesk$Assembly", "size", "()I"⟩
abbrev wsX0_size : List Cond := Cond.code yX0_size cX0_size 1 (some .int) :: tb_W
abbrev cX2_trace : ByteArray := prog_1_method_13_code
abbrev yX2_trace : MethodName := ⟨"SpanDesk", "trace", "(III)I"⟩
abbrev wsX2_trace : List Cond := Cond.code yX2_trace cX2_trace 8 (some .int) :: tb_W
abbrev cX0_goesAlways : ByteArray := prog_2_method_17_code
abbrev yX0_goesAlways : MethodName := ⟨"SpanDesk$Assembly", "goesAlways", "(I)Z"⟩
abbrev wsX0_goesAlways : List Cond := Cond.code yX0_goesAlways cX0_goesAlways 3 (some .boolean) :: tb_W
abbrev cX0_target : ByteArray := prog_2_method_18_code
abbrev yX0_target : MethodName := ⟨"SpanDesk$Assembly", "target", "(II)I"⟩
abbrev wsX0_target : List Cond := Cond.code yX0_target cX0_target 4 (some .int) :: tb_W
abbrev cL_assemble : ByteArray := method_3_code
abbrev yL_assemble : MethodName := ⟨"SpanDeskLaw", "assemble", "(LSpanDesk;[J)I"⟩
abbrev wsL_assemble : List Cond := Cond.codeWith yL_assemble cL_assemble 3 (some .int) [(0, 8, 11, 13), (0, 8, 14, 15)] :: tb_W
abbrev cX2_assemble : ByteArray := prog_1_method_5_code
abbrev yX2_assemble : MethodName := ⟨"SpanDesk", "assemble", "()I"⟩
abbrev wsX2_assemble : List Cond := Cond.code yX2_assemble cX2_assemble 1 (some .int) :: tb_W
abbrev cX1_definesTwice : ByteArray := prog_3_method_7_code
abbrev yX1_definesTwice : MethodName := ⟨"SpanDesk$Program", "definesTwice", "()Z"⟩
abbrev wsX1_definesTwice : List Cond := Cond.code yX1_definesTwice cX1_definesTwice 2 (some .boolean) :: tb_W
abbrev cX1_countDefined : ByteArray := prog_3_method_9_code
abbrev yX1_countDefined : MethodName := ⟨"SpanDesk$Program", "countDefined", "(I)I"⟩
abbrev wsX1_countDefined : List Cond := Cond.code yX1_countDefined cX1_countDefined 4 (some .int) :: tb_W
abbrev cX1_namesUndefined : ByteArray := prog_3_method_8_code
abbrev yX1_namesUndefined : MethodName := ⟨"SpanDesk$Program", "namesUndefined", "()Z"⟩
abbrev wsX1_namesUndefined : List Cond := Cond.code yX1_namesUndefined cX1_namesUndefined 3 (some .boolean) :: tb_W
abbrev cX0_make : ByteArray := prog_2_method_3_code
abbrev yX0_make : MethodName := ⟨"SpanDesk$Assembly", "make", "(LSpanDesk$Program;)V"⟩
abbrev wsX0_make : List Cond := Cond.code yX0_make cX0_make 3 none :: tb_W
abbrev cX1_copyFrom : ByteArray := prog_3_method_6_code
abbrev yX1_copyFrom : MethodName := ⟨"SpanDesk$Program", "copyFrom", "(LSpanDesk$Program;)V"⟩
abbrev wsX1_copyFrom : List Cond := Cond.code yX1_copyFrom cX1_copyFrom 2 none :: tb_W
abbrev cX0_makeAllShort : ByteArray := prog_2_method_4_code
abbrev yX0_makeAllShort : MethodName := ⟨"SpanDesk$Assembly", "makeAllShort", "()V"⟩
abbrev wsX0_makeAllShort : List Cond := Cond.code yX0_makeAllShort cX0_makeAllShort 2 none :: tb_W
abbrev cX0_place : ByteArray := prog_2_method_5_code
abbrev yX0_place : MethodName := ⟨"SpanDesk$Assembly", "place", "()V"⟩
abbrev wsX0_place : List Cond := Cond.code yX0_place cX0_place 3 none :: tb_W
abbrev cX0_lengthen : ByteArray := prog_2_method_6_code
abbrev yX0_lengthen : MethodName := ⟨"SpanDesk$Assembly", "lengthen", "()Z"⟩
abbrev wsX0_lengthen : List Cond := Cond.code yX0_lengthen cX0_lengthen 3 (some .boolean) :: tb_W
abbrev cL_follow : ByteArray := method_4_code
abbrev yL_follow : MethodName := ⟨"SpanDeskLaw", "follow", "(LSpanDesk;IZ[J)I"⟩
abbrev wsL_follow : List Cond := Cond.codeWith yL_follow cL_follow 5 (some .int) [(0, 10, 13, 21)] :: tb_W
abbrev cX2_follow : ByteArray := prog_1_method_11_code
abbrev yX2_follow : MethodName := ⟨"SpanDesk", "follow", "(IZ)I"⟩
abbrev wsX2_follow : List Cond := Cond.code yX2_follow cX2_follow 4 (some .int) :: tb_W
abbrev cX3_init : ByteArray := prog_5_method_1_code
abbrev yX3_init : MethodName := ⟨"SpanDeskModel", "<init>", "()V"⟩
abbrev wsX3_init : List Cond := Cond.code yX3_init cX3_init 1 none :: tb_W
abbrev cX3_thrown : ByteArray := prog_5_method_2_code
abbrev yX3_thrown : MethodName := ⟨"SpanDeskModel", "thrown", "()I"⟩
abbrev wsX3_thrown : List Cond := Cond.code yX3_thrown cX3_thrown 1 (some .int) :: tb_W
abbrev cX3_insert : ByteArray := prog_5_method_5_code
abbrev yX3_insert : MethodName := ⟨"SpanDeskModel", "insert", "(IIII)Z"⟩
abbrev wsX3_insert : List Cond := Cond.code yX3_insert cX3_insert 6 (some .boolean) :: tb_W
abbrev cX3_good : ByteArray := prog_5_method_4_code
abbrev yX3_good : MethodName := ⟨"SpanDeskModel", "good", "(III)Z"⟩
abbrev wsX3_good : List Cond := Cond.code yX3_good cX3_good 3 (some .boolean) :: tb_W
abbrev cX3_in : ByteArray := prog_5_method_3_code
abbrev yX3_in : MethodName := ⟨"SpanDeskModel", "in", "(III)Z"⟩
abbrev wsX3_in : List Cond := Cond.code yX3_in cX3_in 3 (some .boolean) :: tb_W
abbrev cX3_remove : ByteArray := prog_5_method_6_code
abbrev yX3_remove : MethodName := ⟨"SpanDeskModel", "remove", "(I)Z"⟩
abbrev wsX3_remove : List Cond := Cond.code yX3_remove cX3_remove 3 (some .boolean) :: tb_W
abbrev cX3_lines : ByteArray := prog_5_method_7_code
abbrev yX3_lines : MethodName := ⟨"SpanDeskModel", "lines", "()I"⟩
abbrev wsX3_lines : List Cond := Cond.code yX3_lines cX3_lines 1 (some .int) :: tb_W
abbrev cX3_assemble : ByteArray := prog_5_method_13_code
abbrev yX3_assemble : MethodName := ⟨"SpanDeskModel", "assemble", "()I"⟩
abbrev wsX3_assemble : List Cond := Cond.code yX3_assemble cX3_assemble 4 (some .int) :: tb_W
abbrev cX3_wrong : ByteArray := prog_5_method_9_code
abbrev yX3_wrong : MethodName := ⟨"SpanDeskModel", "wrong", "()I"⟩
abbrev wsX3_wrong : List Cond := Cond.code yX3_wrong cX3_wrong 3 (some .int) :: tb_W
abbrev cX3_definitions : ByteArray := prog_5_method_8_code
abbrev yX3_definitions : MethodName := ⟨"SpanDeskModel", "definitions", "(I)I"⟩
abbrev wsX3_definitions : List Cond := Cond.code yX3_definitions cX3_definitions 4 (some .int) :: tb_W
abbrev cX3_span : ByteArray := prog_5_method_12_code
abbrev yX3_span : MethodName := ⟨"SpanDeskModel", "span", "(I)I"⟩
abbrev wsX3_span : List Cond := Cond.code yX3_span cX3_span 2 (some .int) :: tb_W
abbrev cX3_labelled : ByteArray := prog_5_method_11_code
abbrev yX3_labelled : MethodName := ⟨"SpanDeskModel", "labelled", "(I)I"⟩
abbrev wsX3_labelled : List Cond := Cond.code yX3_labelled cX3_labelled 3 (some .int) :: tb_W
abbrev cX3_place : ByteArray := prog_5_method_10_code
abbrev yX3_place : MethodName := ⟨"SpanDeskModel", "place", "(I)I"⟩
abbrev wsX3_place : List Cond := Cond.code yX3_place cX3_place 4 (some .int) :: tb_W
abbrev cX3_at : ByteArray := prog_5_method_16_code
abbrev yX3_at : MethodName := ⟨"SpanDeskModel", "at", "(I)I"⟩
abbrev wsX3_at : List Cond := Cond.code yX3_at cX3_at 2 (some .int) :: tb_W
abbrev cX3_byteAt : ByteArray := prog_5_method_15_code
abbrev yX3_byteAt : MethodName := ⟨"SpanDeskModel", "byteAt", "(I)I"⟩
abbrev wsX3_byteAt : List Cond := Cond.code yX3_byteAt cX3_byteAt 5 (some .int) :: tb_W
abbrev cX3_jumpByte : ByteArray := prog_5_method_14_code
abbrev yX3_jumpByte : MethodName := ⟨"SpanDeskModel", "jumpByte", "(II)I"⟩
abbrev wsX3_jumpByte : List Cond := Cond.code yX3_jumpByte cX3_jumpByte 7 (some .int) :: tb_W
abbrev cX3_address : ByteArray := prog_5_method_17_code
abbrev yX3_address : MethodName := ⟨"SpanDeskModel", "address", "(I)I"⟩
abbrev wsX3_address : List Cond := Cond.code yX3_address cX3_address 2 (some .int) :: tb_W
abbrev cX3_form : ByteArray := prog_5_method_18_code
abbrev yX3_form : MethodName := ⟨"SpanDeskModel", "form", "(I)I"⟩
abbrev wsX3_form : List Cond := Cond.code yX3_form cX3_form 2 (some .int) :: tb_W
abbrev cX3_longs : ByteArray := prog_5_method_19_code
abbrev yX3_longs : MethodName := ⟨"SpanDeskModel", "longs", "()I"⟩
abbrev wsX3_longs : List Cond := Cond.code yX3_longs cX3_longs 3 (some .int) :: tb_W
abbrev cX3_value : ByteArray := prog_5_method_20_code
abbrev yX3_value : MethodName := ⟨"SpanDeskModel", "value", "(I)I"⟩
abbrev wsX3_value : List Cond := Cond.code yX3_value cX3_value 2 (some .int) :: tb_W
abbrev cX3_follow : ByteArray := prog_5_method_23_code
abbrev yX3_follow : MethodName := ⟨"SpanDeskModel", "follow", "(IZ)I"⟩
abbrev wsX3_follow : List Cond := Cond.code yX3_follow cX3_follow 3 (some .int) :: tb_W
abbrev cX3_length : ByteArray := prog_5_method_21_code
abbrev yX3_length : MethodName := ⟨"SpanDeskModel", "length", "(I)I"⟩
abbrev wsX3_length : List Cond := Cond.code yX3_length cX3_length 4 (some .int) :: tb_W
abbrev cX3_next : ByteArray := prog_5_method_22_code
abbrev yX3_next : MethodName := ⟨"SpanDeskModel", "next", "(IZ)I"⟩
abbrev wsX3_next : List Cond := Cond.code yX3_next cX3_next 7 (some .int) :: tb_W
abbrev cX3_jumps : ByteArray := prog_5_method_24_code
abbrev yX3_jumps : MethodName := ⟨"SpanDeskModel", "jumps", "(I)Z"⟩
abbrev wsX3_jumps : List Cond := Cond.code yX3_jumps cX3_jumps 2 (some .boolean) :: tb_W
abbrev cX3_trace : ByteArray := prog_5_method_25_code
abbrev yX3_trace : MethodName := ⟨"SpanDeskModel", "trace", "(III)I"⟩
abbrev wsX3_trace : List Cond := Cond.code yX3_trace cX3_trace 8 (some .int) :: tb_W
theorem tm_0 : Cond.initialized "SpanDeskLaw" ∈ tb_W := tb_in (List.mem_of_getElem? (i := 0) (by decide +kernel)) (by decide +kernel)
theorem tm_1 : Cond.initialized "SpanDesk" ∈ tb_W := tb_in (List.mem_of_getElem? (i := 1) (by decide +kernel)) (by decide +kernel)
theorem tm_2 : Cond.initialized "SpanDesk$Program" ∈ tb_W := tb_in (List.mem_of_getElem? (i := 2) (by decide +kernel)) (by decide +kernel)
theorem tm_3 : Cond.initialized "SpanDesk$Assembly" ∈ tb_W := tb_in (List.mem_of_getElem? (i := 3) (by decide +kernel)) (by decide +kernel)
theorem tm_4 : Cond.initialized "java/util/Arrays" ∈ tb_W := tb_in (List.mem_of_getElem? (i := 4) (by decide +kernel)) (by decide +kernel)
theorem tm_5 : Cond.initialized "SpanDeskModel" ∈ tb_W := tb_in (List.mem_of_getElem? (i := 5) (by decide +kernel)) (by decide +kernel)
theorem tm_6 : Cond.initialized "java/lang/System" ∈ tb_W := tb_in (List.mem_of_getElem? (i := 6) (by decide +kernel)) (by decide +kernel)
theorem tm_7 : Cond.initialized "java/lang/Throwable" ∈ tb_W := tb_in (List.mem_of_getElem? (i := 7) (by decide +kernel)) (by decide +kernel)
theorem tm_8 : Cond.initialized "java/lang/Exception" ∈ tb_W := tb_in (List.mem_of_getElem? (i := 8) (by decide +kernel)) (by decide +kernel)
theorem tm_9 : Cond.initialized "java/lang/RuntimeException" ∈ tb_W := tb_in (List.mem_of_getElem? (i := 9) (by decide +kernel)) (by decide +kernel)
theorem tm_10 : Cond.initialized "java/lang/IllegalArgumentException" ∈ tb_W := tb_in (List.mem_of_getElem? (i := 10) (by decide +kernel)) (by decide +kernel)
theorem tm_11 : Cond.initialized "java/lang/IllegalStateException" ∈ tb_W := tb_in (List.mem_of_getElem? (i := 11) (by decide +kernel)) (by decide +kernel)
theorem tm_12 : Cond.initialized "java/lang/IndexOutOfBoundsException" ∈ tb_W := tb_in (List.mem_of_getElem? (i := 12) (by decide +kernel)) (by decide +kernel)
theorem tm_13 : Cond.classLink "SpanDeskLaw" 8 "SpanDesk" ∈ tb_W := tb_in (List.mem_of_getElem? (i := 13) (by decide +kernel)) (by decide +kernel)
theorem tm_14 : Cond.instantiable "SpanDesk" 2 ∈ tb_W := tb_in (List.mem_of_getElem? (i := 14) (by decide +kernel)) (by decide +kernel)
theorem tm_15 : Cond.methodLink "SpanDeskLaw" 23 ⟨"SpanDesk", "<init>", "()V"⟩ ∈ tb_W := tb_in (List.mem_of_getElem? (i := 15) (by decide +kernel)) (by decide +kernel)
theorem tm_16 : Cond.instanceMethod ⟨"SpanDesk", "<init>", "()V"⟩ ∈ tb_W := tb_in (List.mem_of_getElem? (i := 16) (by decide +kernel)) (by decide +kernel)
theorem tm_17 : Cond.code ⟨"SpanDesk", "<init>", "()V"⟩ prog_1_method_1_code 1 (Option.none : Option Jvm.ClassFile.FieldType) ∈ tb_W := tb_in (List.mem_of_getElem? (i := 17) (by decide +kernel)) (by decide +kernel)
theorem tm_18 : Cond.methodLink "SpanDesk" 1 ⟨"java/lang/Object", "<init>", "()V"⟩ ∈ tb_W := tb_in (List.mem_of_getElem? (i := 18) (by decide +kernel)) (by decide +kernel)
theorem tm_19 : Cond.instanceMethod ⟨"java/lang/Object", "<init>", "()V"⟩ ∈ tb_W := tb_in (List.mem_of_getElem? (i := 19) (by decide +kernel)) (by decide +kernel)
theorem tm_20 : Cond.code ⟨"java/lang/Object", "<init>", "()V"⟩ object_method_1_code 1 (Option.none : Option Jvm.ClassFile.FieldType) ∈ tb_W := tb_in (List.mem_of_getElem? (i := 20) (by decide +kernel)) (by decide +kernel)
theorem tm_21 : Cond.classLink "SpanDesk" 7 "SpanDesk$Program" ∈ tb_W := tb_in (List.mem_of_getElem? (i := 21) (by decide +kernel)) (by decide +kernel)
theorem tm_22 : Cond.instantiable "SpanDesk$Program" 4 ∈ tb_W := tb_in (List.mem_of_getElem? (i := 22) (by decide +kernel)) (by decide +kernel)
theorem tm_23 : Cond.methodLink "SpanDesk" 9 ⟨"SpanDesk$Program", "<init>", "()V"⟩ ∈ tb_W := tb_in (List.mem_of_getElem? (i := 23) (by decide +kernel)) (by decide +kernel)
theorem tm_24 : Cond.instanceMethod ⟨"SpanDesk$Program", "<init>", "()V"⟩ ∈ tb_W := tb_in (List.mem_of_getElem? (i := 24) (by decide +kernel)) (by decide +kernel)
theorem tm_25 : Cond.code ⟨"SpanDesk$Program", "<init>", "()V"⟩ prog_3_method_1_code 1 (Option.none : Option Jvm.ClassFile.FieldType) ∈ tb_W := tb_in (List.mem_of_getElem? (i := 25) (by decide +kernel)) (by decide +kernel)
theorem tm_26 : Cond.methodLink "SpanDesk$Program" 3 ⟨"java/lang/Object", "<init>", "()V"⟩ ∈ tb_W := tb_in (List.mem_of_getElem? (i := 26) (by decide +kernel)) (by decide +kernel)
theorem tm_27 : Cond.fieldLink "SpanDesk$Program" 9 "SpanDesk$Program" "kinds" "[I" ∈ tb_W := tb_in (List.mem_of_getElem? (i := 27) (by decide +kernel)) (by decide +kernel)
theorem tm_29 : Cond.fieldLink "SpanDesk$Program" 15 "SpanDesk$Program" "firsts" "[I" ∈ tb_W := tb_in (List.mem_of_getElem? (i := 29) (by decide +kernel)) (by decide +kernel)
theorem tm_31 : Cond.fieldLink "SpanDesk$Program" 18 "SpanDesk$Program" "seconds" "[I" ∈ tb_W := tb_in (List.mem_of_getElem? (i := 31) (by decide +kernel)) (by decide +kernel)
theorem tm_33 : Cond.fieldLink "SpanDesk$Program" 21 "SpanDesk$Program" "count" "I" ∈ tb_W := tb_in (List.mem_of_getElem? (i := 33) (by decide +kernel)) (by decide +kernel)
theorem tm_45 : Cond.arrayClass Jvm.ClassFile.FieldType.int ∈ tb_W := tb_in (List.mem_of_getElem? (i := 45) (by decide +kernel)) (by decide +kernel)
theorem tm_46 : Cond.classLink "SpanDesk" 16 "SpanDesk$Assembly" ∈ tb_W := tb_in (List.mem_of_getElem? (i := 46) (by decide +kernel)) (by decide +kernel)
theorem tm_47 : Cond.instantiable "SpanDesk$Assembly" 4 ∈ tb_W := tb_in (List.mem_of_getElem? (i := 47) (by decide +kernel)) (by decide +kernel)
theorem tm_48 : Cond.methodLink "SpanDesk" 18 ⟨"SpanDesk$Assembly", "<init>", "()V"⟩ ∈ tb_W := tb_in (List.mem_of_getElem? (i := 48) (by decide +kernel)) (by decide +kernel)
theorem tm_49 : Cond.instanceMethod ⟨"SpanDesk$Assembly", "<init>", "()V"⟩ ∈ tb_W := tb_in (List.mem_of_getElem? (i := 49) (by decide +kernel)) (by decide +kernel)
theorem tm_50 : Cond.code ⟨"SpanDesk$Assembly", "<init>", "()V"⟩ prog_2_method_1_code 1 (Option.none : Option Jvm.ClassFile.FieldType) ∈ tb_W := tb_in (List.mem_of_getElem? (i := 50) (by decide +kernel)) (by decide +kernel)
theorem tm_51 : Cond.methodLink "SpanDesk$Assembly" 3 ⟨"java/lang/Object", "<init>", "()V"⟩ ∈ tb_W := tb_in (List.mem_of_getElem? (i := 51) (by decide +kernel)) (by decide +kernel)
theorem tm_52 : Cond.classLink "SpanDesk$Assembly" 9 "SpanDesk$Program" ∈ tb_W := tb_in (List.mem_of_getElem? (i := 52) (by decide +kernel)) (by decide +kernel)
theorem tm_53 : Cond.methodLink "SpanDesk$Assembly" 11 ⟨"SpanDesk$Program", "<init>", "()V"⟩ ∈ tb_W := tb_in (List.mem_of_getElem? (i := 53) (by decide +kernel)) (by decide +kernel)
theorem tm_54 : Cond.methodLink "SpanDesk$Assembly" 28 ⟨"java/util/Arrays", "fill", "([II)V"⟩ ∈ tb_W := tb_in (List.mem_of_getElem? (i := 54) (by decide +kernel)) (by decide +kernel)
theorem tm_55 : Cond.static ⟨"java/util/Arrays", "fill", "([II)V"⟩ ∈ tb_W := tb_in (List.mem_of_getElem? (i := 55) (by decide +kernel)) (by decide +kernel)
theorem tm_56 : Cond.code ⟨"java/util/Arrays", "fill", "([II)V"⟩ prog_14_method_103_code 4 (Option.none : Option Jvm.ClassFile.FieldType) ∈ tb_W := tb_in (List.mem_of_getElem? (i := 56) (by decide +kernel)) (by decide +kernel)
theorem tm_57 : Cond.fieldLink "SpanDesk$Assembly" 12 "SpanDesk$Assembly" "source" "LSpanDesk$Program;" ∈ tb_W := tb_in (List.mem_of_getElem? (i := 57) (by decide +kernel)) (by decide +kernel)
theorem tm_59 : Cond.fieldLink "SpanDesk$Assembly" 18 "SpanDesk$Assembly" "starts" "[I" ∈ tb_W := tb_in (List.mem_of_getElem? (i := 59) (by decide +kernel)) (by decide +kernel)
theorem tm_61 : Cond.fieldLink "SpanDesk$Assembly" 22 "SpanDesk$Assembly" "forms" "[I" ∈ tb_W := tb_in (List.mem_of_getElem? (i := 61) (by decide +kernel)) (by decide +kernel)
theorem tm_63 : Cond.fieldLink "SpanDesk$Assembly" 25 "SpanDesk$Assembly" "values" "[I" ∈ tb_W := tb_in (List.mem_of_getElem? (i := 63) (by decide +kernel)) (by decide +kernel)
theorem tm_74 : Cond.fieldLink "SpanDesk" 10 "SpanDesk" "program" "LSpanDesk$Program;" ∈ tb_W := tb_in (List.mem_of_getElem? (i := 74) (by decide +kernel)) (by decide +kernel)
theorem tm_75 : Cond.fieldLink "SpanDesk" 19 "SpanDesk" "assembly" "LSpanDesk$Assembly;" ∈ tb_W := tb_in (List.mem_of_getElem? (i := 75) (by decide +kernel)) (by decide +kernel)
theorem tm_81 : Cond.methodLink "SpanDeskLaw" 27 ⟨"SpanDesk", "insert", "(IIII)Z"⟩ ∈ tb_W := tb_in (List.mem_of_getElem? (i := 81) (by decide +kernel)) (by decide +kernel)
theorem tm_82 : Cond.instanceMethod ⟨"SpanDesk", "insert", "(IIII)Z"⟩ ∈ tb_W := tb_in (List.mem_of_getElem? (i := 82) (by decide +kernel)) (by decide +kernel)
theorem tm_83 : Cond.selects "SpanDesk" ⟨"SpanDesk", "insert", "(IIII)Z"⟩ ⟨"SpanDesk", "insert", "(IIII)Z"⟩ ∈ tb_W := tb_in (List.mem_of_getElem? (i := 83) (by decide +kernel)) (by decide +kernel)
theorem tm_84 : Cond.code ⟨"SpanDesk", "insert", "(IIII)Z"⟩ prog_1_method_2_code 5 (Option.some Jvm.ClassFile.FieldType.boolean) ∈ tb_W := tb_in (List.mem_of_getElem? (i := 84) (by decide +kernel)) (by decide +kernel)
theorem tm_85 : Cond.methodLink "SpanDesk" 23 ⟨"SpanDesk", "isLine", "(III)Z"⟩ ∈ tb_W := tb_in (List.mem_of_getElem? (i := 85) (by decide +kernel)) (by decide +kernel)
theorem tm_86 : Cond.static ⟨"SpanDesk", "isLine", "(III)Z"⟩ ∈ tb_W := tb_in (List.mem_of_getElem? (i := 86) (by decide +kernel)) (by decide +kernel)
theorem tm_87 : Cond.code ⟨"SpanDesk", "isLine", "(III)Z"⟩ prog_1_method_14_code 3 (Option.some Jvm.ClassFile.FieldType.boolean) ∈ tb_W := tb_in (List.mem_of_getElem? (i := 87) (by decide +kernel)) (by decide +kernel)
theorem tm_88 : Cond.methodLink "SpanDesk" 86 ⟨"SpanDesk", "isLabel", "(I)Z"⟩ ∈ tb_W := tb_in (List.mem_of_getElem? (i := 88) (by decide +kernel)) (by decide +kernel)
theorem tm_89 : Cond.static ⟨"SpanDesk", "isLabel", "(I)Z"⟩ ∈ tb_W := tb_in (List.mem_of_getElem? (i := 89) (by decide +kernel)) (by decide +kernel)
theorem tm_90 : Cond.code ⟨"SpanDesk", "isLabel", "(I)Z"⟩ prog_1_method_15_code 1 (Option.some Jvm.ClassFile.FieldType.boolean) ∈ tb_W := tb_in (List.mem_of_getElem? (i := 90) (by decide +kernel)) (by decide +kernel)
theorem tm_91 : Cond.methodLink "SpanDesk" 107 ⟨"SpanDesk", "isWithin", "(III)Z"⟩ ∈ tb_W := tb_in (List.mem_of_getElem? (i := 91) (by decide +kernel)) (by decide +kernel)
theorem tm_92 : Cond.static ⟨"SpanDesk", "isWithin", "(III)Z"⟩ ∈ tb_W := tb_in (List.mem_of_getElem? (i := 92) (by decide +kernel)) (by decide +kernel)
theorem tm_93 : Cond.code ⟨"SpanDesk", "isWithin", "(III)Z"⟩ prog_1_method_16_code 3 (Option.some Jvm.ClassFile.FieldType.boolean) ∈ tb_W := tb_in (List.mem_of_getElem? (i := 93) (by decide +kernel)) (by decide +kernel)
theorem tm_94 : Cond.methodLink "SpanDesk" 27 ⟨"SpanDesk$Program", "open", "(IIII)Z"⟩ ∈ tb_W := tb_in (List.mem_of_getElem? (i := 94) (by decide +kernel)) (by decide +kernel)
theorem tm_95 : Cond.instanceMethod ⟨"SpanDesk$Program", "open", "(IIII)Z"⟩ ∈ tb_W := tb_in (List.mem_of_getElem? (i := 95) (by decide +kernel)) (by decide +kernel)
theorem tm_96 : Cond.selects "SpanDesk$Program" ⟨"SpanDesk$Program", "open", "(IIII)Z"⟩ ⟨"SpanDesk$Program", "open", "(IIII)Z"⟩ ∈ tb_W := tb_in (List.mem_of_getElem? (i := 96) (by decide +kernel)) (by decide +kernel)
theorem tm_97 : Cond.code ⟨"SpanDesk$Program", "open", "(IIII)Z"⟩ prog_3_method_3_code 5 (Option.some Jvm.ClassFile.FieldType.boolean) ∈ tb_W := tb_in (List.mem_of_getElem? (i := 97) (by decide +kernel)) (by decide +kernel)
theorem tm_98 : Cond.methodLink "SpanDesk$Program" 25 ⟨"SpanDesk$Program", "shift", "(III)V"⟩ ∈ tb_W := tb_in (List.mem_of_getElem? (i := 98) (by decide +kernel)) (by decide +kernel)
theorem tm_100 : Cond.instanceMethod ⟨"SpanDesk$Program", "shift", "(III)V"⟩ ∈ tb_W := tb_in (List.mem_of_getElem? (i := 100) (by decide +kernel)) (by decide +kernel)
theorem tm_101 : Cond.code ⟨"SpanDesk$Program", "shift", "(III)V"⟩ prog_3_method_5_code 4 (Option.none : Option Jvm.ClassFile.FieldType) ∈ tb_W := tb_in (List.mem_of_getElem? (i := 101) (by decide +kernel)) (by decide +kernel)
theorem tm_102 : Cond.methodLink "SpanDesk$Program" 33 ⟨"java/lang/System", "arraycopy", "(Ljava/lang/Object;ILjava/lang/Object;II)V"⟩ ∈ tb_W := tb_in (List.mem_of_getElem? (i := 102) (by decide +kernel)) (by decide +kernel)
theorem tm_103 : Cond.static ⟨"java/lang/System", "arraycopy", "(Ljava/lang/Object;ILjava/lang/Object;II)V"⟩ ∈ tb_W := tb_in (List.mem_of_getElem? (i := 103) (by decide +kernel)) (by decide +kernel)
theorem tm_104 : Cond.native ⟨"java/lang/System", "arraycopy", "(Ljava/lang/Object;ILjava/lang/Object;II)V"⟩ ∈ tb_W := tb_in (List.mem_of_getElem? (i := 104) (by decide +kernel)) (by decide +kernel)
theorem tm_105 : Cond.methodLink "SpanDeskLaw" 32 ⟨"SpanDesk", "remove", "(I)Z"⟩ ∈ tb_W := tb_in (List.mem_of_getElem? (i := 105) (by decide +kernel)) (by decide +kernel)
theorem tm_106 : Cond.instanceMethod ⟨"SpanDesk", "remove", "(I)Z"⟩ ∈ tb_W := tb_in (List.mem_of_getElem? (i := 106) (by decide +kernel)) (by decide +kernel)
theorem tm_107 : Cond.selects "SpanDesk" ⟨"SpanDesk", "remove", "(I)Z"⟩ ⟨"SpanDesk", "remove", "(I)Z"⟩ ∈ tb_W := tb_in (List.mem_of_getElem? (i := 107) (by decide +kernel)) (by decide +kernel)
theorem tm_108 : Cond.code ⟨"SpanDesk", "remove", "(I)Z"⟩ prog_1_method_3_code 2 (Option.some Jvm.ClassFile.FieldType.boolean) ∈ tb_W := tb_in (List.mem_of_getElem? (i := 108) (by decide +kernel)) (by decide +kernel)
theorem tm_109 : Cond.methodLink "SpanDesk" 31 ⟨"SpanDesk$Program", "close", "(I)Z"⟩ ∈ tb_W := tb_in (List.mem_of_getElem? (i := 109) (by decide +kernel)) (by decide +kernel)
theorem tm_110 : Cond.instanceMethod ⟨"SpanDesk$Program", "close", "(I)Z"⟩ ∈ tb_W := tb_in (List.mem_of_getElem? (i := 110) (by decide +kernel)) (by decide +kernel)
theorem tm_111 : Cond.selects "SpanDesk$Program" ⟨"SpanDesk$Program", "close", "(I)Z"⟩ ⟨"SpanDesk$Program", "close", "(I)Z"⟩ ∈ tb_W := tb_in (List.mem_of_getElem? (i := 111) (by decide +kernel)) (by decide +kernel)
theorem tm_112 : Cond.code ⟨"SpanDesk$Program", "close", "(I)Z"⟩ prog_3_method_4_code 2 (Option.some Jvm.ClassFile.FieldType.boolean) ∈ tb_W := tb_in (List.mem_of_getElem? (i := 112) (by decide +kernel)) (by decide +kernel)
theorem tm_113 : Cond.methodLink "SpanDesk$Program" 29 ⟨"SpanDesk$Program", "has", "(I)Z"⟩ ∈ tb_W := tb_in (List.mem_of_getElem? (i := 113) (by decide +kernel)) (by decide +kernel)
theorem tm_114 : Cond.instanceMethod ⟨"SpanDesk$Program", "has", "(I)Z"⟩ ∈ tb_W := tb_in (List.mem_of_getElem? (i := 114) (by decide +kernel)) (by decide +kernel)
theorem tm_115 : Cond.selects "SpanDesk$Program" ⟨"SpanDesk$Program", "has", "(I)Z"⟩ ⟨"SpanDesk$Program", "has", "(I)Z"⟩ ∈ tb_W := tb_in (List.mem_of_getElem? (i := 115) (by decide +kernel)) (by decide +kernel)
theorem tm_116 : Cond.code ⟨"SpanDesk$Program", "has", "(I)Z"⟩ prog_3_method_2_code 2 (Option.some Jvm.ClassFile.FieldType.boolean) ∈ tb_W := tb_in (List.mem_of_getElem? (i := 116) (by decide +kernel)) (by decide +kernel)
theorem tm_117 : Cond.methodLink "SpanDeskLaw" 37 ⟨"SpanDesk", "lines", "()I"⟩ ∈ tb_W := tb_in (List.mem_of_getElem? (i := 117) (by decide +kernel)) (by decide +kernel)
theorem tm_118 : Cond.instanceMethod ⟨"SpanDesk", "lines", "()I"⟩ ∈ tb_W := tb_in (List.mem_of_getElem? (i := 118) (by decide +kernel)) (by decide +kernel)
theorem tm_119 : Cond.selects "SpanDesk" ⟨"SpanDesk", "lines", "()I"⟩ ⟨"SpanDesk", "lines", "()I"⟩ ∈ tb_W := tb_in (List.mem_of_getElem? (i := 119) (by decide +kernel)) (by decide +kernel)
theorem tm_120 : Cond.code ⟨"SpanDesk", "lines", "()I"⟩ prog_1_method_4_code 1 (Option.some Jvm.ClassFile.FieldType.int) ∈ tb_W := tb_in (List.mem_of_getElem? (i := 120) (by decide +kernel)) (by decide +kernel)
theorem tm_121 : Cond.methodLink "SpanDeskLaw" 50 ⟨"SpanDesk", "at", "(I)I"⟩ ∈ tb_W := tb_in (List.mem_of_getElem? (i := 121) (by decide +kernel)) (by decide +kernel)
theorem tm_122 : Cond.instanceMethod ⟨"SpanDesk", "at", "(I)I"⟩ ∈ tb_W := tb_in (List.mem_of_getElem? (i := 122) (by decide +kernel)) (by decide +kernel)
theorem tm_123 : Cond.selects "SpanDesk" ⟨"SpanDesk", "at", "(I)I"⟩ ⟨"SpanDesk", "at", "(I)I"⟩ ∈ tb_W := tb_in (List.mem_of_getElem? (i := 123) (by decide +kernel)) (by decide +kernel)
theorem tm_124 : Cond.code ⟨"SpanDesk", "at", "(I)I"⟩ prog_1_method_6_code 2 (Option.some Jvm.ClassFile.FieldType.int) ∈ tb_W := tb_in (List.mem_of_getElem? (i := 124) (by decide +kernel)) (by decide +kernel)
theorem tm_125 : Cond.methodLink "SpanDesk" 66 ⟨"SpanDesk$Assembly", "byteAt", "(I)I"⟩ ∈ tb_W := tb_in (List.mem_of_getElem? (i := 125) (by decide +kernel)) (by decide +kernel)
theorem tm_126 : Cond.instanceMethod ⟨"SpanDesk$Assembly", "byteAt", "(I)I"⟩ ∈ tb_W := tb_in (List.mem_of_getElem? (i := 126) (by decide +kernel)) (by decide +kernel)
theorem tm_127 : Cond.selects "SpanDesk$Assembly" ⟨"SpanDesk$Assembly", "byteAt", "(I)I"⟩ ⟨"SpanDesk$Assembly", "byteAt", "(I)I"⟩ ∈ tb_W := tb_in (List.mem_of_getElem? (i := 127) (by decide +kernel)) (by decide +kernel)
theorem tm_128 : Cond.code ⟨"SpanDesk$Assembly", "byteAt", "(I)I"⟩ prog_2_method_10_code 3 (Option.some Jvm.ClassFile.FieldType.int) ∈ tb_W := tb_in (List.mem_of_getElem? (i := 128) (by decide +kernel)) (by decide +kernel)
theorem tm_129 : Cond.methodLink "SpanDesk$Assembly" 72 ⟨"SpanDesk$Assembly", "lineByte", "(II)I"⟩ ∈ tb_W := tb_in (List.mem_of_getElem? (i := 129) (by decide +kernel)) (by decide +kernel)
theorem tm_131 : Cond.instanceMethod ⟨"SpanDesk$Assembly", "lineByte", "(II)I"⟩ ∈ tb_W := tb_in (List.mem_of_getElem? (i := 131) (by decide +kernel)) (by decide +kernel)
theorem tm_132 : Cond.code ⟨"SpanDesk$Assembly", "lineByte", "(II)I"⟩ prog_2_method_11_code 4 (Option.some Jvm.ClassFile.FieldType.int) ∈ tb_W := tb_in (List.mem_of_getElem? (i := 132) (by decide +kernel)) (by decide +kernel)
theorem tm_133 : Cond.methodLink "SpanDesk$Assembly" 76 ⟨"SpanDesk$Assembly", "pairByte", "(II)I"⟩ ∈ tb_W := tb_in (List.mem_of_getElem? (i := 133) (by decide +kernel)) (by decide +kernel)
theorem tm_134 : Cond.static ⟨"SpanDesk$Assembly", "pairByte", "(II)I"⟩ ∈ tb_W := tb_in (List.mem_of_getElem? (i := 134) (by decide +kernel)) (by decide +kernel)
theorem tm_135 : Cond.code ⟨"SpanDesk$Assembly", "pairByte", "(II)I"⟩ prog_2_method_15_code 2 (Option.some Jvm.ClassFile.FieldType.int) ∈ tb_W := tb_in (List.mem_of_getElem? (i := 135) (by decide +kernel)) (by decide +kernel)
theorem tm_136 : Cond.methodLink "SpanDesk$Assembly" 79 ⟨"SpanDesk$Assembly", "longByte", "(II)I"⟩ ∈ tb_W := tb_in (List.mem_of_getElem? (i := 136) (by decide +kernel)) (by decide +kernel)
theorem tm_138 : Cond.instanceMethod ⟨"SpanDesk$Assembly", "longByte", "(II)I"⟩ ∈ tb_W := tb_in (List.mem_of_getElem? (i := 138) (by decide +kernel)) (by decide +kernel)
theorem tm_139 : Cond.code ⟨"SpanDesk$Assembly", "longByte", "(II)I"⟩ prog_2_method_13_code 4 (Option.some Jvm.ClassFile.FieldType.int) ∈ tb_W := tb_in (List.mem_of_getElem? (i := 139) (by decide +kernel)) (by decide +kernel)
theorem tm_140 : Cond.methodLink "SpanDesk$Assembly" 58 ⟨"SpanDesk$Assembly", "lineSize", "(I)I"⟩ ∈ tb_W := tb_in (List.mem_of_getElem? (i := 140) (by decide +kernel)) (by decide +kernel)
theorem tm_142 : Cond.instanceMethod ⟨"SpanDesk$Assembly", "lineSize", "(I)I"⟩ ∈ tb_W := tb_in (List.mem_of_getElem? (i := 142) (by decide +kernel)) (by decide +kernel)
theorem tm_143 : Cond.code ⟨"SpanDesk$Assembly", "lineSize", "(I)I"⟩ prog_2_method_7_code 3 (Option.some Jvm.ClassFile.FieldType.int) ∈ tb_W := tb_in (List.mem_of_getElem? (i := 143) (by decide +kernel)) (by decide +kernel)
theorem tm_144 : Cond.methodLink "SpanDesk$Assembly" 85 ⟨"SpanDesk$Assembly", "oppositeCode", "(I)I"⟩ ∈ tb_W := tb_in (List.mem_of_getElem? (i := 144) (by decide +kernel)) (by decide +kernel)
theorem tm_145 : Cond.static ⟨"SpanDesk$Assembly", "oppositeCode", "(I)I"⟩ ∈ tb_W := tb_in (List.mem_of_getElem? (i := 145) (by decide +kernel)) (by decide +kernel)
theorem tm_146 : Cond.code ⟨"SpanDesk$Assembly", "oppositeCode", "(I)I"⟩ prog_2_method_14_code 2 (Option.some Jvm.ClassFile.FieldType.int) ∈ tb_W := tb_in (List.mem_of_getElem? (i := 146) (by decide +kernel)) (by decide +kernel)
theorem tm_147 : Cond.methodLink "SpanDesk$Assembly" 62 ⟨"SpanDesk$Assembly", "distance", "(I)I"⟩ ∈ tb_W := tb_in (List.mem_of_getElem? (i := 147) (by decide +kernel)) (by decide +kernel)
theorem tm_149 : Cond.instanceMethod ⟨"SpanDesk$Assembly", "distance", "(I)I"⟩ ∈ tb_W := tb_in (List.mem_of_getElem? (i := 149) (by decide +kernel)) (by decide +kernel)
theorem tm_150 : Cond.code ⟨"SpanDesk$Assembly", "distance", "(I)I"⟩ prog_2_method_8_code 2 (Option.some Jvm.ClassFile.FieldType.int) ∈ tb_W := tb_in (List.mem_of_getElem? (i := 150) (by decide +kernel)) (by decide +kernel)
theorem tm_151 : Cond.methodLink "SpanDesk$Assembly" 82 ⟨"SpanDesk$Assembly", "shortByte", "(II)I"⟩ ∈ tb_W := tb_in (List.mem_of_getElem? (i := 151) (by decide +kernel)) (by decide +kernel)
theorem tm_153 : Cond.instanceMethod ⟨"SpanDesk$Assembly", "shortByte", "(II)I"⟩ ∈ tb_W := tb_in (List.mem_of_getElem? (i := 153) (by decide +kernel)) (by decide +kernel)
theorem tm_154 : Cond.code ⟨"SpanDesk$Assembly", "shortByte", "(II)I"⟩ prog_2_method_12_code 3 (Option.some Jvm.ClassFile.FieldType.int) ∈ tb_W := tb_in (List.mem_of_getElem? (i := 154) (by decide +kernel)) (by decide +kernel)
theorem tm_155 : Cond.methodLink "SpanDeskLaw" 55 ⟨"SpanDesk", "address", "(I)I"⟩ ∈ tb_W := tb_in (List.mem_of_getElem? (i := 155) (by decide +kernel)) (by decide +kernel)
theorem tm_156 : Cond.instanceMethod ⟨"SpanDesk", "address", "(I)I"⟩ ∈ tb_W := tb_in (List.mem_of_getElem? (i := 156) (by decide +kernel)) (by decide +kernel)
theorem tm_157 : Cond.selects "SpanDesk" ⟨"SpanDesk", "address", "(I)I"⟩ ⟨"SpanDesk", "address", "(I)I"⟩ ∈ tb_W := tb_in (List.mem_of_getElem? (i := 157) (by decide +kernel)) (by decide +kernel)
theorem tm_158 : Cond.code ⟨"SpanDesk", "address", "(I)I"⟩ prog_1_method_7_code 2 (Option.some Jvm.ClassFile.FieldType.int) ∈ tb_W := tb_in (List.mem_of_getElem? (i := 158) (by decide +kernel)) (by decide +kernel)
theorem tm_159 : Cond.methodLink "SpanDesk" 73 ⟨"SpanDesk$Program", "has", "(I)Z"⟩ ∈ tb_W := tb_in (List.mem_of_getElem? (i := 159) (by decide +kernel)) (by decide +kernel)
theorem tm_160 : Cond.methodLink "SpanDeskLaw" 59 ⟨"SpanDesk", "form", "(I)I"⟩ ∈ tb_W := tb_in (List.mem_of_getElem? (i := 160) (by decide +kernel)) (by decide +kernel)
theorem tm_161 : Cond.instanceMethod ⟨"SpanDesk", "form", "(I)I"⟩ ∈ tb_W := tb_in (List.mem_of_getElem? (i := 161) (by decide +kernel)) (by decide +kernel)
theorem tm_162 : Cond.selects "SpanDesk" ⟨"SpanDesk", "form", "(I)I"⟩ ⟨"SpanDesk", "form", "(I)I"⟩ ∈ tb_W := tb_in (List.mem_of_getElem? (i := 162) (by decide +kernel)) (by decide +kernel)
theorem tm_163 : Cond.code ⟨"SpanDesk", "form", "(I)I"⟩ prog_1_method_8_code 2 (Option.some Jvm.ClassFile.FieldType.int) ∈ tb_W := tb_in (List.mem_of_getElem? (i := 163) (by decide +kernel)) (by decide +kernel)
theorem tm_164 : Cond.methodLink "SpanDeskLaw" 63 ⟨"SpanDesk", "longs", "()I"⟩ ∈ tb_W := tb_in (List.mem_of_getElem? (i := 164) (by decide +kernel)) (by decide +kernel)
theorem tm_165 : Cond.instanceMethod ⟨"SpanDesk", "longs", "()I"⟩ ∈ tb_W := tb_in (List.mem_of_getElem? (i := 165) (by decide +kernel)) (by decide +kernel)
theorem tm_166 : Cond.selects "SpanDesk" ⟨"SpanDesk", "longs", "()I"⟩ ⟨"SpanDesk", "longs", "()I"⟩ ∈ tb_W := tb_in (List.mem_of_getElem? (i := 166) (by decide +kernel)) (by decide +kernel)
theorem tm_167 : Cond.code ⟨"SpanDesk", "longs", "()I"⟩ prog_1_method_9_code 1 (Option.some Jvm.ClassFile.FieldType.int) ∈ tb_W := tb_in (List.mem_of_getElem? (i := 167) (by decide +kernel)) (by decide +kernel)
theorem tm_168 : Cond.methodLink "SpanDesk" 83 ⟨"SpanDesk$Assembly", "countLong", "()I"⟩ ∈ tb_W := tb_in (List.mem_of_getElem? (i := 168) (by decide +kernel)) (by decide +kernel)
theorem tm_169 : Cond.instanceMethod ⟨"SpanDesk$Assembly", "countLong", "()I"⟩ ∈ tb_W := tb_in (List.mem_of_getElem? (i := 169) (by decide +kernel)) (by decide +kernel)
theorem tm_170 : Cond.selects "SpanDesk$Assembly" ⟨"SpanDesk$Assembly", "countLong", "()I"⟩ ⟨"SpanDesk$Assembly", "countLong", "()I"⟩ ∈ tb_W := tb_in (List.mem_of_getElem? (i := 170) (by decide +kernel)) (by decide +kernel)
theorem tm_171 : Cond.code ⟨"SpanDesk$Assembly", "countLong", "()I"⟩ prog_2_method_9_code 3 (Option.some Jvm.ClassFile.FieldType.int) ∈ tb_W := tb_in (List.mem_of_getElem? (i := 171) (by decide +kernel)) (by decide +kernel)
theorem tm_172 : Cond.methodLink "SpanDeskLaw" 67 ⟨"SpanDesk", "value", "(I)I"⟩ ∈ tb_W := tb_in (List.mem_of_getElem? (i := 172) (by decide +kernel)) (by decide +kernel)
theorem tm_173 : Cond.instanceMethod ⟨"SpanDesk", "value", "(I)I"⟩ ∈ tb_W := tb_in (List.mem_of_getElem? (i := 173) (by decide +kernel)) (by decide +kernel)
theorem tm_174 : Cond.selects "SpanDesk" ⟨"SpanDesk", "value", "(I)I"⟩ ⟨"SpanDesk", "value", "(I)I"⟩ ∈ tb_W := tb_in (List.mem_of_getElem? (i := 174) (by decide +kernel)) (by decide +kernel)
theorem tm_175 : Cond.code ⟨"SpanDesk", "value", "(I)I"⟩ prog_1_method_10_code 2 (Option.some Jvm.ClassFile.FieldType.int) ∈ tb_W := tb_in (List.mem_of_getElem? (i := 175) (by decide +kernel)) (by decide +kernel)
theorem tm_176 : Cond.methodLink "SpanDeskLaw" 75 ⟨"SpanDesk", "jumps", "(I)Z"⟩ ∈ tb_W := tb_in (List.mem_of_getElem? (i := 176) (by decide +kernel)) (by decide +kernel)
theorem tm_177 : Cond.instanceMethod ⟨"SpanDesk", "jumps", "(I)Z"⟩ ∈ tb_W := tb_in (List.mem_of_getElem? (i := 177) (by decide +kernel)) (by decide +kernel)
theorem tm_178 : Cond.selects "SpanDesk" ⟨"SpanDesk", "jumps", "(I)Z"⟩ ⟨"SpanDesk", "jumps", "(I)Z"⟩ ∈ tb_W := tb_in (List.mem_of_getElem? (i := 178) (by decide +kernel)) (by decide +kernel)
theorem tm_179 : Cond.code ⟨"SpanDesk", "jumps", "(I)Z"⟩ prog_1_method_12_code 2 (Option.some Jvm.ClassFile.FieldType.boolean) ∈ tb_W := tb_in (List.mem_of_getElem? (i := 179) (by decide +kernel)) (by decide +kernel)
theorem tm_180 : Cond.methodLink "SpanDesk" 92 ⟨"SpanDesk$Assembly", "operationSize", "(I)I"⟩ ∈ tb_W := tb_in (List.mem_of_getElem? (i := 180) (by decide +kernel)) (by decide +kernel)
theorem tm_181 : Cond.instanceMethod ⟨"SpanDesk$Assembly", "operationSize", "(I)I"⟩ ∈ tb_W := tb_in (List.mem_of_getElem? (i := 181) (by decide +kernel)) (by decide +kernel)
theorem tm_182 : Cond.selects "SpanDesk$Assembly" ⟨"SpanDesk$Assembly", "operationSize", "(I)I"⟩ ⟨"SpanDesk$Assembly", "operationSize", "(I)I"⟩ ∈ tb_W := tb_in (List.mem_of_getElem? (i := 182) (by decide +kernel)) (by decide +kernel)
theorem tm_183 : Cond.code ⟨"SpanDesk$Assembly", "operationSize", "(I)I"⟩ prog_2_method_16_code 4 (Option.some Jvm.ClassFile.FieldType.int) ∈ tb_W := tb_in (List.mem_of_getElem? (i := 183) (by decide +kernel)) (by decide +kernel)
theorem tm_184 : Cond.methodLink "SpanDesk$Assembly" 88 ⟨"SpanDesk$Assembly", "byteAt", "(I)I"⟩ ∈ tb_W := tb_in (List.mem_of_getElem? (i := 184) (by decide +kernel)) (by decide +kernel)
theorem tm_186 : Cond.methodLink "SpanDesk$Assembly" 91 ⟨"SpanDesk$Assembly", "size", "()I"⟩ ∈ tb_W := tb_in (List.mem_of_getElem? (i := 186) (by decide +kernel)) (by decide +kernel)
theorem tm_187 : Cond.instanceMethod ⟨"SpanDesk$Assembly", "size", "()I"⟩ ∈ tb_W := tb_in (List.mem_of_getElem? (i := 187) (by decide +kernel)) (by decide +kernel)
theorem tm_188 : Cond.selects "SpanDesk$Assembly" ⟨"SpanDesk$Assembly", "size", "()I"⟩ ⟨"SpanDesk$Assembly", "size", "()I"⟩ ∈ tb_W := tb_in (List.mem_of_getElem? (i := 188) (by decide +kernel)) (by decide +kernel)
theorem tm_189 : Cond.code ⟨"SpanDesk$Assembly", "size", "()I"⟩ prog_2_method_2_code 1 (Option.some Jvm.ClassFile.FieldType.int) ∈ tb_W := tb_in (List.mem_of_getElem? (i := 189) (by decide +kernel)) (by decide +kernel)
theorem tm_190 : Cond.methodLink "SpanDeskLaw" 79 ⟨"SpanDesk", "trace", "(III)I"⟩ ∈ tb_W := tb_in (List.mem_of_getElem? (i := 190) (by decide +kernel)) (by decide +kernel)
theorem tm_191 : Cond.instanceMethod ⟨"SpanDesk", "trace", "(III)I"⟩ ∈ tb_W := tb_in (List.mem_of_getElem? (i := 191) (by decide +kernel)) (by decide +kernel)
theorem tm_192 : Cond.selects "SpanDesk" ⟨"SpanDesk", "trace", "(III)I"⟩ ⟨"SpanDesk", "trace", "(III)I"⟩ ∈ tb_W := tb_in (List.mem_of_getElem? (i := 192) (by decide +kernel)) (by decide +kernel)
theorem tm_193 : Cond.code ⟨"SpanDesk", "trace", "(III)I"⟩ prog_1_method_13_code 8 (Option.some Jvm.ClassFile.FieldType.int) ∈ tb_W := tb_in (List.mem_of_getElem? (i := 193) (by decide +kernel)) (by decide +kernel)
theorem tm_194 : Cond.methodLink "SpanDesk" 104 ⟨"SpanDesk$Assembly", "goesAlways", "(I)Z"⟩ ∈ tb_W := tb_in (List.mem_of_getElem? (i := 194) (by decide +kernel)) (by decide +kernel)
theorem tm_195 : Cond.instanceMethod ⟨"SpanDesk$Assembly", "goesAlways", "(I)Z"⟩ ∈ tb_W := tb_in (List.mem_of_getElem? (i := 195) (by decide +kernel)) (by decide +kernel)
theorem tm_196 : Cond.selects "SpanDesk$Assembly" ⟨"SpanDesk$Assembly", "goesAlways", "(I)Z"⟩ ⟨"SpanDesk$Assembly", "goesAlways", "(I)Z"⟩ ∈ tb_W := tb_in (List.mem_of_getElem? (i := 196) (by decide +kernel)) (by decide +kernel)
theorem tm_197 : Cond.code ⟨"SpanDesk$Assembly", "goesAlways", "(I)Z"⟩ prog_2_method_17_code 3 (Option.some Jvm.ClassFile.FieldType.boolean) ∈ tb_W := tb_in (List.mem_of_getElem? (i := 197) (by decide +kernel)) (by decide +kernel)
theorem tm_198 : Cond.methodLink "SpanDesk" 100 ⟨"SpanDesk$Assembly", "target", "(II)I"⟩ ∈ tb_W := tb_in (List.mem_of_getElem? (i := 198) (by decide +kernel)) (by decide +kernel)
theorem tm_199 : Cond.instanceMethod ⟨"SpanDesk$Assembly", "target", "(II)I"⟩ ∈ tb_W := tb_in (List.mem_of_getElem? (i := 199) (by decide +kernel)) (by decide +kernel)
theorem tm_200 : Cond.selects "SpanDesk$Assembly" ⟨"SpanDesk$Assembly", "target", "(II)I"⟩ ⟨"SpanDesk$Assembly", "target", "(II)I"⟩ ∈ tb_W := tb_in (List.mem_of_getElem? (i := 200) (by decide +kernel)) (by decide +kernel)
theorem tm_201 : Cond.code ⟨"SpanDesk$Assembly", "target", "(II)I"⟩ prog_2_method_18_code 4 (Option.some Jvm.ClassFile.FieldType.int) ∈ tb_W := tb_in (List.mem_of_getElem? (i := 201) (by decide +kernel)) (by decide +kernel)
theorem tm_202 : Cond.methodLink "SpanDeskLaw" 41 ⟨"SpanDeskLaw", "assemble", "(LSpanDesk;[J)I"⟩ ∈ tb_W := tb_in (List.mem_of_getElem? (i := 202) (by decide +kernel)) (by decide +kernel)
theorem tm_203 : Cond.static ⟨"SpanDeskLaw", "assemble", "(LSpanDesk;[J)I"⟩ ∈ tb_W := tb_in (List.mem_of_getElem? (i := 203) (by decide +kernel)) (by decide +kernel)
theorem tm_204 : Cond.codeWith ⟨"SpanDeskLaw", "assemble", "(LSpanDesk;[J)I"⟩ method_3_code 3 (Option.some Jvm.ClassFile.FieldType.int) [(0, 8, 11, 13), (0, 8, 14, 15)] ∈ tb_W := tb_in (List.mem_of_getElem? (i := 204) (by decide +kernel)) (by decide +kernel)
theorem tm_205 : Cond.classLink "SpanDeskLaw" 13 "java/lang/IllegalArgumentException" ∈ tb_W := tb_in (List.mem_of_getElem? (i := 205) (by decide +kernel)) (by decide +kernel)
theorem tm_206 : Cond.classLink "SpanDeskLaw" 15 "java/lang/IllegalStateException" ∈ tb_W := tb_in (List.mem_of_getElem? (i := 206) (by decide +kernel)) (by decide +kernel)
theorem tm_207 : Cond.methodLink "SpanDeskLaw" 7 ⟨"SpanDesk", "assemble", "()I"⟩ ∈ tb_W := tb_in (List.mem_of_getElem? (i := 207) (by decide +kernel)) (by decide +kernel)
theorem tm_208 : Cond.instanceMethod ⟨"SpanDesk", "assemble", "()I"⟩ ∈ tb_W := tb_in (List.mem_of_getElem? (i := 208) (by decide +kernel)) (by decide +kernel)
theorem tm_209 : Cond.selects "SpanDesk" ⟨"SpanDesk", "assemble", "()I"⟩ ⟨"SpanDesk", "assemble", "()I"⟩ ∈ tb_W := tb_in (List.mem_of_getElem? (i := 209) (by decide +kernel)) (by decide +kernel)
theorem tm_210 : Cond.code ⟨"SpanDesk", "assemble", "()I"⟩ prog_1_method_5_code 1 (Option.some Jvm.ClassFile.FieldType.int) ∈ tb_W := tb_in (List.mem_of_getElem? (i := 210) (by decide +kernel)) (by decide +kernel)
theorem tm_211 : Cond.methodLink "SpanDesk" 39 ⟨"SpanDesk$Program", "definesTwice", "()Z"⟩ ∈ tb_W := tb_in (List.mem_of_getElem? (i := 211) (by decide +kernel)) (by decide +kernel)
theorem tm_212 : Cond.instanceMethod ⟨"SpanDesk$Program", "definesTwice", "()Z"⟩ ∈ tb_W := tb_in (List.mem_of_getElem? (i := 212) (by decide +kernel)) (by decide +kernel)
theorem tm_213 : Cond.selects "SpanDesk$Program" ⟨"SpanDesk$Program", "definesTwice", "()Z"⟩ ⟨"SpanDesk$Program", "definesTwice", "()Z"⟩ ∈ tb_W := tb_in (List.mem_of_getElem? (i := 213) (by decide +kernel)) (by decide +kernel)
theorem tm_214 : Cond.code ⟨"SpanDesk$Program", "definesTwice", "()Z"⟩ prog_3_method_7_code 2 (Option.some Jvm.ClassFile.FieldType.boolean) ∈ tb_W := tb_in (List.mem_of_getElem? (i := 214) (by decide +kernel)) (by decide +kernel)
theorem tm_215 : Cond.methodLink "SpanDesk$Program" 39 ⟨"SpanDesk$Program", "countDefined", "(I)I"⟩ ∈ tb_W := tb_in (List.mem_of_getElem? (i := 215) (by decide +kernel)) (by decide +kernel)
theorem tm_217 : Cond.instanceMethod ⟨"SpanDesk$Program", "countDefined", "(I)I"⟩ ∈ tb_W := tb_in (List.mem_of_getElem? (i := 217) (by decide +kernel)) (by decide +kernel)
theorem tm_218 : Cond.code ⟨"SpanDesk$Program", "countDefined", "(I)I"⟩ prog_3_method_9_code 4 (Option.some Jvm.ClassFile.FieldType.int) ∈ tb_W := tb_in (List.mem_of_getElem? (i := 218) (by decide +kernel)) (by decide +kernel)
theorem tm_219 : Cond.classLink "SpanDesk" 43 "java/lang/IllegalArgumentException" ∈ tb_W := tb_in (List.mem_of_getElem? (i := 219) (by decide +kernel)) (by decide +kernel)
theorem tm_220 : Cond.instantiable "java/lang/IllegalArgumentException" 6 ∈ tb_W := tb_in (List.mem_of_getElem? (i := 220) (by decide +kernel)) (by decide +kernel)
theorem tm_228 : Cond.selects "java/lang/IllegalArgumentException" ⟨"java/lang/Throwable", "fillInStackTrace", "(I)Ljava/lang/Throwable;"⟩ ⟨"java/lang/Throwable", "fillInStackTrace", "(I)Ljava/lang/Throwable;"⟩ ∈ tb_W := tb_in (List.mem_of_getElem? (i := 228) (by decide +kernel)) (by decide +kernel)
theorem tm_229 : Cond.selects "java/lang/IllegalArgumentException" ⟨"java/lang/Throwable", "fillInStackTrace", "()Ljava/lang/Throwable;"⟩ ⟨"java/lang/Throwable", "fillInStackTrace", "()Ljava/lang/Throwable;"⟩ ∈ tb_W := tb_in (List.mem_of_getElem? (i := 229) (by decide +kernel)) (by decide +kernel)
theorem tm_240 : Cond.fieldLink "java/lang/Throwable" 198 "java/lang/Throwable" "backtrace" "Ljava/lang/Object;" ∈ tb_W := tb_in (List.mem_of_getElem? (i := 240) (by decide +kernel)) (by decide +kernel)
theorem tm_242 : Cond.instanceMethod ⟨"java/lang/Throwable", "<init>", "()V"⟩ ∈ tb_W := tb_in (List.mem_of_getElem? (i := 242) (by decide +kernel)) (by decide +kernel)
theorem tm_243 : Cond.code ⟨"java/lang/Throwable", "<init>", "()V"⟩ prog_13_method_1_code 1 (Option.none : Option Jvm.ClassFile.FieldType) ∈ tb_W := tb_in (List.mem_of_getElem? (i := 243) (by decide +kernel)) (by decide +kernel)
theorem tm_244 : Cond.methodLink "java/lang/Throwable" 1 ⟨"java/lang/Object", "<init>", "()V"⟩ ∈ tb_W := tb_in (List.mem_of_getElem? (i := 244) (by decide +kernel)) (by decide +kernel)
theorem tm_245 : Cond.fieldLink "java/lang/Throwable" 13 "java/lang/Throwable" "UNASSIGNED_STACK" "[Ljava/lang/StackTraceElement;" ∈ tb_W := tb_in (List.mem_of_getElem? (i := 245) (by decide +kernel)) (by decide +kernel)
theorem tm_247 : Cond.fieldLink "java/lang/Throwable" 20 "java/lang/Throwable" "SUPPRESSED_SENTINEL" "Ljava/util/List;" ∈ tb_W := tb_in (List.mem_of_getElem? (i := 247) (by decide +kernel)) (by decide +kernel)
theorem tm_249 : Cond.methodLink "java/lang/Throwable" 27 ⟨"java/lang/Throwable", "fillInStackTrace", "()Ljava/lang/Throwable;"⟩ ∈ tb_W := tb_in (List.mem_of_getElem? (i := 249) (by decide +kernel)) (by decide +kernel)
theorem tm_250 : Cond.instanceMethod ⟨"java/lang/Throwable", "fillInStackTrace", "()Ljava/lang/Throwable;"⟩ ∈ tb_W := tb_in (List.mem_of_getElem? (i := 250) (by decide +kernel)) (by decide +kernel)
theorem tm_252 : Cond.selects "java/lang/IllegalStateException" ⟨"java/lang/Throwable", "fillInStackTrace", "()Ljava/lang/Throwable;"⟩ ⟨"java/lang/Throwable", "fillInStackTrace", "()Ljava/lang/Throwable;"⟩ ∈ tb_W := tb_in (List.mem_of_getElem? (i := 252) (by decide +kernel)) (by decide +kernel)
theorem tm_253 : Cond.selects "java/lang/IndexOutOfBoundsException" ⟨"java/lang/Throwable", "fillInStackTrace", "()Ljava/lang/Throwable;"⟩ ⟨"java/lang/Throwable", "fillInStackTrace", "()Ljava/lang/Throwable;"⟩ ∈ tb_W := tb_in (List.mem_of_getElem? (i := 253) (by decide +kernel)) (by decide +kernel)
theorem tm_255 : Cond.methodLink "java/lang/Throwable" 202 ⟨"java/lang/Throwable", "fillInStackTrace", "(I)Ljava/lang/Throwable;"⟩ ∈ tb_W := tb_in (List.mem_of_getElem? (i := 255) (by decide +kernel)) (by decide +kernel)
theorem tm_257 : Cond.instanceMethod ⟨"java/lang/Throwable", "fillInStackTrace", "(I)Ljava/lang/Throwable;"⟩ ∈ tb_W := tb_in (List.mem_of_getElem? (i := 257) (by decide +kernel)) (by decide +kernel)
theorem tm_258 : Cond.instantiable "java/lang/Throwable" 6 ∈ tb_W := tb_in (List.mem_of_getElem? (i := 258) (by decide +kernel)) (by decide +kernel)
theorem tm_259 : Cond.native ⟨"java/lang/Throwable", "fillInStackTrace", "(I)Ljava/lang/Throwable;"⟩ ∈ tb_W := tb_in (List.mem_of_getElem? (i := 259) (by decide +kernel)) (by decide +kernel)
theorem tm_261 : Cond.methodLink "SpanDesk" 47 ⟨"java/lang/IllegalArgumentException", "<init>", "(Ljava/lang/String;)V"⟩ ∈ tb_W := tb_in (List.mem_of_getElem? (i := 261) (by decide +kernel)) (by decide +kernel)
theorem tm_262 : Cond.instanceMethod ⟨"java/lang/IllegalArgumentException", "<init>", "(Ljava/lang/String;)V"⟩ ∈ tb_W := tb_in (List.mem_of_getElem? (i := 262) (by decide +kernel)) (by decide +kernel)
theorem tm_263 : Cond.code ⟨"java/lang/IllegalArgumentException", "<init>", "(Ljava/lang/String;)V"⟩ prog_7_method_2_code 2 (Option.none : Option Jvm.ClassFile.FieldType) ∈ tb_W := tb_in (List.mem_of_getElem? (i := 263) (by decide +kernel)) (by decide +kernel)
theorem tm_264 : Cond.methodLink "java/lang/IllegalArgumentException" 7 ⟨"java/lang/RuntimeException", "<init>", "(Ljava/lang/String;)V"⟩ ∈ tb_W := tb_in (List.mem_of_getElem? (i := 264) (by decide +kernel)) (by decide +kernel)
theorem tm_265 : Cond.instanceMethod ⟨"java/lang/RuntimeException", "<init>", "(Ljava/lang/String;)V"⟩ ∈ tb_W := tb_in (List.mem_of_getElem? (i := 265) (by decide +kernel)) (by decide +kernel)
theorem tm_266 : Cond.code ⟨"java/lang/RuntimeException", "<init>", "(Ljava/lang/String;)V"⟩ prog_10_method_2_code 2 (Option.none : Option Jvm.ClassFile.FieldType) ∈ tb_W := tb_in (List.mem_of_getElem? (i := 266) (by decide +kernel)) (by decide +kernel)
theorem tm_267 : Cond.methodLink "java/lang/RuntimeException" 7 ⟨"java/lang/Exception", "<init>", "(Ljava/lang/String;)V"⟩ ∈ tb_W := tb_in (List.mem_of_getElem? (i := 267) (by decide +kernel)) (by decide +kernel)
theorem tm_268 : Cond.instanceMethod ⟨"java/lang/Exception", "<init>", "(Ljava/lang/String;)V"⟩ ∈ tb_W := tb_in (List.mem_of_getElem? (i := 268) (by decide +kernel)) (by decide +kernel)
theorem tm_269 : Cond.code ⟨"java/lang/Exception", "<init>", "(Ljava/lang/String;)V"⟩ prog_6_method_2_code 2 (Option.none : Option Jvm.ClassFile.FieldType) ∈ tb_W := tb_in (List.mem_of_getElem? (i := 269) (by decide +kernel)) (by decide +kernel)
theorem tm_270 : Cond.methodLink "java/lang/Exception" 7 ⟨"java/lang/Throwable", "<init>", "(Ljava/lang/String;)V"⟩ ∈ tb_W := tb_in (List.mem_of_getElem? (i := 270) (by decide +kernel)) (by decide +kernel)
theorem tm_271 : Cond.instanceMethod ⟨"java/lang/Throwable", "<init>", "(Ljava/lang/String;)V"⟩ ∈ tb_W := tb_in (List.mem_of_getElem? (i := 271) (by decide +kernel)) (by decide +kernel)
theorem tm_272 : Cond.code ⟨"java/lang/Throwable", "<init>", "(Ljava/lang/String;)V"⟩ prog_13_method_2_code 2 (Option.none : Option Jvm.ClassFile.FieldType) ∈ tb_W := tb_in (List.mem_of_getElem? (i := 272) (by decide +kernel)) (by decide +kernel)
theorem tm_274 : Cond.fieldLink "java/lang/Throwable" 31 "java/lang/Throwable" "detailMessage" "Ljava/lang/String;" ∈ tb_W := tb_in (List.mem_of_getElem? (i := 274) (by decide +kernel)) (by decide +kernel)
theorem tm_275 : Cond.fieldLink "java/lang/Throwable" 7 "java/lang/Throwable" "cause" "Ljava/lang/Throwable;" ∈ tb_W := tb_in (List.mem_of_getElem? (i := 275) (by decide +kernel)) (by decide +kernel)
theorem tm_276 : Cond.fieldLink "java/lang/Throwable" 17 "java/lang/Throwable" "stackTrace" "[Ljava/lang/StackTraceElement;" ∈ tb_W := tb_in (List.mem_of_getElem? (i := 276) (by decide +kernel)) (by decide +kernel)
theorem tm_277 : Cond.fieldLink "java/lang/Throwable" 24 "java/lang/Throwable" "suppressedExceptions" "Ljava/util/List;" ∈ tb_W := tb_in (List.mem_of_getElem? (i := 277) (by decide +kernel)) (by decide +kernel)
theorem tm_286 : Cond.arrayClass Jvm.ClassFile.FieldType.byte ∈ tb_W := tb_in (List.mem_of_getElem? (i := 286) (by decide +kernel)) (by decide +kernel)
theorem tm_287 : Cond.methodLink "SpanDesk" 50 ⟨"SpanDesk$Program", "namesUndefined", "()Z"⟩ ∈ tb_W := tb_in (List.mem_of_getElem? (i := 287) (by decide +kernel)) (by decide +kernel)
theorem tm_288 : Cond.instanceMethod ⟨"SpanDesk$Program", "namesUndefined", "()Z"⟩ ∈ tb_W := tb_in (List.mem_of_getElem? (i := 288) (by decide +kernel)) (by decide +kernel)
theorem tm_289 : Cond.selects "SpanDesk$Program" ⟨"SpanDesk$Program", "namesUndefined", "()Z"⟩ ⟨"SpanDesk$Program", "namesUndefined", "()Z"⟩ ∈ tb_W := tb_in (List.mem_of_getElem? (i := 289) (by decide +kernel)) (by decide +kernel)
theorem tm_290 : Cond.code ⟨"SpanDesk$Program", "namesUndefined", "()Z"⟩ prog_3_method_8_code 3 (Option.some Jvm.ClassFile.FieldType.boolean) ∈ tb_W := tb_in (List.mem_of_getElem? (i := 290) (by decide +kernel)) (by decide +kernel)
theorem tm_291 : Cond.classLink "SpanDesk" 53 "java/lang/IllegalStateException" ∈ tb_W := tb_in (List.mem_of_getElem? (i := 291) (by decide +kernel)) (by decide +kernel)
theorem tm_292 : Cond.instantiable "java/lang/IllegalStateException" 6 ∈ tb_W := tb_in (List.mem_of_getElem? (i := 292) (by decide +kernel)) (by decide +kernel)
theorem tm_294 : Cond.selects "java/lang/IllegalStateException" ⟨"java/lang/Throwable", "fillInStackTrace", "(I)Ljava/lang/Throwable;"⟩ ⟨"java/lang/Throwable", "fillInStackTrace", "(I)Ljava/lang/Throwable;"⟩ ∈ tb_W := tb_in (List.mem_of_getElem? (i := 294) (by decide +kernel)) (by decide +kernel)
theorem tm_301 : Cond.methodLink "SpanDesk" 57 ⟨"java/lang/IllegalStateException", "<init>", "(Ljava/lang/String;)V"⟩ ∈ tb_W := tb_in (List.mem_of_getElem? (i := 301) (by decide +kernel)) (by decide +kernel)
theorem tm_302 : Cond.instanceMethod ⟨"java/lang/IllegalStateException", "<init>", "(Ljava/lang/String;)V"⟩ ∈ tb_W := tb_in (List.mem_of_getElem? (i := 302) (by decide +kernel)) (by decide +kernel)
theorem tm_303 : Cond.code ⟨"java/lang/IllegalStateException", "<init>", "(Ljava/lang/String;)V"⟩ prog_8_method_2_code 2 (Option.none : Option Jvm.ClassFile.FieldType) ∈ tb_W := tb_in (List.mem_of_getElem? (i := 303) (by decide +kernel)) (by decide +kernel)
theorem tm_304 : Cond.methodLink "java/lang/IllegalStateException" 7 ⟨"java/lang/RuntimeException", "<init>", "(Ljava/lang/String;)V"⟩ ∈ tb_W := tb_in (List.mem_of_getElem? (i := 304) (by decide +kernel)) (by decide +kernel)
theorem tm_307 : Cond.methodLink "SpanDesk" 58 ⟨"SpanDesk$Assembly", "make", "(LSpanDesk$Program;)V"⟩ ∈ tb_W := tb_in (List.mem_of_getElem? (i := 307) (by decide +kernel)) (by decide +kernel)
theorem tm_308 : Cond.instanceMethod ⟨"SpanDesk$Assembly", "make", "(LSpanDesk$Program;)V"⟩ ∈ tb_W := tb_in (List.mem_of_getElem? (i := 308) (by decide +kernel)) (by decide +kernel)
theorem tm_309 : Cond.selects "SpanDesk$Assembly" ⟨"SpanDesk$Assembly", "make", "(LSpanDesk$Program;)V"⟩ ⟨"SpanDesk$Assembly", "make", "(LSpanDesk$Program;)V"⟩ ∈ tb_W := tb_in (List.mem_of_getElem? (i := 309) (by decide +kernel)) (by decide +kernel)
theorem tm_310 : Cond.code ⟨"SpanDesk$Assembly", "make", "(LSpanDesk$Program;)V"⟩ prog_2_method_3_code 3 (Option.none : Option Jvm.ClassFile.FieldType) ∈ tb_W := tb_in (List.mem_of_getElem? (i := 310) (by decide +kernel)) (by decide +kernel)
theorem tm_311 : Cond.methodLink "SpanDesk$Assembly" 38 ⟨"SpanDesk$Program", "copyFrom", "(LSpanDesk$Program;)V"⟩ ∈ tb_W := tb_in (List.mem_of_getElem? (i := 311) (by decide +kernel)) (by decide +kernel)
theorem tm_312 : Cond.instanceMethod ⟨"SpanDesk$Program", "copyFrom", "(LSpanDesk$Program;)V"⟩ ∈ tb_W := tb_in (List.mem_of_getElem? (i := 312) (by decide +kernel)) (by decide +kernel)
theorem tm_313 : Cond.selects "SpanDesk$Program" ⟨"SpanDesk$Program", "copyFrom", "(LSpanDesk$Program;)V"⟩ ⟨"SpanDesk$Program", "copyFrom", "(LSpanDesk$Program;)V"⟩ ∈ tb_W := tb_in (List.mem_of_getElem? (i := 313) (by decide +kernel)) (by decide +kernel)
theorem tm_314 : Cond.code ⟨"SpanDesk$Program", "copyFrom", "(LSpanDesk$Program;)V"⟩ prog_3_method_6_code 2 (Option.none : Option Jvm.ClassFile.FieldType) ∈ tb_W := tb_in (List.mem_of_getElem? (i := 314) (by decide +kernel)) (by decide +kernel)
theorem tm_315 : Cond.methodLink "SpanDesk$Assembly" 42 ⟨"SpanDesk$Assembly", "makeAllShort", "()V"⟩ ∈ tb_W := tb_in (List.mem_of_getElem? (i := 315) (by decide +kernel)) (by decide +kernel)
theorem tm_317 : Cond.instanceMethod ⟨"SpanDesk$Assembly", "makeAllShort", "()V"⟩ ∈ tb_W := tb_in (List.mem_of_getElem? (i := 317) (by decide +kernel)) (by decide +kernel)
theorem tm_318 : Cond.code ⟨"SpanDesk$Assembly", "makeAllShort", "()V"⟩ prog_2_method_4_code 2 (Option.none : Option Jvm.ClassFile.FieldType) ∈ tb_W := tb_in (List.mem_of_getElem? (i := 318) (by decide +kernel)) (by decide +kernel)
theorem tm_319 : Cond.methodLink "SpanDesk$Assembly" 45 ⟨"SpanDesk$Assembly", "place", "()V"⟩ ∈ tb_W := tb_in (List.mem_of_getElem? (i := 319) (by decide +kernel)) (by decide +kernel)
theorem tm_321 : Cond.instanceMethod ⟨"SpanDesk$Assembly", "place", "()V"⟩ ∈ tb_W := tb_in (List.mem_of_getElem? (i := 321) (by decide +kernel)) (by decide +kernel)
theorem tm_322 : Cond.code ⟨"SpanDesk$Assembly", "place", "()V"⟩ prog_2_method_5_code 3 (Option.none : Option Jvm.ClassFile.FieldType) ∈ tb_W := tb_in (List.mem_of_getElem? (i := 322) (by decide +kernel)) (by decide +kernel)
theorem tm_323 : Cond.methodLink "SpanDesk$Assembly" 48 ⟨"SpanDesk$Assembly", "lengthen", "()Z"⟩ ∈ tb_W := tb_in (List.mem_of_getElem? (i := 323) (by decide +kernel)) (by decide +kernel)
theorem tm_325 : Cond.instanceMethod ⟨"SpanDesk$Assembly", "lengthen", "()Z"⟩ ∈ tb_W := tb_in (List.mem_of_getElem? (i := 325) (by decide +kernel)) (by decide +kernel)
theorem tm_326 : Cond.code ⟨"SpanDesk$Assembly", "lengthen", "()Z"⟩ prog_2_method_6_code 3 (Option.some Jvm.ClassFile.FieldType.boolean) ∈ tb_W := tb_in (List.mem_of_getElem? (i := 326) (by decide +kernel)) (by decide +kernel)
theorem tm_327 : Cond.methodLink "SpanDesk" 62 ⟨"SpanDesk$Assembly", "size", "()I"⟩ ∈ tb_W := tb_in (List.mem_of_getElem? (i := 327) (by decide +kernel)) (by decide +kernel)
theorem tm_328 : Cond.methodLink "SpanDeskLaw" 71 ⟨"SpanDeskLaw", "follow", "(LSpanDesk;IZ[J)I"⟩ ∈ tb_W := tb_in (List.mem_of_getElem? (i := 328) (by decide +kernel)) (by decide +kernel)
theorem tm_329 : Cond.static ⟨"SpanDeskLaw", "follow", "(LSpanDesk;IZ[J)I"⟩ ∈ tb_W := tb_in (List.mem_of_getElem? (i := 329) (by decide +kernel)) (by decide +kernel)
theorem tm_330 : Cond.codeWith ⟨"SpanDeskLaw", "follow", "(LSpanDesk;IZ[J)I"⟩ method_4_code 5 (Option.some Jvm.ClassFile.FieldType.int) [(0, 10, 13, 21)] ∈ tb_W := tb_in (List.mem_of_getElem? (i := 330) (by decide +kernel)) (by decide +kernel)
theorem tm_331 : Cond.classLink "SpanDeskLaw" 21 "java/lang/IndexOutOfBoundsException" ∈ tb_W := tb_in (List.mem_of_getElem? (i := 331) (by decide +kernel)) (by decide +kernel)
theorem tm_332 : Cond.methodLink "SpanDeskLaw" 17 ⟨"SpanDesk", "follow", "(IZ)I"⟩ ∈ tb_W := tb_in (List.mem_of_getElem? (i := 332) (by decide +kernel)) (by decide +kernel)
theorem tm_333 : Cond.instanceMethod ⟨"SpanDesk", "follow", "(IZ)I"⟩ ∈ tb_W := tb_in (List.mem_of_getElem? (i := 333) (by decide +kernel)) (by decide +kernel)
theorem tm_334 : Cond.selects "SpanDesk" ⟨"SpanDesk", "follow", "(IZ)I"⟩ ⟨"SpanDesk", "follow", "(IZ)I"⟩ ∈ tb_W := tb_in (List.mem_of_getElem? (i := 334) (by decide +kernel)) (by decide +kernel)
theorem tm_335 : Cond.code ⟨"SpanDesk", "follow", "(IZ)I"⟩ prog_1_method_11_code 4 (Option.some Jvm.ClassFile.FieldType.int) ∈ tb_W := tb_in (List.mem_of_getElem? (i := 335) (by decide +kernel)) (by decide +kernel)
theorem tm_336 : Cond.classLink "SpanDesk" 95 "java/lang/IndexOutOfBoundsException" ∈ tb_W := tb_in (List.mem_of_getElem? (i := 336) (by decide +kernel)) (by decide +kernel)
theorem tm_337 : Cond.instantiable "java/lang/IndexOutOfBoundsException" 6 ∈ tb_W := tb_in (List.mem_of_getElem? (i := 337) (by decide +kernel)) (by decide +kernel)
theorem tm_339 : Cond.selects "java/lang/IndexOutOfBoundsException" ⟨"java/lang/Throwable", "fillInStackTrace", "(I)Ljava/lang/Throwable;"⟩ ⟨"java/lang/Throwable", "fillInStackTrace", "(I)Ljava/lang/Throwable;"⟩ ∈ tb_W := tb_in (List.mem_of_getElem? (i := 339) (by decide +kernel)) (by decide +kernel)
theorem tm_346 : Cond.methodLink "SpanDesk" 99 ⟨"java/lang/IndexOutOfBoundsException", "<init>", "(Ljava/lang/String;)V"⟩ ∈ tb_W := tb_in (List.mem_of_getElem? (i := 346) (by decide +kernel)) (by decide +kernel)
theorem tm_347 : Cond.instanceMethod ⟨"java/lang/IndexOutOfBoundsException", "<init>", "(Ljava/lang/String;)V"⟩ ∈ tb_W := tb_in (List.mem_of_getElem? (i := 347) (by decide +kernel)) (by decide +kernel)
theorem tm_348 : Cond.code ⟨"java/lang/IndexOutOfBoundsException", "<init>", "(Ljava/lang/String;)V"⟩ prog_9_method_2_code 2 (Option.none : Option Jvm.ClassFile.FieldType) ∈ tb_W := tb_in (List.mem_of_getElem? (i := 348) (by decide +kernel)) (by decide +kernel)
theorem tm_349 : Cond.methodLink "java/lang/IndexOutOfBoundsException" 7 ⟨"java/lang/RuntimeException", "<init>", "(Ljava/lang/String;)V"⟩ ∈ tb_W := tb_in (List.mem_of_getElem? (i := 349) (by decide +kernel)) (by decide +kernel)
theorem tm_352 : Cond.classLink "SpanDeskLaw" 24 "SpanDeskModel" ∈ tb_W := tb_in (List.mem_of_getElem? (i := 352) (by decide +kernel)) (by decide +kernel)
theorem tm_353 : Cond.instantiable "SpanDeskModel" 11 ∈ tb_W := tb_in (List.mem_of_getElem? (i := 353) (by decide +kernel)) (by decide +kernel)
theorem tm_354 : Cond.methodLink "SpanDeskLaw" 26 ⟨"SpanDeskModel", "<init>", "()V"⟩ ∈ tb_W := tb_in (List.mem_of_getElem? (i := 354) (by decide +kernel)) (by decide +kernel)
theorem tm_355 : Cond.instanceMethod ⟨"SpanDeskModel", "<init>", "()V"⟩ ∈ tb_W := tb_in (List.mem_of_getElem? (i := 355) (by decide +kernel)) (by decide +kernel)
theorem tm_356 : Cond.code ⟨"SpanDeskModel", "<init>", "()V"⟩ prog_5_method_1_code 1 (Option.none : Option Jvm.ClassFile.FieldType) ∈ tb_W := tb_in (List.mem_of_getElem? (i := 356) (by decide +kernel)) (by decide +kernel)
theorem tm_357 : Cond.methodLink "SpanDeskModel" 1 ⟨"java/lang/Object", "<init>", "()V"⟩ ∈ tb_W := tb_in (List.mem_of_getElem? (i := 357) (by decide +kernel)) (by decide +kernel)
theorem tm_358 : Cond.fieldLink "SpanDeskModel" 31 "SpanDeskModel" "thrown" "I" ∈ tb_W := tb_in (List.mem_of_getElem? (i := 358) (by decide +kernel)) (by decide +kernel)
theorem tm_359 : Cond.fieldLink "SpanDeskModel" 39 "SpanDeskModel" "lines" "I" ∈ tb_W := tb_in (List.mem_of_getElem? (i := 359) (by decide +kernel)) (by decide +kernel)
theorem tm_360 : Cond.fieldLink "SpanDeskModel" 7 "SpanDeskModel" "kind" "[I" ∈ tb_W := tb_in (List.mem_of_getElem? (i := 360) (by decide +kernel)) (by decide +kernel)
theorem tm_361 : Cond.fieldLink "SpanDeskModel" 13 "SpanDeskModel" "a" "[I" ∈ tb_W := tb_in (List.mem_of_getElem? (i := 361) (by decide +kernel)) (by decide +kernel)
theorem tm_362 : Cond.fieldLink "SpanDeskModel" 16 "SpanDeskModel" "b" "[I" ∈ tb_W := tb_in (List.mem_of_getElem? (i := 362) (by decide +kernel)) (by decide +kernel)
theorem tm_363 : Cond.fieldLink "SpanDeskModel" 49 "SpanDeskModel" "made" "I" ∈ tb_W := tb_in (List.mem_of_getElem? (i := 363) (by decide +kernel)) (by decide +kernel)
theorem tm_364 : Cond.fieldLink "SpanDeskModel" 19 "SpanDeskModel" "madeKind" "[I" ∈ tb_W := tb_in (List.mem_of_getElem? (i := 364) (by decide +kernel)) (by decide +kernel)
theorem tm_365 : Cond.fieldLink "SpanDeskModel" 22 "SpanDeskModel" "madeA" "[I" ∈ tb_W := tb_in (List.mem_of_getElem? (i := 365) (by decide +kernel)) (by decide +kernel)
theorem tm_366 : Cond.fieldLink "SpanDeskModel" 25 "SpanDeskModel" "madeB" "[I" ∈ tb_W := tb_in (List.mem_of_getElem? (i := 366) (by decide +kernel)) (by decide +kernel)
theorem tm_367 : Cond.fieldLink "SpanDeskModel" 28 "SpanDeskModel" "size" "[I" ∈ tb_W := tb_in (List.mem_of_getElem? (i := 367) (by decide +kernel)) (by decide +kernel)
theorem tm_368 : Cond.fieldLink "SpanDeskModel" 65 "SpanDeskModel" "bytes" "I" ∈ tb_W := tb_in (List.mem_of_getElem? (i := 368) (by decide +kernel)) (by decide +kernel)
theorem tm_392 : Cond.methodLink "SpanDeskLaw" 47 ⟨"SpanDeskModel", "thrown", "()I"⟩ ∈ tb_W := tb_in (List.mem_of_getElem? (i := 392) (by decide +kernel)) (by decide +kernel)
theorem tm_393 : Cond.instanceMethod ⟨"SpanDeskModel", "thrown", "()I"⟩ ∈ tb_W := tb_in (List.mem_of_getElem? (i := 393) (by decide +kernel)) (by decide +kernel)
theorem tm_394 : Cond.selects "SpanDeskModel" ⟨"SpanDeskModel", "thrown", "()I"⟩ ⟨"SpanDeskModel", "thrown", "()I"⟩ ∈ tb_W := tb_in (List.mem_of_getElem? (i := 394) (by decide +kernel)) (by decide +kernel)
theorem tm_395 : Cond.code ⟨"SpanDeskModel", "thrown", "()I"⟩ prog_5_method_2_code 1 (Option.some Jvm.ClassFile.FieldType.int) ∈ tb_W := tb_in (List.mem_of_getElem? (i := 395) (by decide +kernel)) (by decide +kernel)
theorem tm_396 : Cond.methodLink "SpanDeskLaw" 31 ⟨"SpanDeskModel", "insert", "(IIII)Z"⟩ ∈ tb_W := tb_in (List.mem_of_getElem? (i := 396) (by decide +kernel)) (by decide +kernel)
theorem tm_397 : Cond.instanceMethod ⟨"SpanDeskModel", "insert", "(IIII)Z"⟩ ∈ tb_W := tb_in (List.mem_of_getElem? (i := 397) (by decide +kernel)) (by decide +kernel)
theorem tm_398 : Cond.selects "SpanDeskModel" ⟨"SpanDeskModel", "insert", "(IIII)Z"⟩ ⟨"SpanDeskModel", "insert", "(IIII)Z"⟩ ∈ tb_W := tb_in (List.mem_of_getElem? (i := 398) (by decide +kernel)) (by decide +kernel)
theorem tm_399 : Cond.code ⟨"SpanDeskModel", "insert", "(IIII)Z"⟩ prog_5_method_5_code 6 (Option.some Jvm.ClassFile.FieldType.boolean) ∈ tb_W := tb_in (List.mem_of_getElem? (i := 399) (by decide +kernel)) (by decide +kernel)
theorem tm_400 : Cond.methodLink "SpanDeskModel" 42 ⟨"SpanDeskModel", "good", "(III)Z"⟩ ∈ tb_W := tb_in (List.mem_of_getElem? (i := 400) (by decide +kernel)) (by decide +kernel)
theorem tm_401 : Cond.static ⟨"SpanDeskModel", "good", "(III)Z"⟩ ∈ tb_W := tb_in (List.mem_of_getElem? (i := 401) (by decide +kernel)) (by decide +kernel)
theorem tm_402 : Cond.code ⟨"SpanDeskModel", "good", "(III)Z"⟩ prog_5_method_4_code 3 (Option.some Jvm.ClassFile.FieldType.boolean) ∈ tb_W := tb_in (List.mem_of_getElem? (i := 402) (by decide +kernel)) (by decide +kernel)
theorem tm_403 : Cond.methodLink "SpanDeskModel" 35 ⟨"SpanDeskModel", "in", "(III)Z"⟩ ∈ tb_W := tb_in (List.mem_of_getElem? (i := 403) (by decide +kernel)) (by decide +kernel)
theorem tm_404 : Cond.static ⟨"SpanDeskModel", "in", "(III)Z"⟩ ∈ tb_W := tb_in (List.mem_of_getElem? (i := 404) (by decide +kernel)) (by decide +kernel)
theorem tm_405 : Cond.code ⟨"SpanDeskModel", "in", "(III)Z"⟩ prog_5_method_3_code 3 (Option.some Jvm.ClassFile.FieldType.boolean) ∈ tb_W := tb_in (List.mem_of_getElem? (i := 405) (by decide +kernel)) (by decide +kernel)
theorem tm_406 : Cond.methodLink "SpanDeskLaw" 36 ⟨"SpanDeskModel", "remove", "(I)Z"⟩ ∈ tb_W := tb_in (List.mem_of_getElem? (i := 406) (by decide +kernel)) (by decide +kernel)
theorem tm_407 : Cond.instanceMethod ⟨"SpanDeskModel", "remove", "(I)Z"⟩ ∈ tb_W := tb_in (List.mem_of_getElem? (i := 407) (by decide +kernel)) (by decide +kernel)
theorem tm_408 : Cond.selects "SpanDeskModel" ⟨"SpanDeskModel", "remove", "(I)Z"⟩ ⟨"SpanDeskModel", "remove", "(I)Z"⟩ ∈ tb_W := tb_in (List.mem_of_getElem? (i := 408) (by decide +kernel)) (by decide +kernel)
theorem tm_409 : Cond.code ⟨"SpanDeskModel", "remove", "(I)Z"⟩ prog_5_method_6_code 3 (Option.some Jvm.ClassFile.FieldType.boolean) ∈ tb_W := tb_in (List.mem_of_getElem? (i := 409) (by decide +kernel)) (by decide +kernel)
theorem tm_410 : Cond.methodLink "SpanDeskLaw" 40 ⟨"SpanDeskModel", "lines", "()I"⟩ ∈ tb_W := tb_in (List.mem_of_getElem? (i := 410) (by decide +kernel)) (by decide +kernel)
theorem tm_411 : Cond.instanceMethod ⟨"SpanDeskModel", "lines", "()I"⟩ ∈ tb_W := tb_in (List.mem_of_getElem? (i := 411) (by decide +kernel)) (by decide +kernel)
theorem tm_412 : Cond.selects "SpanDeskModel" ⟨"SpanDeskModel", "lines", "()I"⟩ ⟨"SpanDeskModel", "lines", "()I"⟩ ∈ tb_W := tb_in (List.mem_of_getElem? (i := 412) (by decide +kernel)) (by decide +kernel)
theorem tm_413 : Cond.code ⟨"SpanDeskModel", "lines", "()I"⟩ prog_5_method_7_code 1 (Option.some Jvm.ClassFile.FieldType.int) ∈ tb_W := tb_in (List.mem_of_getElem? (i := 413) (by decide +kernel)) (by decide +kernel)
theorem tm_414 : Cond.methodLink "SpanDeskLaw" 46 ⟨"SpanDeskModel", "assemble", "()I"⟩ ∈ tb_W := tb_in (List.mem_of_getElem? (i := 414) (by decide +kernel)) (by decide +kernel)
theorem tm_415 : Cond.instanceMethod ⟨"SpanDeskModel", "assemble", "()I"⟩ ∈ tb_W := tb_in (List.mem_of_getElem? (i := 415) (by decide +kernel)) (by decide +kernel)
theorem tm_416 : Cond.selects "SpanDeskModel" ⟨"SpanDeskModel", "assemble", "()I"⟩ ⟨"SpanDeskModel", "assemble", "()I"⟩ ∈ tb_W := tb_in (List.mem_of_getElem? (i := 416) (by decide +kernel)) (by decide +kernel)
theorem tm_417 : Cond.code ⟨"SpanDeskModel", "assemble", "()I"⟩ prog_5_method_13_code 4 (Option.some Jvm.ClassFile.FieldType.int) ∈ tb_W := tb_in (List.mem_of_getElem? (i := 417) (by decide +kernel)) (by decide +kernel)
theorem tm_418 : Cond.methodLink "SpanDeskModel" 58 ⟨"SpanDeskModel", "wrong", "()I"⟩ ∈ tb_W := tb_in (List.mem_of_getElem? (i := 418) (by decide +kernel)) (by decide +kernel)
theorem tm_420 : Cond.instanceMethod ⟨"SpanDeskModel", "wrong", "()I"⟩ ∈ tb_W := tb_in (List.mem_of_getElem? (i := 420) (by decide +kernel)) (by decide +kernel)
theorem tm_421 : Cond.code ⟨"SpanDeskModel", "wrong", "()I"⟩ prog_5_method_9_code 3 (Option.some Jvm.ClassFile.FieldType.int) ∈ tb_W := tb_in (List.mem_of_getElem? (i := 421) (by decide +kernel)) (by decide +kernel)
theorem tm_422 : Cond.methodLink "SpanDeskModel" 45 ⟨"SpanDeskModel", "definitions", "(I)I"⟩ ∈ tb_W := tb_in (List.mem_of_getElem? (i := 422) (by decide +kernel)) (by decide +kernel)
theorem tm_424 : Cond.instanceMethod ⟨"SpanDeskModel", "definitions", "(I)I"⟩ ∈ tb_W := tb_in (List.mem_of_getElem? (i := 424) (by decide +kernel)) (by decide +kernel)
theorem tm_425 : Cond.code ⟨"SpanDeskModel", "definitions", "(I)I"⟩ prog_5_method_8_code 4 (Option.some Jvm.ClassFile.FieldType.int) ∈ tb_W := tb_in (List.mem_of_getElem? (i := 425) (by decide +kernel)) (by decide +kernel)
theorem tm_426 : Cond.methodLink "SpanDeskModel" 62 ⟨"SpanDeskModel", "span", "(I)I"⟩ ∈ tb_W := tb_in (List.mem_of_getElem? (i := 426) (by decide +kernel)) (by decide +kernel)
theorem tm_428 : Cond.instanceMethod ⟨"SpanDeskModel", "span", "(I)I"⟩ ∈ tb_W := tb_in (List.mem_of_getElem? (i := 428) (by decide +kernel)) (by decide +kernel)
theorem tm_429 : Cond.code ⟨"SpanDeskModel", "span", "(I)I"⟩ prog_5_method_12_code 2 (Option.some Jvm.ClassFile.FieldType.int) ∈ tb_W := tb_in (List.mem_of_getElem? (i := 429) (by decide +kernel)) (by decide +kernel)
theorem tm_430 : Cond.methodLink "SpanDeskModel" 55 ⟨"SpanDeskModel", "labelled", "(I)I"⟩ ∈ tb_W := tb_in (List.mem_of_getElem? (i := 430) (by decide +kernel)) (by decide +kernel)
theorem tm_432 : Cond.instanceMethod ⟨"SpanDeskModel", "labelled", "(I)I"⟩ ∈ tb_W := tb_in (List.mem_of_getElem? (i := 432) (by decide +kernel)) (by decide +kernel)
theorem tm_433 : Cond.code ⟨"SpanDeskModel", "labelled", "(I)I"⟩ prog_5_method_11_code 3 (Option.some Jvm.ClassFile.FieldType.int) ∈ tb_W := tb_in (List.mem_of_getElem? (i := 433) (by decide +kernel)) (by decide +kernel)
theorem tm_434 : Cond.methodLink "SpanDeskModel" 52 ⟨"SpanDeskModel", "place", "(I)I"⟩ ∈ tb_W := tb_in (List.mem_of_getElem? (i := 434) (by decide +kernel)) (by decide +kernel)
theorem tm_436 : Cond.instanceMethod ⟨"SpanDeskModel", "place", "(I)I"⟩ ∈ tb_W := tb_in (List.mem_of_getElem? (i := 436) (by decide +kernel)) (by decide +kernel)
theorem tm_437 : Cond.code ⟨"SpanDeskModel", "place", "(I)I"⟩ prog_5_method_10_code 4 (Option.some Jvm.ClassFile.FieldType.int) ∈ tb_W := tb_in (List.mem_of_getElem? (i := 437) (by decide +kernel)) (by decide +kernel)
theorem tm_438 : Cond.methodLink "SpanDeskLaw" 54 ⟨"SpanDeskModel", "at", "(I)I"⟩ ∈ tb_W := tb_in (List.mem_of_getElem? (i := 438) (by decide +kernel)) (by decide +kernel)
theorem tm_439 : Cond.instanceMethod ⟨"SpanDeskModel", "at", "(I)I"⟩ ∈ tb_W := tb_in (List.mem_of_getElem? (i := 439) (by decide +kernel)) (by decide +kernel)
theorem tm_440 : Cond.selects "SpanDeskModel" ⟨"SpanDeskModel", "at", "(I)I"⟩ ⟨"SpanDeskModel", "at", "(I)I"⟩ ∈ tb_W := tb_in (List.mem_of_getElem? (i := 440) (by decide +kernel)) (by decide +kernel)
theorem tm_441 : Cond.code ⟨"SpanDeskModel", "at", "(I)I"⟩ prog_5_method_16_code 2 (Option.some Jvm.ClassFile.FieldType.int) ∈ tb_W := tb_in (List.mem_of_getElem? (i := 441) (by decide +kernel)) (by decide +kernel)
theorem tm_442 : Cond.methodLink "SpanDeskModel" 72 ⟨"SpanDeskModel", "byteAt", "(I)I"⟩ ∈ tb_W := tb_in (List.mem_of_getElem? (i := 442) (by decide +kernel)) (by decide +kernel)
theorem tm_444 : Cond.instanceMethod ⟨"SpanDeskModel", "byteAt", "(I)I"⟩ ∈ tb_W := tb_in (List.mem_of_getElem? (i := 444) (by decide +kernel)) (by decide +kernel)
theorem tm_445 : Cond.code ⟨"SpanDeskModel", "byteAt", "(I)I"⟩ prog_5_method_15_code 5 (Option.some Jvm.ClassFile.FieldType.int) ∈ tb_W := tb_in (List.mem_of_getElem? (i := 445) (by decide +kernel)) (by decide +kernel)
theorem tm_446 : Cond.methodLink "SpanDeskModel" 68 ⟨"SpanDeskModel", "jumpByte", "(II)I"⟩ ∈ tb_W := tb_in (List.mem_of_getElem? (i := 446) (by decide +kernel)) (by decide +kernel)
theorem tm_448 : Cond.instanceMethod ⟨"SpanDeskModel", "jumpByte", "(II)I"⟩ ∈ tb_W := tb_in (List.mem_of_getElem? (i := 448) (by decide +kernel)) (by decide +kernel)
theorem tm_449 : Cond.code ⟨"SpanDeskModel", "jumpByte", "(II)I"⟩ prog_5_method_14_code 7 (Option.some Jvm.ClassFile.FieldType.int) ∈ tb_W := tb_in (List.mem_of_getElem? (i := 449) (by decide +kernel)) (by decide +kernel)
theorem tm_450 : Cond.methodLink "SpanDeskLaw" 58 ⟨"SpanDeskModel", "address", "(I)I"⟩ ∈ tb_W := tb_in (List.mem_of_getElem? (i := 450) (by decide +kernel)) (by decide +kernel)
theorem tm_451 : Cond.instanceMethod ⟨"SpanDeskModel", "address", "(I)I"⟩ ∈ tb_W := tb_in (List.mem_of_getElem? (i := 451) (by decide +kernel)) (by decide +kernel)
theorem tm_452 : Cond.selects "SpanDeskModel" ⟨"SpanDeskModel", "address", "(I)I"⟩ ⟨"SpanDeskModel", "address", "(I)I"⟩ ∈ tb_W := tb_in (List.mem_of_getElem? (i := 452) (by decide +kernel)) (by decide +kernel)
theorem tm_453 : Cond.code ⟨"SpanDeskModel", "address", "(I)I"⟩ prog_5_method_17_code 2 (Option.some Jvm.ClassFile.FieldType.int) ∈ tb_W := tb_in (List.mem_of_getElem? (i := 453) (by decide +kernel)) (by decide +kernel)
theorem tm_454 : Cond.methodLink "SpanDeskLaw" 62 ⟨"SpanDeskModel", "form", "(I)I"⟩ ∈ tb_W := tb_in (List.mem_of_getElem? (i := 454) (by decide +kernel)) (by decide +kernel)
theorem tm_455 : Cond.instanceMethod ⟨"SpanDeskModel", "form", "(I)I"⟩ ∈ tb_W := tb_in (List.mem_of_getElem? (i := 455) (by decide +kernel)) (by decide +kernel)
theorem tm_456 : Cond.selects "SpanDeskModel" ⟨"SpanDeskModel", "form", "(I)I"⟩ ⟨"SpanDeskModel", "form", "(I)I"⟩ ∈ tb_W := tb_in (List.mem_of_getElem? (i := 456) (by decide +kernel)) (by decide +kernel)
theorem tm_457 : Cond.code ⟨"SpanDeskModel", "form", "(I)I"⟩ prog_5_method_18_code 2 (Option.some Jvm.ClassFile.FieldType.int) ∈ tb_W := tb_in (List.mem_of_getElem? (i := 457) (by decide +kernel)) (by decide +kernel)
theorem tm_458 : Cond.methodLink "SpanDeskLaw" 66 ⟨"SpanDeskModel", "longs", "()I"⟩ ∈ tb_W := tb_in (List.mem_of_getElem? (i := 458) (by decide +kernel)) (by decide +kernel)
theorem tm_459 : Cond.instanceMethod ⟨"SpanDeskModel", "longs", "()I"⟩ ∈ tb_W := tb_in (List.mem_of_getElem? (i := 459) (by decide +kernel)) (by decide +kernel)
theorem tm_460 : Cond.selects "SpanDeskModel" ⟨"SpanDeskModel", "longs", "()I"⟩ ⟨"SpanDeskModel", "longs", "()I"⟩ ∈ tb_W := tb_in (List.mem_of_getElem? (i := 460) (by decide +kernel)) (by decide +kernel)
theorem tm_461 : Cond.code ⟨"SpanDeskModel", "longs", "()I"⟩ prog_5_method_19_code 3 (Option.some Jvm.ClassFile.FieldType.int) ∈ tb_W := tb_in (List.mem_of_getElem? (i := 461) (by decide +kernel)) (by decide +kernel)
theorem tm_462 : Cond.methodLink "SpanDeskLaw" 70 ⟨"SpanDeskModel", "value", "(I)I"⟩ ∈ tb_W := tb_in (List.mem_of_getElem? (i := 462) (by decide +kernel)) (by decide +kernel)
theorem tm_463 : Cond.instanceMethod ⟨"SpanDeskModel", "value", "(I)I"⟩ ∈ tb_W := tb_in (List.mem_of_getElem? (i := 463) (by decide +kernel)) (by decide +kernel)
theorem tm_464 : Cond.selects "SpanDeskModel" ⟨"SpanDeskModel", "value", "(I)I"⟩ ⟨"SpanDeskModel", "value", "(I)I"⟩ ∈ tb_W := tb_in (List.mem_of_getElem? (i := 464) (by decide +kernel)) (by decide +kernel)
theorem tm_465 : Cond.code ⟨"SpanDeskModel", "value", "(I)I"⟩ prog_5_method_20_code 2 (Option.some Jvm.ClassFile.FieldType.int) ∈ tb_W := tb_in (List.mem_of_getElem? (i := 465) (by decide +kernel)) (by decide +kernel)
theorem tm_466 : Cond.methodLink "SpanDeskLaw" 74 ⟨"SpanDeskModel", "follow", "(IZ)I"⟩ ∈ tb_W := tb_in (List.mem_of_getElem? (i := 466) (by decide +kernel)) (by decide +kernel)
theorem tm_467 : Cond.instanceMethod ⟨"SpanDeskModel", "follow", "(IZ)I"⟩ ∈ tb_W := tb_in (List.mem_of_getElem? (i := 467) (by decide +kernel)) (by decide +kernel)
theorem tm_468 : Cond.selects "SpanDeskModel" ⟨"SpanDeskModel", "follow", "(IZ)I"⟩ ⟨"SpanDeskModel", "follow", "(IZ)I"⟩ ∈ tb_W := tb_in (List.mem_of_getElem? (i := 468) (by decide +kernel)) (by decide +kernel)
theorem tm_469 : Cond.code ⟨"SpanDeskModel", "follow", "(IZ)I"⟩ prog_5_method_23_code 3 (Option.some Jvm.ClassFile.FieldType.int) ∈ tb_W := tb_in (List.mem_of_getElem? (i := 469) (by decide +kernel)) (by decide +kernel)
theorem tm_470 : Cond.methodLink "SpanDeskModel" 75 ⟨"SpanDeskModel", "length", "(I)I"⟩ ∈ tb_W := tb_in (List.mem_of_getElem? (i := 470) (by decide +kernel)) (by decide +kernel)
theorem tm_472 : Cond.instanceMethod ⟨"SpanDeskModel", "length", "(I)I"⟩ ∈ tb_W := tb_in (List.mem_of_getElem? (i := 472) (by decide +kernel)) (by decide +kernel)
theorem tm_473 : Cond.code ⟨"SpanDeskModel", "length", "(I)I"⟩ prog_5_method_21_code 4 (Option.some Jvm.ClassFile.FieldType.int) ∈ tb_W := tb_in (List.mem_of_getElem? (i := 473) (by decide +kernel)) (by decide +kernel)
theorem tm_474 : Cond.methodLink "SpanDeskModel" 78 ⟨"SpanDeskModel", "next", "(IZ)I"⟩ ∈ tb_W := tb_in (List.mem_of_getElem? (i := 474) (by decide +kernel)) (by decide +kernel)
theorem tm_476 : Cond.instanceMethod ⟨"SpanDeskModel", "next", "(IZ)I"⟩ ∈ tb_W := tb_in (List.mem_of_getElem? (i := 476) (by decide +kernel)) (by decide +kernel)
theorem tm_477 : Cond.code ⟨"SpanDeskModel", "next", "(IZ)I"⟩ prog_5_method_22_code 7 (Option.some Jvm.ClassFile.FieldType.int) ∈ tb_W := tb_in (List.mem_of_getElem? (i := 477) (by decide +kernel)) (by decide +kernel)
theorem tm_478 : Cond.methodLink "SpanDeskLaw" 78 ⟨"SpanDeskModel", "jumps", "(I)Z"⟩ ∈ tb_W := tb_in (List.mem_of_getElem? (i := 478) (by decide +kernel)) (by decide +kernel)
theorem tm_479 : Cond.instanceMethod ⟨"SpanDeskModel", "jumps", "(I)Z"⟩ ∈ tb_W := tb_in (List.mem_of_getElem? (i := 479) (by decide +kernel)) (by decide +kernel)
theorem tm_480 : Cond.selects "SpanDeskModel" ⟨"SpanDeskModel", "jumps", "(I)Z"⟩ ⟨"SpanDeskModel", "jumps", "(I)Z"⟩ ∈ tb_W := tb_in (List.mem_of_getElem? (i := 480) (by decide +kernel)) (by decide +kernel)
theorem tm_481 : Cond.code ⟨"SpanDeskModel", "jumps", "(I)Z"⟩ prog_5_method_24_code 2 (Option.some Jvm.ClassFile.FieldType.boolean) ∈ tb_W := tb_in (List.mem_of_getElem? (i := 481) (by decide +kernel)) (by decide +kernel)
theorem tm_482 : Cond.methodLink "SpanDeskLaw" 83 ⟨"SpanDeskModel", "trace", "(III)I"⟩ ∈ tb_W := tb_in (List.mem_of_getElem? (i := 482) (by decide +kernel)) (by decide +kernel)
theorem tm_483 : Cond.instanceMethod ⟨"SpanDeskModel", "trace", "(III)I"⟩ ∈ tb_W := tb_in (List.mem_of_getElem? (i := 483) (by decide +kernel)) (by decide +kernel)
theorem tm_484 : Cond.selects "SpanDeskModel" ⟨"SpanDeskModel", "trace", "(III)I"⟩ ⟨"SpanDeskModel", "trace", "(III)I"⟩ ∈ tb_W := tb_in (List.mem_of_getElem? (i := 484) (by decide +kernel)) (by decide +kernel)
theorem tm_485 : Cond.code ⟨"SpanDeskModel", "trace", "(III)I"⟩ prog_5_method_25_code 8 (Option.some Jvm.ClassFile.FieldType.int) ∈ tb_W := tb_in (List.mem_of_getElem? (i := 485) (by decide +kernel)) (by decide +kernel)
theorem tm_486 : Cond.arrayClass Jvm.ClassFile.FieldType.long ∈ tb_W := tb_in (List.mem_of_getElem? (i := 486) (by decide +kernel)) (by decide +kernel)
theorem tm_s0 : Cond.selects "SpanDesk$Program" ⟨"SpanDesk$Program", "shift", "(III)V"⟩ ⟨"SpanDesk$Program", "shift", "(III)V"⟩ ∈ tb_W := tb_sel (List.mem_of_getElem? (i := 0) (by decide +kernel)) (by decide +kernel)
theorem tm_s1 : Cond.selects "SpanDesk$Assembly" ⟨"SpanDesk$Assembly", "lineByte", "(II)I"⟩ ⟨"SpanDesk$Assembly", "lineByte", "(II)I"⟩ ∈ tb_W := tb_sel (List.mem_of_getElem? (i := 1) (by decide +kernel)) (by decide +kernel)
theorem tm_s2 : Cond.selects "SpanDesk$Assembly" ⟨"SpanDesk$Assembly", "longByte", "(II)I"⟩ ⟨"SpanDesk$Assembly", "longByte", "(II)I"⟩ ∈ tb_W := tb_sel (List.mem_of_getElem? (i := 2) (by decide +kernel)) (by decide +kernel)
theorem tm_s3 : Cond.selects "SpanDesk$Assembly" ⟨"SpanDesk$Assembly", "lineSize", "(I)I"⟩ ⟨"SpanDesk$Assembly", "lineSize", "(I)I"⟩ ∈ tb_W := tb_sel (List.mem_of_getElem? (i := 3) (by decide +kernel)) (by decide +kernel)
theorem tm_s4 : Cond.selects "SpanDesk$Assembly" ⟨"SpanDesk$Assembly", "distance", "(I)I"⟩ ⟨"SpanDesk$Assembly", "distance", "(I)I"⟩ ∈ tb_W := tb_sel (List.mem_of_getElem? (i := 4) (by decide +kernel)) (by decide +kernel)
theorem tm_s5 : Cond.selects "SpanDesk$Assembly" ⟨"SpanDesk$Assembly", "shortByte", "(II)I"⟩ ⟨"SpanDesk$Assembly", "shortByte", "(II)I"⟩ ∈ tb_W := tb_sel (List.mem_of_getElem? (i := 5) (by decide +kernel)) (by decide +kernel)
theorem tm_s6 : Cond.selects "SpanDesk$Program" ⟨"SpanDesk$Program", "countDefined", "(I)I"⟩ ⟨"SpanDesk$Program", "countDefined", "(I)I"⟩ ∈ tb_W := tb_sel (List.mem_of_getElem? (i := 6) (by decide +kernel)) (by decide +kernel)
theorem tm_s7 : Cond.selects "java/lang/Throwable" ⟨"java/lang/Throwable", "fillInStackTrace", "(I)Ljava/lang/Throwable;"⟩ ⟨"java/lang/Throwable", "fillInStackTrace", "(I)Ljava/lang/Throwable;"⟩ ∈ tb_W := tb_sel (List.mem_of_getElem? (i := 7) (by decide +kernel)) (by decide +kernel)
theorem tm_s8 : Cond.selects "SpanDesk$Assembly" ⟨"SpanDesk$Assembly", "makeAllShort", "()V"⟩ ⟨"SpanDesk$Assembly", "makeAllShort", "()V"⟩ ∈ tb_W := tb_sel (List.mem_of_getElem? (i := 8) (by decide +kernel)) (by decide +kernel)
theorem tm_s9 : Cond.selects "SpanDesk$Assembly" ⟨"SpanDesk$Assembly", "place", "()V"⟩ ⟨"SpanDesk$Assembly", "place", "()V"⟩ ∈ tb_W := tb_sel (List.mem_of_getElem? (i := 9) (by decide +kernel)) (by decide +kernel)
theorem tm_s10 : Cond.selects "SpanDesk$Assembly" ⟨"SpanDesk$Assembly", "lengthen", "()Z"⟩ ⟨"SpanDesk$Assembly", "lengthen", "()Z"⟩ ∈ tb_W := tb_sel (List.mem_of_getElem? (i := 10) (by decide +kernel)) (by decide +kernel)
theorem tm_s11 : Cond.selects "SpanDeskModel" ⟨"SpanDeskModel", "wrong", "()I"⟩ ⟨"SpanDeskModel", "wrong", "()I"⟩ ∈ tb_W := tb_sel (List.mem_of_getElem? (i := 11) (by decide +kernel)) (by decide +kernel)
theorem tm_s12 : Cond.selects "SpanDeskModel" ⟨"SpanDeskModel", "definitions", "(I)I"⟩ ⟨"SpanDeskModel", "definitions", "(I)I"⟩ ∈ tb_W := tb_sel (List.mem_of_getElem? (i := 12) (by decide +kernel)) (by decide +kernel)
theorem tm_s13 : Cond.selects "SpanDeskModel" ⟨"SpanDeskModel", "span", "(I)I"⟩ ⟨"SpanDeskModel", "span", "(I)I"⟩ ∈ tb_W := tb_sel (List.mem_of_getElem? (i := 13) (by decide +kernel)) (by decide +kernel)
theorem tm_s14 : Cond.selects "SpanDeskModel" ⟨"SpanDeskModel", "labelled", "(I)I"⟩ ⟨"SpanDeskModel", "labelled", "(I)I"⟩ ∈ tb_W := tb_sel (List.mem_of_getElem? (i := 14) (by decide +kernel)) (by decide +kernel)
theorem tm_s15 : Cond.selects "SpanDeskModel" ⟨"SpanDeskModel", "place", "(I)I"⟩ ⟨"SpanDeskModel", "place", "(I)I"⟩ ∈ tb_W := tb_sel (List.mem_of_getElem? (i := 15) (by decide +kernel)) (by decide +kernel)
theorem tm_s16 : Cond.selects "SpanDeskModel" ⟨"SpanDeskModel", "byteAt", "(I)I"⟩ ⟨"SpanDeskModel", "byteAt", "(I)I"⟩ ∈ tb_W := tb_sel (List.mem_of_getElem? (i := 16) (by decide +kernel)) (by decide +kernel)
theorem tm_s17 : Cond.selects "SpanDeskModel" ⟨"SpanDeskModel", "jumpByte", "(II)I"⟩ ⟨"SpanDeskModel", "jumpByte", "(II)I"⟩ ∈ tb_W := tb_sel (List.mem_of_getElem? (i := 17) (by decide +kernel)) (by decide +kernel)
theorem tm_s18 : Cond.selects "SpanDeskModel" ⟨"SpanDeskModel", "length", "(I)I"⟩ ⟨"SpanDeskModel", "length", "(I)I"⟩ ∈ tb_W := tb_sel (List.mem_of_getElem? (i := 18) (by decide +kernel)) (by decide +kernel)
theorem tm_s19 : Cond.selects "SpanDeskModel" ⟨"SpanDeskModel", "next", "(IZ)I"⟩ ⟨"SpanDeskModel", "next", "(IZ)I"⟩ ∈ tb_W := tb_sel (List.mem_of_getElem? (i := 19) (by decide +kernel)) (by decide +kernel)
end
section
theorem dX2_init_0 : decode cX2_init 0 = .ok (.aload_n 0, 1) := by decide +kernel
theorem dX2_init_1 : decode cX2_init 1 = .ok (.invokespecial 1, 3) := by decide +kernel
theorem dX2_init_4 : decode cX2_init 4 = .ok (.aload_n 0, 1) := by decide +kernel
theorem dX2_init_5 : decode cX2_init 5 = .ok (.new 7, 3) := by decide +kernel
theorem dX2_init_8 : decode cX2_init 8 = .ok (.dup, 1) := by decide +kernel
theorem dX2_init_9 : decode cX2_init 9 = .ok (.invokespecial 9, 3) := by decide +kernel
theorem dX2_init_12 : decode cX2_init 12 = .ok (.putfield 10, 3) := by decide +kernel
theorem dX2_init_15 : decode cX2_init 15 = .ok (.aload_n 0, 1) := by decide +kernel
theorem dX2_init_16 : decode cX2_init 16 = .ok (.new 16, 3) := by decide +kernel
theorem dX2_init_19 : decode cX2_init 19 = .ok (.dup, 1) := by decide +kernel
theorem dX2_init_20 : decode cX2_init 20 = .ok (.invokespecial 18, 3) := by decide +kernel
theorem dX2_init_23 : decode cX2_init 23 = .ok (.putfield 19, 3) := by decide +kernel
theorem dX2_init_26 : decode cX2_init 26 = .ok (.return_, 1) := by decide +kernel
theorem dX1_init_0 : decode cX1_init 0 = .ok (.aload_n 0, 1) := by decide +kernel
theorem dX1_init_1 : decode cX1_init 1 = .ok (.invokespecial 3, 3) := by decide +kernel
theorem dX1_init_4 : decode cX1_init 4 = .ok (.aload_n 0, 1) := by decide +kernel
theorem dX1_init_5 : decode cX1_init 5 = .ok (.bipush 50, 2) := by decide +kernel
theorem dX1_init_7 : decode cX1_init 7 = .ok (.newarray .int, 2) := by decide +kernel
theorem dX1_init_9 : decode cX1_init 9 = .ok (.putfield 9, 3) := by decide +kernel
theorem dX1_init_12 : decode cX1_init 12 = .ok (.aload_n 0, 1) := by decide +kernel
theorem dX1_init_13 : decode cX1_init 13 = .ok (.bipush 50, 2) := by decide +kernel
theorem dX1_init_15 : decode cX1_init 15 = .ok (.newarray .int, 2) := by decide +kernel
theorem dX1_init_17 : decode cX1_init 17 = .ok (.putfield 15, 3) := by decide +kernel
theorem dX1_init_20 : decode cX1_init 20 = .ok (.aload_n 0, 1) := by decide +kernel
theorem dX1_init_21 : decode cX1_init 21 = .ok (.bipush 50, 2) := by decide +kernel
theorem dX1_init_23 : decode cX1_init 23 = .ok (.newarray .int, 2) := by decide +kernel
theorem dX1_init_25 : decode cX1_init 25 = .ok (.putfield 18, 3) := by decide +kernel
theorem dX1_init_28 : decode cX1_init 28 = .ok (.aload_n 0, 1) := by decide +kernel
theorem dX1_init_29 : decode cX1_init 29 = .ok (.iconst 0, 1) := by decide +kernel
theorem dX1_init_30 : decode cX1_init 30 = .ok (.putfield 21, 3) := by decide +kernel
theorem dX1_init_33 : decode cX1_init 33 = .ok (.return_, 1) := by decide +kernel
theorem dX0_init_0 : decode cX0_init 0 = .ok (.aload_n 0, 1) := by decide +kernel
theorem dX0_init_1 : decode cX0_init 1 = .ok (.invokespecial 3, 3) := by decide +kernel
theorem dX0_init_4 : decode cX0_init 4 = .ok (.aload_n 0, 1) := by decide +kernel
theorem dX0_init_5 : decode cX0_init 5 = .ok (.new 9, 3) := by decide +kernel
theorem dX0_init_8 : decode cX0_init 8 = .ok (.dup, 1) := by decide +kernel
theorem dX0_init_9 : decode cX0_init 9 = .ok (.invokespecial 11, 3) := by decide +kernel
theorem dX0_init_12 : decode cX0_init 12 = .ok (.putfield 12, 3) := by decide +kernel
theorem dX0_init_15 : decode cX0_init 15 = .ok (.aload_n 0, 1) := by decide +kernel
theorem dX0_init_16 : decode cX0_init 16 = .ok (.bipush 51, 2) := by decide +kernel
theorem dX0_init_18 : decode cX0_init 18 = .ok (.newarray .int, 2) := by decide +kernel
theorem dX0_init_20 : decode cX0_init 20 = .ok (.putfield 18, 3) := by decide +kernel
theorem dX0_init_23 : decode cX0_init 23 = .ok (.aload_n 0, 1) := by decide +kernel
theorem dX0_init_24 : decode cX0_init 24 = .ok (.bipush 50, 2) := by decide +kernel
theorem dX0_init_26 : decode cX0_init 26 = .ok (.newarray .int, 2) := by decide +kernel
theorem dX0_init_28 : decode cX0_init 28 = .ok (.putfield 22, 3) := by decide +kernel
theorem dX0_init_31 : decode cX0_init 31 = .ok (.aload_n 0, 1) := by decide +kernel
theorem dX0_init_32 : decode cX0_init 32 = .ok (.bipush 16, 2) := by decide +kernel
theorem dX0_init_34 : decode cX0_init 34 = .ok (.newarray .int, 2) := by decide +kernel
theorem dX0_init_36 : decode cX0_init 36 = .ok (.putfield 25, 3) := by decide +kernel
theorem dX0_init_39 : decode cX0_init 39 = .ok (.aload_n 0, 1) := by decide +kernel
theorem dX0_init_40 : decode cX0_init 40 = .ok (.getfield 25, 3) := by decide +kernel
theorem dX0_init_43 : decode cX0_init 43 = .ok (.iconst (-1), 1) := by decide +kernel
theorem dX0_init_44 : decode cX0_init 44 = .ok (.invokestatic 28, 3) := by decide +kernel
theorem dX0_init_47 : decode cX0_init 47 = .ok (.return_, 1) := by decide +kernel
theorem dJ7_fill_0 : decode cJ7_fill 0 = .ok (.iconst 0, 1) := by decide +kernel
theorem dJ7_fill_1 : decode cJ7_fill 1 = .ok (.istore_n 2, 1) := by decide +kernel
theorem dJ7_fill_2 : decode cJ7_fill 2 = .ok (.aload_n 0, 1) := by decide +kernel
theorem dJ7_fill_3 : decode cJ7_fill 3 = .ok (.arraylength, 1) := by decide +kernel
theorem dJ7_fill_4 : decode cJ7_fill 4 = .ok (.istore_n 3, 1) := by decide +kernel
theorem dJ7_fill_5 : decode cJ7_fill 5 = .ok (.iload_n 2, 1) := by decide +kernel
theorem dJ7_fill_6 : decode cJ7_fill 6 = .ok (.iload_n 3, 1) := by decide +kernel
theorem dJ7_fill_7 : decode cJ7_fill 7 = .ok (.if_icmp .ge 13, 3) := by decide +kernel
theorem dJ7_fill_10 : decode cJ7_fill 10 = .ok (.aload_n 0, 1) := by decide +kernel
theorem dJ7_fill_11 : decode cJ7_fill 11 = .ok (.iload_n 2, 1) := by decide +kernel
theorem dJ7_fill_12 : decode cJ7_fill 12 = .ok (.iload_n 1, 1) := by decide +kernel
theorem dJ7_fill_13 : decode cJ7_fill 13 = .ok (.iastore, 1) := by decide +kernel
theorem dJ7_fill_14 : decode cJ7_fill 14 = .ok (.iinc 2 1, 3) := by decide +kernel
theorem dJ7_fill_17 : decode cJ7_fill 17 = .ok (.goto (-12), 3) := by decide +kernel
theorem dJ7_fill_20 : decode cJ7_fill 20 = .ok (.return_, 1) := by decide +kernel
theorem dX2_insert_0 : decode cX2_insert 0 = .ok (.iload_n 2, 1) := by decide +kernel
theorem dX2_insert_1 : decode cX2_insert 1 = .ok (.iload_n 3, 1) := by decide +kernel
theorem dX2_insert_2 : decode cX2_insert 2 = .ok (.iload 4, 2) := by decide +kernel
theorem dX2_insert_4 : decode cX2_insert 4 = .ok (.invokestatic 23, 3) := by decide +kernel
theorem dX2_insert_7 : decode cX2_insert 7 = .ok (.ifCond .eq 22, 3) := by decide +kernel
theorem dX2_insert_10 : decode cX2_insert 10 = .ok (.aload_n 0, 1) := by decide +kernel
theorem dX2_insert_11 : decode cX2_insert 11 = .ok (.getfield 10, 3) := by decide +kernel
theorem dX2_insert_14 : decode cX2_insert 14 = .ok (.iload_n 1, 1) := by decide +kernel
theorem dX2_insert_15 : decode cX2_insert 15 = .ok (.iload_n 2, 1) := by decide +kernel
theorem dX2_insert_16 : decode cX2_insert 16 = .ok (.iload_n 3, 1) := by decide +kernel
theorem dX2_insert_17 : decode cX2_insert 17 = .ok (.iload 4, 2) := by decide +kernel
theorem dX2_insert_19 : decode cX2_insert 19 = .ok (.invokevirtual 27, 3) := by decide +kernel
theorem dX2_insert_22 : decode cX2_insert 22 = .ok (.ifCond .eq 7, 3) := by decide +kernel
theorem dX2_insert_25 : decode cX2_insert 25 = .ok (.iconst 1, 1) := by decide +kernel
theorem dX2_insert_26 : decode cX2_insert 26 = .ok (.goto 4, 3) := by decide +kernel
theorem dX2_insert_29 : decode cX2_insert 29 = .ok (.iconst 0, 1) := by decide +kernel
theorem dX2_insert_30 : decode cX2_insert 30 = .ok (.ireturn, 1) := by decide +kernel
theorem dX2_isLine_0 : decode cX2_isLine 0 = .ok (.iload_n 0, 1) := by decide +kernel
theorem dX2_isLine_1 : decode cX2_isLine 1 = .ok (.ifCond .ne 20, 3) := by decide +kernel
theorem dX2_isLine_4 : decode cX2_isLine 4 = .ok (.iload_n 1, 1) := by decide +kernel
theorem dX2_isLine_5 : decode cX2_isLine 5 = .ok (.invokestatic 86, 3) := by decide +kernel
theorem dX2_isLine_8 : decode cX2_isLine 8 = .ok (.ifCond .eq 11, 3) := by decide +kernel
theorem dX2_isLine_11 : decode cX2_isLine 11 = .ok (.iload_n 2, 1) := by decide +kernel
theorem dX2_isLine_12 : decode cX2_isLine 12 = .ok (.ifCond .ne 7, 3) := by decide +kernel
theorem dX2_isLine_15 : decode cX2_isLine 15 = .ok (.iconst 1, 1) := by decide +kernel
theorem dX2_isLine_16 : decode cX2_isLine 16 = .ok (.goto 4, 3) := by decide +kernel
theorem dX2_isLine_19 : decode cX2_isLine 19 = .ok (.iconst 0, 1) := by decide +kernel
theorem dX2_isLine_20 : decode cX2_isLine 20 = .ok (.ireturn, 1) := by decide +kernel
theorem dX2_isLine_21 : decode cX2_isLine 21 = .ok (.iload_n 0, 1) := by decide +kernel
theorem dX2_isLine_22 : decode cX2_isLine 22 = .ok (.iconst 1, 1) := by decide +kernel
theorem dX2_isLine_23 : decode cX2_isLine 23 = .ok (.if_icmp .ne 31, 3) := by decide +kernel
theorem dX2_isLine_26 : decode cX2_isLine 26 = .ok (.iload_n 1, 1) := by decide +kernel
theorem dX2_isLine_27 : decode cX2_isLine 27 = .ok (.iconst 1, 1) := by decide +kernel
theorem dX2_isLine_28 : decode cX2_isLine 28 = .ok (.sipush 200, 3) := by decide +kernel
theorem dX2_isLine_31 : decode cX2_isLine 31 = .ok (.invokestatic 107, 3) := by decide +kernel
theorem dX2_isLine_34 : decode cX2_isLine 34 = .ok (.ifCond .eq 18, 3) := by decide +kernel
theorem dX2_isLine_37 : decode cX2_isLine 37 = .ok (.iload_n 2, 1) := by decide +kernel
theorem dX2_isLine_38 : decode cX2_isLine 38 = .ok (.iconst 0, 1) := by decide +kernel
theorem dX2_isLine_39 : decode cX2_isLine 39 = .ok (.sipush 255, 3) := by decide +kernel
theorem dX2_isLine_42 : decode cX2_isLine 42 = .ok (.invokestatic 107, 3) := by decide +kernel
theorem dX2_isLine_45 : decode cX2_isLine 45 = .ok (.ifCond .eq 7, 3) := by decide +kernel
theorem dX2_isLine_48 : decode cX2_isLine 48 = .ok (.iconst 1, 1) := by decide +kernel
theorem dX2_isLine_49 : decode cX2_isLine 49 = .ok (.goto 4, 3) := by decide +kernel
theorem dX2_isLine_52 : decode cX2_isLine 52 = .ok (.iconst 0, 1) := by decide +kernel
theorem dX2_isLine_53 : decode cX2_isLine 53 = .ok (.ireturn, 1) := by decide +kernel
theorem dX2_isLine_54 : decode cX2_isLine 54 = .ok (.iload_n 0, 1) := by decide +kernel
theorem dX2_isLine_55 : decode cX2_isLine 55 = .ok (.iconst 2, 1) := by decide +kernel
theorem dX2_isLine_56 : decode cX2_isLine 56 = .ok (.if_icmp .ne 29, 3) := by decide +kernel
theorem dX2_isLine_59 : decode cX2_isLine 59 = .ok (.iload_n 1, 1) := by decide +kernel
theorem dX2_isLine_60 : decode cX2_isLine 60 = .ok (.invokestatic 86, 3) := by decide +kernel
theorem dX2_isLine_63 : decode cX2_isLine 63 = .ok (.ifCond .eq 20, 3) := by decide +kernel
theorem dX2_isLine_66 : decode cX2_isLine 66 = .ok (.iload_n 2, 1) := by decide +kernel
theorem dX2_isLine_67 : decode cX2_isLine 67 = .ok (.sipush (-1000), 3) := by decide +kernel
theorem dX2_isLine_70 : decode cX2_isLine 70 = .ok (.sipush 1000, 3) := by decide +kernel
theorem dX2_isLine_73 : decode cX2_isLine 73 = .ok (.invokestatic 107, 3) := by decide +kernel
theorem dX2_isLine_76 : decode cX2_isLine 76 = .ok (.ifCond .eq 7, 3) := by decide +kernel
theorem dX2_isLine_79 : decode cX2_isLine 79 = .ok (.iconst 1, 1) := by decide +kernel
theorem dX2_isLine_80 : decode cX2_isLine 80 = .ok (.goto 4, 3) := by decide +kernel
theorem dX2_isLine_83 : decode cX2_isLine 83 = .ok (.iconst 0, 1) := by decide +kernel
theorem dX2_isLine_84 : decode cX2_isLine 84 = .ok (.ireturn, 1) := by decide +kernel
theorem dX2_isLine_85 : decode cX2_isLine 85 = .ok (.iload_n 0, 1) := by decide +kernel
theorem dX2_isLine_86 : decode cX2_isLine 86 = .ok (.iconst 3, 1) := by decide +kernel
theorem dX2_isLine_87 : decode cX2_isLine 87 = .ok (.if_icmp .ne 24, 3) := by decide +kernel
theorem dX2_isLine_90 : decode cX2_isLine 90 = .ok (.iload_n 1, 1) := by decide +kernel
theorem dX2_isLine_91 : decode cX2_isLine 91 = .ok (.invokestatic 86, 3) := by decide +kernel
theorem dX2_isLine_94 : decode cX2_isLine 94 = .ok (.ifCond .eq 17, 3) := by decide +kernel
theorem dX2_isLine_97 : decode cX2_isLine 97 = .ok (.iload_n 2, 1) := by decide +kernel
theorem dX2_isLine_98 : decode cX2_isLine 98 = .ok (.iconst 0, 1) := by decide +kernel
theorem dX2_isLine_99 : decode cX2_isLine 99 = .ok (.bipush 7, 2) := by decide +kernel
theorem dX2_isLine_101 : decode cX2_isLine 101 = .ok (.invokestatic 107, 3) := by decide +kernel
theorem dX2_isLine_104 : decode cX2_isLine 104 = .ok (.ifCond .eq 7, 3) := by decide +kernel
theorem dX2_isLine_107 : decode cX2_isLine 107 = .ok (.iconst 1, 1) := by decide +kernel
theorem dX2_isLine_108 : decode cX2_isLine 108 = .ok (.goto 4, 3) := by decide +kernel
theorem dX2_isLine_111 : decode cX2_isLine 111 = .ok (.iconst 0, 1) := by decide +kernel
theorem dX2_isLine_112 : decode cX2_isLine 112 = .ok (.ireturn, 1) := by decide +kernel
theorem dX2_isLabel_0 : decode cX2_isLabel 0 = .ok (.iload_n 0, 1) := by decide +kernel
theorem dX2_isLabel_1 : decode cX2_isLabel 1 = .ok (.iconst 0, 1) := by decide +kernel
theorem dX2_isLabel_2 : decode cX2_isLabel 2 = .ok (.bipush 15, 2) := by decide +kernel
theorem dX2_isLabel_4 : decode cX2_isLabel 4 = .ok (.invokestatic 107, 3) := by decide +kernel
theorem dX2_isLabel_7 : decode cX2_isLabel 7 = .ok (.ireturn, 1) := by decide +kernel
theorem dX2_isWithin_0 : decode cX2_isWithin 0 = .ok (.iload_n 1, 1) := by decide +kernel
theorem dX2_isWithin_1 : decode cX2_isWithin 1 = .ok (.iload_n 0, 1) := by decide +kernel
theorem dX2_isWithin_2 : decode cX2_isWithin 2 = .ok (.if_icmp .gt 12, 3) := by decide +kernel
theorem dX2_isWithin_5 : decode cX2_isWithin 5 = .ok (.iload_n 0, 1) := by decide +kernel
theorem dX2_isWithin_6 : decode cX2_isWithin 6 = .ok (.iload_n 2, 1) := by decide +kernel
theorem dX2_isWithin_7 : decode cX2_isWithin 7 = .ok (.if_icmp .gt 7, 3) := by decide +kernel
theorem dX2_isWithin_10 : decode cX2_isWithin 10 = .ok (.iconst 1, 1) := by decide +kernel
theorem dX2_isWithin_11 : decode cX2_isWithin 11 = .ok (.goto 4, 3) := by decide +kernel
theorem dX2_isWithin_14 : decode cX2_isWithin 14 = .ok (.iconst 0, 1) := by decide +kernel
theorem dX2_isWithin_15 : decode cX2_isWithin 15 = .ok (.ireturn, 1) := by decide +kernel
theorem dX1_open_0 : decode cX1_open 0 = .ok (.aload_n 0, 1) := by decide +kernel
theorem dX1_open_1 : decode cX1_open 1 = .ok (.getfield 21, 3) := by decide +kernel
theorem dX1_open_4 : decode cX1_open 4 = .ok (.bipush 50, 2) := by decide +kernel
theorem dX1_open_6 : decode cX1_open 6 = .ok (.if_icmp .ge 15, 3) := by decide +kernel
theorem dX1_open_9 : decode cX1_open 9 = .ok (.iload_n 1, 1) := by decide +kernel
theorem dX1_open_10 : decode cX1_open 10 = .ok (.ifCond .lt 11, 3) := by decide +kernel
theorem dX1_open_13 : decode cX1_open 13 = .ok (.iload_n 1, 1) := by decide +kernel
theorem dX1_open_14 : decode cX1_open 14 = .ok (.aload_n 0, 1) := by decide +kernel
theorem dX1_open_15 : decode cX1_open 15 = .ok (.getfield 21, 3) := by decide +kernel
theorem dX1_open_18 : decode cX1_open 18 = .ok (.if_icmp .le 5, 3) := by decide +kernel
theorem dX1_open_21 : decode cX1_open 21 = .ok (.iconst 0, 1) := by decide +kernel
theorem dX1_open_22 : decode cX1_open 22 = .ok (.ireturn, 1) := by decide +kernel
theorem dX1_open_23 : decode cX1_open 23 = .ok (.aload_n 0, 1) := by decide +kernel
theorem dX1_open_24 : decode cX1_open 24 = .ok (.iload_n 1, 1) := by decide +kernel
theorem dX1_open_25 : decode cX1_open 25 = .ok (.iload_n 1, 1) := by decide +kernel
theorem dX1_open_26 : decode cX1_open 26 = .ok (.iconst 1, 1) := by decide +kernel
theorem dX1_open_27 : decode cX1_open 27 = .ok (.iadd, 1) := by decide +kernel
theorem dX1_open_28 : decode cX1_open 28 = .ok (.aload_n 0, 1) := by decide +kernel
theorem dX1_open_29 : decode cX1_open 29 = .ok (.getfield 21, 3) := by decide +kernel
theorem dX1_open_32 : decode cX1_open 32 = .ok (.iload_n 1, 1) := by decide +kernel
theorem dX1_open_33 : decode cX1_open 33 = .ok (.isub, 1) := by decide +kernel
theorem dX1_open_34 : decode cX1_open 34 = .ok (.invokevirtual 25, 3) := by decide +kernel
theorem dX1_open_37 : decode cX1_open 37 = .ok (.aload_n 0, 1) := by decide +kernel
theorem dX1_open_38 : decode cX1_open 38 = .ok (.getfield 9, 3) := by decide +kernel
theorem dX1_open_41 : decode cX1_open 41 = .ok (.iload_n 1, 1) := by decide +kernel
theorem dX1_open_42 : decode cX1_open 42 = .ok (.iload_n 2, 1) := by decide +kernel
theorem dX1_open_43 : decode cX1_open 43 = .ok (.iastore, 1) := by decide +kernel
theorem dX1_open_44 : decode cX1_open 44 = .ok (.aload_n 0, 1) := by decide +kernel
theorem dX1_open_45 : decode cX1_open 45 = .ok (.getfield 15, 3) := by decide +kernel
theorem dX1_open_48 : decode cX1_open 48 = .ok (.iload_n 1, 1) := by decide +kernel
theorem dX1_open_49 : decode cX1_open 49 = .ok (.iload_n 3, 1) := by decide +kernel
theorem dX1_open_50 : decode cX1_open 50 = .ok (.iastore, 1) := by decide +kernel
theorem dX1_open_51 : decode cX1_open 51 = .ok (.aload_n 0, 1) := by decide +kernel
theorem dX1_open_52 : decode cX1_open 52 = .ok (.getfield 18, 3) := by decide +kernel
theorem dX1_open_55 : decode cX1_open 55 = .ok (.iload_n 1, 1) := by decide +kernel
theorem dX1_open_56 : decode cX1_open 56 = .ok (.iload 4, 2) := by decide +kernel
theorem dX1_open_58 : decode cX1_open 58 = .ok (.iastore, 1) := by decide +kernel
theorem dX1_open_59 : decode cX1_open 59 = .ok (.aload_n 0, 1) := by decide +kernel
theorem dX1_open_60 : decode cX1_open 60 = .ok (.dup, 1) := by decide +kernel
theorem dX1_open_61 : decode cX1_open 61 = .ok (.getfield 21, 3) := by decide +kernel
theorem dX1_open_64 : decode cX1_open 64 = .ok (.iconst 1, 1) := by decide +kernel
theorem dX1_open_65 : decode cX1_open 65 = .ok (.iadd, 1) := by decide +kernel
theorem dX1_open_66 : decode cX1_open 66 = .ok (.putfield 21, 3) := by decide +kernel
theorem dX1_open_69 : decode cX1_open 69 = .ok (.iconst 1, 1) := by decide +kernel
theorem dX1_open_70 : decode cX1_open 70 = .ok (.ireturn, 1) := by decide +kernel
theorem dX1_shift_0 : decode cX1_shift 0 = .ok (.aload_n 0, 1) := by decide +kernel
theorem dX1_shift_1 : decode cX1_shift 1 = .ok (.getfield 9, 3) := by decide +kernel
theorem dX1_shift_4 : decode cX1_shift 4 = .ok (.iload_n 1, 1) := by decide +kernel
theorem dX1_shift_5 : decode cX1_shift 5 = .ok (.aload_n 0, 1) := by decide +kernel
theorem dX1_shift_6 : decode cX1_shift 6 = .ok (.getfield 9, 3) := by decide +kernel
theorem dX1_shift_9 : decode cX1_shift 9 = .ok (.iload_n 2, 1) := by decide +kernel
theorem dX1_shift_10 : decode cX1_shift 10 = .ok (.iload_n 3, 1) := by decide +kernel
theorem dX1_shift_11 : decode cX1_shift 11 = .ok (.invokestatic 33, 3) := by decide +kernel
theorem dX1_shift_14 : decode cX1_shift 14 = .ok (.aload_n 0, 1) := by decide +kernel
theorem dX1_shift_15 : decode cX1_shift 15 = .ok (.getfield 15, 3) := by decide +kernel
theorem dX1_shift_18 : decode cX1_shift 18 = .ok (.iload_n 1, 1) := by decide +kernel
theorem dX1_shift_19 : decode cX1_shift 19 = .ok (.aload_n 0, 1) := by decide +kernel
theorem dX1_shift_20 : decode cX1_shift 20 = .ok (.getfield 15, 3) := by decide +kernel
theorem dX1_shift_23 : decode cX1_shift 23 = .ok (.iload_n 2, 1) := by decide +kernel
theorem dX1_shift_24 : decode cX1_shift 24 = .ok (.iload_n 3, 1) := by decide +kernel
theorem dX1_shift_25 : decode cX1_shift 25 = .ok (.invokestatic 33, 3) := by decide +kernel
theorem dX1_shift_28 : decode cX1_shift 28 = .ok (.aload_n 0, 1) := by decide +kernel
theorem dX1_shift_29 : decode cX1_shift 29 = .ok (.getfield 18, 3) := by decide +kernel
theorem dX1_shift_32 : decode cX1_shift 32 = .ok (.iload_n 1, 1) := by decide +kernel
theorem dX1_shift_33 : decode cX1_shift 33 = .ok (.aload_n 0, 1) := by decide +kernel
theorem dX1_shift_34 : decode cX1_shift 34 = .ok (.getfield 18, 3) := by decide +kernel
theorem dX1_shift_37 : decode cX1_shift 37 = .ok (.iload_n 2, 1) := by decide +kernel
theorem dX1_shift_38 : decode cX1_shift 38 = .ok (.iload_n 3, 1) := by decide +kernel
theorem dX1_shift_39 : decode cX1_shift 39 = .ok (.invokestatic 33, 3) := by decide +kernel
theorem dX1_shift_42 : decode cX1_shift 42 = .ok (.return_, 1) := by decide +kernel
theorem dX2_remove_0 : decode cX2_remove 0 = .ok (.aload_n 0, 1) := by decide +kernel
theorem dX2_remove_1 : decode cX2_remove 1 = .ok (.getfield 10, 3) := by decide +kernel
theorem dX2_remove_4 : decode cX2_remove 4 = .ok (.iload_n 1, 1) := by decide +kernel
theorem dX2_remove_5 : decode cX2_remove 5 = .ok (.invokevirtual 31, 3) := by decide +kernel
theorem dX2_remove_8 : decode cX2_remove 8 = .ok (.ireturn, 1) := by decide +kernel
theorem dX1_close_0 : decode cX1_close 0 = .ok (.aload_n 0, 1) := by decide +kernel
theorem dX1_close_1 : decode cX1_close 1 = .ok (.iload_n 1, 1) := by decide +kernel
theorem dX1_close_2 : decode cX1_close 2 = .ok (.invokevirtual 29, 3) := by decide +kernel
theorem dX1_close_5 : decode cX1_close 5 = .ok (.ifCond .ne 5, 3) := by decide +kernel
theorem dX1_close_8 : decode cX1_close 8 = .ok (.iconst 0, 1) := by decide +kernel
theorem dX1_close_9 : decode cX1_close 9 = .ok (.ireturn, 1) := by decide +kernel
theorem dX1_close_10 : decode cX1_close 10 = .ok (.aload_n 0, 1) := by decide +kernel
theorem dX1_close_11 : decode cX1_close 11 = .ok (.iload_n 1, 1) := by decide +kernel
theorem dX1_close_12 : decode cX1_close 12 = .ok (.iconst 1, 1) := by decide +kernel
theorem dX1_close_13 : decode cX1_close 13 = .ok (.iadd, 1) := by decide +kernel
theorem dX1_close_14 : decode cX1_close 14 = .ok (.iload_n 1, 1) := by decide +kernel
theorem dX1_close_15 : decode cX1_close 15 = .ok (.aload_n 0, 1) := by decide +kernel
theorem dX1_close_16 : decode cX1_close 16 = .ok (.getfield 21, 3) := by decide +kernel
theorem dX1_close_19 : decode cX1_close 19 = .ok (.iload_n 1, 1) := by decide +kernel
theorem dX1_close_20 : decode cX1_close 20 = .ok (.isub, 1) := by decide +kernel
theorem dX1_close_21 : decode cX1_close 21 = .ok (.iconst 1, 1) := by decide +kernel
theorem dX1_close_22 : decode cX1_close 22 = .ok (.isub, 1) := by decide +kernel
theorem dX1_close_23 : decode cX1_close 23 = .ok (.invokevirtual 25, 3) := by decide +kernel
theorem dX1_close_26 : decode cX1_close 26 = .ok (.aload_n 0, 1) := by decide +kernel
theorem dX1_close_27 : decode cX1_close 27 = .ok (.dup, 1) := by decide +kernel
theorem dX1_close_28 : decode cX1_close 28 = .ok (.getfield 21, 3) := by decide +kernel
theorem dX1_close_31 : decode cX1_close 31 = .ok (.iconst 1, 1) := by decide +kernel
theorem dX1_close_32 : decode cX1_close 32 = .ok (.isub, 1) := by decide +kernel
theorem dX1_close_33 : decode cX1_close 33 = .ok (.putfield 21, 3) := by decide +kernel
theorem dX1_close_36 : decode cX1_close 36 = .ok (.iconst 1, 1) := by decide +kernel
theorem dX1_close_37 : decode cX1_close 37 = .ok (.ireturn, 1) := by decide +kernel
theorem dX1_has_0 : decode cX1_has 0 = .ok (.iconst 0, 1) := by decide +kernel
theorem dX1_has_1 : decode cX1_has 1 = .ok (.iload_n 1, 1) := by decide +kernel
theorem dX1_has_2 : decode cX1_has 2 = .ok (.if_icmp .gt 15, 3) := by decide +kernel
theorem dX1_has_5 : decode cX1_has 5 = .ok (.iload_n 1, 1) := by decide +kernel
theorem dX1_has_6 : decode cX1_has 6 = .ok (.aload_n 0, 1) := by decide +kernel
theorem dX1_has_7 : decode cX1_has 7 = .ok (.getfield 21, 3) := by decide +kernel
theorem dX1_has_10 : decode cX1_has 10 = .ok (.if_icmp .ge 7, 3) := by decide +kernel
theorem dX1_has_13 : decode cX1_has 13 = .ok (.iconst 1, 1) := by decide +kernel
theorem dX1_has_14 : decode cX1_has 14 = .ok (.goto 4, 3) := by decide +kernel
theorem dX1_has_17 : decode cX1_has 17 = .ok (.iconst 0, 1) := by decide +kernel
theorem dX1_has_18 : decode cX1_has 18 = .ok (.ireturn, 1) := by decide +kernel
theorem dX2_lines_0 : decode cX2_lines 0 = .ok (.aload_n 0, 1) := by decide +kernel
theorem dX2_lines_1 : decode cX2_lines 1 = .ok (.getfield 10, 3) := by decide +kernel
theorem dX2_lines_4 : decode cX2_lines 4 = .ok (.getfield 35, 3) := by decide +kernel
theorem dX2_lines_7 : decode cX2_lines 7 = .ok (.ireturn, 1) := by decide +kernel
theorem dX2_at_0 : decode cX2_at 0 = .ok (.aload_n 0, 1) := by decide +kernel
theorem dX2_at_1 : decode cX2_at 1 = .ok (.getfield 19, 3) := by decide +kernel
theorem dX2_at_4 : decode cX2_at 4 = .ok (.iload_n 1, 1) := by decide +kernel
theorem dX2_at_5 : decode cX2_at 5 = .ok (.invokevirtual 66, 3) := by decide +kernel
theorem dX2_at_8 : decode cX2_at 8 = .ok (.ireturn, 1) := by decide +kernel
theorem dX0_byteAt_0 : decode cX0_byteAt 0 = .ok (.iload_n 1, 1) := by decide +kernel
theorem dX0_byteAt_1 : decode cX0_byteAt 1 = .ok (.ifCond .ge 5, 3) := by decide +kernel
theorem dX0_byteAt_4 : decode cX0_byteAt 4 = .ok (.iconst (-1), 1) := by decide +kernel
theorem dX0_byteAt_5 : decode cX0_byteAt 5 = .ok (.ireturn, 1) := by decide +kernel
theorem dX0_byteAt_6 : decode cX0_byteAt 6 = .ok (.iconst 0, 1) := by decide +kernel
theorem dX0_byteAt_7 : decode cX0_byteAt 7 = .ok (.istore_n 2, 1) := by decide +kernel
theorem dX0_byteAt_8 : decode cX0_byteAt 8 = .ok (.iload_n 2, 1) := by decide +kernel
theorem dX0_byteAt_9 : decode cX0_byteAt 9 = .ok (.aload_n 0, 1) := by decide +kernel
theorem dX0_byteAt_10 : decode cX0_byteAt 10 = .ok (.getfield 12, 3) := by decide +kernel
theorem dX0_byteAt_13 : decode cX0_byteAt 13 = .ok (.getfield 34, 3) := by decide +kernel
theorem dX0_byteAt_16 : decode cX0_byteAt 16 = .ok (.if_icmp .ge 35, 3) := by decide +kernel
theorem dX0_byteAt_19 : decode cX0_byteAt 19 = .ok (.iload_n 1, 1) := by decide +kernel
theorem dX0_byteAt_20 : decode cX0_byteAt 20 = .ok (.aload_n 0, 1) := by decide +kernel
theorem dX0_byteAt_21 : decode cX0_byteAt 21 = .ok (.getfield 18, 3) := by decide +kernel
theorem dX0_byteAt_24 : decode cX0_byteAt 24 = .ok (.iload_n 2, 1) := by decide +kernel
theorem dX0_byteAt_25 : decode cX0_byteAt 25 = .ok (.iconst 1, 1) := by decide +kernel
theorem dX0_byteAt_26 : decode cX0_byteAt 26 = .ok (.iadd, 1) := by decide +kernel
theorem dX0_byteAt_27 : decode cX0_byteAt 27 = .ok (.iaload, 1) := by decide +kernel
theorem dX0_byteAt_28 : decode cX0_byteAt 28 = .ok (.if_icmp .ge 17, 3) := by decide +kernel
theorem dX0_byteAt_31 : decode cX0_byteAt 31 = .ok (.aload_n 0, 1) := by decide +kernel
theorem dX0_byteAt_32 : decode cX0_byteAt 32 = .ok (.iload_n 2, 1) := by decide +kernel
theorem dX0_byteAt_33 : decode cX0_byteAt 33 = .ok (.iload_n 1, 1) := by decide +kernel
theorem dX0_byteAt_34 : decode cX0_byteAt 34 = .ok (.aload_n 0, 1) := by decide +kernel
theorem dX0_byteAt_35 : decode cX0_byteAt 35 = .ok (.getfield 18, 3) := by decide +kernel
theorem dX0_byteAt_38 : decode cX0_byteAt 38 = .ok (.iload_n 2, 1) := by decide +kernel
theorem dX0_byteAt_39 : decode cX0_byteAt 39 = .ok (.iaload, 1) := by decide +kernel
theorem dX0_byteAt_40 : decode cX0_byteAt 40 = .ok (.isub, 1) := by decide +kernel
theorem dX0_byteAt_41 : decode cX0_byteAt 41 = .ok (.invokevirtual 72, 3) := by decide +kernel
theorem dX0_byteAt_44 : decode cX0_byteAt 44 = .ok (.ireturn, 1) := by decide +kernel
theorem dX0_byteAt_45 : decode cX0_byteAt 45 = .ok (.iinc 2 1, 3) := by decide +kernel
theorem dX0_byteAt_48 : decode cX0_byteAt 48 = .ok (.goto (-40), 3) := by decide +kernel
theorem dX0_byteAt_51 : decode cX0_byteAt 51 = .ok (.iconst (-1), 1) := by decide +kernel
theorem dX0_byteAt_52 : decode cX0_byteAt 52 = .ok (.ireturn, 1) := by decide +kernel
theorem dX0_lineByte_0 : decode cX0_lineByte 0 = .ok (.aload_n 0, 1) := by decide +kernel
theorem dX0_lineByte_1 : decode cX0_lineByte 1 = .ok (.getfield 12, 3) := by decide +kernel
theorem dX0_lineByte_4 : decode cX0_lineByte 4 = .ok (.getfield 52, 3) := by decide +kernel
theorem dX0_lineByte_7 : decode cX0_lineByte 7 = .ok (.iload_n 1, 1) := by decide +kernel
theorem dX0_lineByte_8 : decode cX0_lineByte 8 = .ok (.iaload, 1) := by decide +kernel
theorem dX0_lineByte_9 : decode cX0_lineByte 9 = .ok (.istore_n 3, 1) := by decide +kernel
theorem dX0_lineByte_10 : decode cX0_lineByte 10 = .ok (.iload_n 3, 1) := by decide +kernel
theorem dX0_lineByte_11 : decode cX0_lineByte 11 = .ok (.iconst 1, 1) := by decide +kernel
theorem dX0_lineByte_12 : decode cX0_lineByte 12 = .ok (.if_icmp .ne 13, 3) := by decide +kernel
theorem dX0_lineByte_15 : decode cX0_lineByte 15 = .ok (.aload_n 0, 1) := by decide +kernel
theorem dX0_lineByte_16 : decode cX0_lineByte 16 = .ok (.getfield 12, 3) := by decide +kernel
theorem dX0_lineByte_19 : decode cX0_lineByte 19 = .ok (.getfield 69, 3) := by decide +kernel
theorem dX0_lineByte_22 : decode cX0_lineByte 22 = .ok (.iload_n 1, 1) := by decide +kernel
theorem dX0_lineByte_23 : decode cX0_lineByte 23 = .ok (.iaload, 1) := by decide +kernel
theorem dX0_lineByte_24 : decode cX0_lineByte 24 = .ok (.ireturn, 1) := by decide +kernel
theorem dX0_lineByte_25 : decode cX0_lineByte 25 = .ok (.iload_n 3, 1) := by decide +kernel
theorem dX0_lineByte_26 : decode cX0_lineByte 26 = .ok (.iconst 2, 1) := by decide +kernel
theorem dX0_lineByte_27 : decode cX0_lineByte 27 = .ok (.if_icmp .ne 32, 3) := by decide +kernel
theorem dX0_lineByte_30 : decode cX0_lineByte 30 = .ok (.aload_n 0, 1) := by decide +kernel
theorem dX0_lineByte_31 : decode cX0_lineByte 31 = .ok (.getfield 25, 3) := by decide +kernel
theorem dX0_lineByte_34 : decode cX0_lineByte 34 = .ok (.aload_n 0, 1) := by decide +kernel
theorem dX0_lineByte_35 : decode cX0_lineByte 35 = .ok (.getfield 12, 3) := by decide +kernel
theorem dX0_lineByte_38 : decode cX0_lineByte 38 = .ok (.getfield 55, 3) := by decide +kernel
theorem dX0_lineByte_41 : decode cX0_lineByte 41 = .ok (.iload_n 1, 1) := by decide +kernel
theorem dX0_lineByte_42 : decode cX0_lineByte 42 = .ok (.iaload, 1) := by decide +kernel
theorem dX0_lineByte_43 : decode cX0_lineByte 43 = .ok (.iaload, 1) := by decide +kernel
theorem dX0_lineByte_44 : decode cX0_lineByte 44 = .ok (.aload_n 0, 1) := by decide +kernel
theorem dX0_lineByte_45 : decode cX0_lineByte 45 = .ok (.getfield 12, 3) := by decide +kernel
theorem dX0_lineByte_48 : decode cX0_lineByte 48 = .ok (.getfield 69, 3) := by decide +kernel
theorem dX0_lineByte_51 : decode cX0_lineByte 51 = .ok (.iload_n 1, 1) := by decide +kernel
theorem dX0_lineByte_52 : decode cX0_lineByte 52 = .ok (.iaload, 1) := by decide +kernel
theorem dX0_lineByte_53 : decode cX0_lineByte 53 = .ok (.iadd, 1) := by decide +kernel
theorem dX0_lineByte_54 : decode cX0_lineByte 54 = .ok (.iload_n 2, 1) := by decide +kernel
theorem dX0_lineByte_55 : decode cX0_lineByte 55 = .ok (.invokestatic 76, 3) := by decide +kernel
theorem dX0_lineByte_58 : decode cX0_lineByte 58 = .ok (.ireturn, 1) := by decide +kernel
theorem dX0_lineByte_59 : decode cX0_lineByte 59 = .ok (.aload_n 0, 1) := by decide +kernel
theorem dX0_lineByte_60 : decode cX0_lineByte 60 = .ok (.getfield 22, 3) := by decide +kernel
theorem dX0_lineByte_63 : decode cX0_lineByte 63 = .ok (.iload_n 1, 1) := by decide +kernel
theorem dX0_lineByte_64 : decode cX0_lineByte 64 = .ok (.iaload, 1) := by decide +kernel
theorem dX0_lineByte_65 : decode cX0_lineByte 65 = .ok (.iconst 2, 1) := by decide +kernel
theorem dX0_lineByte_66 : decode cX0_lineByte 66 = .ok (.if_icmp .ne 12, 3) := by decide +kernel
theorem dX0_lineByte_69 : decode cX0_lineByte 69 = .ok (.aload_n 0, 1) := by decide +kernel
theorem dX0_lineByte_70 : decode cX0_lineByte 70 = .ok (.iload_n 1, 1) := by decide +kernel
theorem dX0_lineByte_71 : decode cX0_lineByte 71 = .ok (.iload_n 2, 1) := by decide +kernel
theorem dX0_lineByte_72 : decode cX0_lineByte 72 = .ok (.invokevirtual 79, 3) := by decide +kernel
theorem dX0_lineByte_75 : decode cX0_lineByte 75 = .ok (.goto 9, 3) := by decide +kernel
theorem dX0_lineByte_78 : decode cX0_lineByte 78 = .ok (.aload_n 0, 1) := by decide +kernel
theorem dX0_lineByte_79 : decode cX0_lineByte 79 = .ok (.iload_n 1, 1) := by decide +kernel
theorem dX0_lineByte_80 : decode cX0_lineByte 80 = .ok (.iload_n 2, 1) := by decide +kernel
theorem dX0_lineByte_81 : decode cX0_lineByte 81 = .ok (.invokevirtual 82, 3) := by decide +kernel
theorem dX0_lineByte_84 : decode cX0_lineByte 84 = .ok (.ireturn, 1) := by decide +kernel
theorem dX0_pairByte_0 : decode cX0_pairByte 0 = .ok (.iload_n 1, 1) := by decide +kernel
theorem dX0_pairByte_1 : decode cX0_pairByte 1 = .ok (.ifCond .ne 14, 3) := by decide +kernel
theorem dX0_pairByte_4 : decode cX0_pairByte 4 = .ok (.iload_n 0, 1) := by decide +kernel
theorem dX0_pairByte_5 : decode cX0_pairByte 5 = .ok (.bipush 8, 2) := by decide +kernel
theorem dX0_pairByte_7 : decode cX0_pairByte 7 = .ok (.ishr, 1) := by decide +kernel
theorem dX0_pairByte_8 : decode cX0_pairByte 8 = .ok (.sipush 255, 3) := by decide +kernel
theorem dX0_pairByte_11 : decode cX0_pairByte 11 = .ok (.iand, 1) := by decide +kernel
theorem dX0_pairByte_12 : decode cX0_pairByte 12 = .ok (.goto 8, 3) := by decide +kernel
theorem dX0_pairByte_15 : decode cX0_pairByte 15 = .ok (.iload_n 0, 1) := by decide +kernel
theorem dX0_pairByte_16 : decode cX0_pairByte 16 = .ok (.sipush 255, 3) := by decide +kernel
theorem dX0_pairByte_19 : decode cX0_pairByte 19 = .ok (.iand, 1) := by decide +kernel
theorem dX0_pairByte_20 : decode cX0_pairByte 20 = .ok (.ireturn, 1) := by decide +kernel
theorem dX0_longByte_0 : decode cX0_longByte 0 = .ok (.aload_n 0, 1) := by decide +kernel
theorem dX0_longByte_1 : decode cX0_longByte 1 = .ok (.iload_n 1, 1) := by decide +kernel
theorem dX0_longByte_2 : decode cX0_longByte 2 = .ok (.invokevirtual 58, 3) := by decide +kernel
theorem dX0_longByte_5 : decode cX0_longByte 5 = .ok (.iconst 3, 1) := by decide +kernel
theorem dX0_longByte_6 : decode cX0_longByte 6 = .ok (.isub, 1) := by decide +kernel
theorem dX0_longByte_7 : decode cX0_longByte 7 = .ok (.istore_n 3, 1) := by decide +kernel
theorem dX0_longByte_8 : decode cX0_longByte 8 = .ok (.iload_n 2, 1) := by decide +kernel
theorem dX0_longByte_9 : decode cX0_longByte 9 = .ok (.iload_n 3, 1) := by decide +kernel
theorem dX0_longByte_10 : decode cX0_longByte 10 = .ok (.if_icmp .ge 24, 3) := by decide +kernel
theorem dX0_longByte_13 : decode cX0_longByte 13 = .ok (.iload_n 2, 1) := by decide +kernel
theorem dX0_longByte_14 : decode cX0_longByte 14 = .ok (.ifCond .ne 18, 3) := by decide +kernel
theorem dX0_longByte_17 : decode cX0_longByte 17 = .ok (.aload_n 0, 1) := by decide +kernel
theorem dX0_longByte_18 : decode cX0_longByte 18 = .ok (.getfield 12, 3) := by decide +kernel
theorem dX0_longByte_21 : decode cX0_longByte 21 = .ok (.getfield 69, 3) := by decide +kernel
theorem dX0_longByte_24 : decode cX0_longByte 24 = .ok (.iload_n 1, 1) := by decide +kernel
theorem dX0_longByte_25 : decode cX0_longByte 25 = .ok (.iaload, 1) := by decide +kernel
theorem dX0_longByte_26 : decode cX0_longByte 26 = .ok (.invokestatic 85, 3) := by decide +kernel
theorem dX0_longByte_29 : decode cX0_longByte 29 = .ok (.goto 4, 3) := by decide +kernel
theorem dX0_longByte_32 : decode cX0_longByte 32 = .ok (.iconst 3, 1) := by decide +kernel
theorem dX0_longByte_33 : decode cX0_longByte 33 = .ok (.ireturn, 1) := by decide +kernel
theorem dX0_longByte_34 : decode cX0_longByte 34 = .ok (.iload_n 2, 1) := by decide +kernel
theorem dX0_longByte_35 : decode cX0_longByte 35 = .ok (.iload_n 3, 1) := by decide +kernel
theorem dX0_longByte_36 : decode cX0_longByte 36 = .ok (.if_icmp .ne 8, 3) := by decide +kernel
theorem dX0_longByte_39 : decode cX0_longByte 39 = .ok (.bipush 64, 2) := by decide +kernel
theorem dX0_longByte_41 : decode cX0_longByte 41 = .ok (.goto 16, 3) := by decide +kernel
theorem dX0_longByte_44 : decode cX0_longByte 44 = .ok (.aload_n 0, 1) := by decide +kernel
theorem dX0_longByte_45 : decode cX0_longByte 45 = .ok (.iload_n 1, 1) := by decide +kernel
theorem dX0_longByte_46 : decode cX0_longByte 46 = .ok (.invokevirtual 62, 3) := by decide +kernel
theorem dX0_longByte_49 : decode cX0_longByte 49 = .ok (.iload_n 2, 1) := by decide +kernel
theorem dX0_longByte_50 : decode cX0_longByte 50 = .ok (.iload_n 3, 1) := by decide +kernel
theorem dX0_longByte_51 : decode cX0_longByte 51 = .ok (.isub, 1) := by decide +kernel
theorem dX0_longByte_52 : decode cX0_longByte 52 = .ok (.iconst 1, 1) := by decide +kernel
theorem dX0_longByte_53 : decode cX0_longByte 53 = .ok (.isub, 1) := by decide +kernel
theorem dX0_longByte_54 : decode cX0_longByte 54 = .ok (.invokestatic 76, 3) := by decide +kernel
theorem dX0_longByte_57 : decode cX0_longByte 57 = .ok (.ireturn, 1) := by decide +kernel
theorem dX0_lineSize_0 : decode cX0_lineSize 0 = .ok (.aload_n 0, 1) := by decide +kernel
theorem dX0_lineSize_1 : decode cX0_lineSize 1 = .ok (.getfield 12, 3) := by decide +kernel
theorem dX0_lineSize_4 : decode cX0_lineSize 4 = .ok (.getfield 52, 3) := by decide +kernel
theorem dX0_lineSize_7 : decode cX0_lineSize 7 = .ok (.iload_n 1, 1) := by decide +kernel
theorem dX0_lineSize_8 : decode cX0_lineSize 8 = .ok (.iaload, 1) := by decide +kernel
theorem dX0_lineSize_9 : decode cX0_lineSize 9 = .ok (.istore_n 2, 1) := by decide +kernel
theorem dX0_lineSize_10 : decode cX0_lineSize 10 = .ok (.iload_n 2, 1) := by decide +kernel
theorem dX0_lineSize_11 : decode cX0_lineSize 11 = .ok (.iconst 1, 1) := by decide +kernel
theorem dX0_lineSize_12 : decode cX0_lineSize 12 = .ok (.if_icmp .ne 13, 3) := by decide +kernel
theorem dX0_lineSize_15 : decode cX0_lineSize 15 = .ok (.aload_n 0, 1) := by decide +kernel
theorem dX0_lineSize_16 : decode cX0_lineSize 16 = .ok (.getfield 12, 3) := by decide +kernel
theorem dX0_lineSize_19 : decode cX0_lineSize 19 = .ok (.getfield 55, 3) := by decide +kernel
theorem dX0_lineSize_22 : decode cX0_lineSize 22 = .ok (.iload_n 1, 1) := by decide +kernel
theorem dX0_lineSize_23 : decode cX0_lineSize 23 = .ok (.iaload, 1) := by decide +kernel
theorem dX0_lineSize_24 : decode cX0_lineSize 24 = .ok (.ireturn, 1) := by decide +kernel
theorem dX0_lineSize_25 : decode cX0_lineSize 25 = .ok (.iload_n 2, 1) := by decide +kernel
theorem dX0_lineSize_26 : decode cX0_lineSize 26 = .ok (.iconst 2, 1) := by decide +kernel
theorem dX0_lineSize_27 : decode cX0_lineSize 27 = .ok (.if_icmp .ne 5, 3) := by decide +kernel
theorem dX0_lineSize_30 : decode cX0_lineSize 30 = .ok (.iconst 2, 1) := by decide +kernel
theorem dX0_lineSize_31 : decode cX0_lineSize 31 = .ok (.ireturn, 1) := by decide +kernel
theorem dX0_lineSize_32 : decode cX0_lineSize 32 = .ok (.aload_n 0, 1) := by decide +kernel
theorem dX0_lineSize_33 : decode cX0_lineSize 33 = .ok (.getfield 22, 3) := by decide +kernel
theorem dX0_lineSize_36 : decode cX0_lineSize 36 = .ok (.iload_n 1, 1) := by decide +kernel
theorem dX0_lineSize_37 : decode cX0_lineSize 37 = .ok (.iaload, 1) := by decide +kernel
theorem dX0_lineSize_38 : decode cX0_lineSize 38 = .ok (.iconst 2, 1) := by decide +kernel
theorem dX0_lineSize_39 : decode cX0_lineSize 39 = .ok (.if_icmp .ne 21, 3) := by decide +kernel
theorem dX0_lineSize_42 : decode cX0_lineSize 42 = .ok (.aload_n 0, 1) := by decide +kernel
theorem dX0_lineSize_43 : decode cX0_lineSize 43 = .ok (.getfield 12, 3) := by decide +kernel
theorem dX0_lineSize_46 : decode cX0_lineSize 46 = .ok (.getfield 69, 3) := by decide +kernel
theorem dX0_lineSize_49 : decode cX0_lineSize 49 = .ok (.iload_n 1, 1) := by decide +kernel
theorem dX0_lineSize_50 : decode cX0_lineSize 50 = .ok (.iaload, 1) := by decide +kernel
theorem dX0_lineSize_51 : decode cX0_lineSize 51 = .ok (.ifCond .ne 7, 3) := by decide +kernel
theorem dX0_lineSize_54 : decode cX0_lineSize 54 = .ok (.iconst 3, 1) := by decide +kernel
theorem dX0_lineSize_55 : decode cX0_lineSize 55 = .ok (.goto 4, 3) := by decide +kernel
theorem dX0_lineSize_58 : decode cX0_lineSize 58 = .ok (.iconst 5, 1) := by decide +kernel
theorem dX0_lineSize_59 : decode cX0_lineSize 59 = .ok (.ireturn, 1) := by decide +kernel
theorem dX0_lineSize_60 : decode cX0_lineSize 60 = .ok (.aload_n 0, 1) := by decide +kernel
theorem dX0_lineSize_61 : decode cX0_lineSize 61 = .ok (.getfield 22, 3) := by decide +kernel
theorem dX0_lineSize_64 : decode cX0_lineSize 64 = .ok (.iload_n 1, 1) := by decide +kernel
theorem dX0_lineSize_65 : decode cX0_lineSize 65 = .ok (.iaload, 1) := by decide +kernel
theorem dX0_lineSize_66 : decode cX0_lineSize 66 = .ok (.iconst 1, 1) := by decide +kernel
theorem dX0_lineSize_67 : decode cX0_lineSize 67 = .ok (.if_icmp .ne 7, 3) := by decide +kernel
theorem dX0_lineSize_70 : decode cX0_lineSize 70 = .ok (.iconst 2, 1) := by decide +kernel
theorem dX0_lineSize_71 : decode cX0_lineSize 71 = .ok (.goto 4, 3) := by decide +kernel
theorem dX0_lineSize_74 : decode cX0_lineSize 74 = .ok (.iconst 0, 1) := by decide +kernel
theorem dX0_lineSize_75 : decode cX0_lineSize 75 = .ok (.ireturn, 1) := by decide +kernel
theorem dX0_oppositeCode_0 : decode cX0_oppositeCode 0 = .ok (.bipush 32, 2) := by decide +kernel
theorem dX0_oppositeCode_2 : decode cX0_oppositeCode 2 = .ok (.iload_n 0, 1) := by decide +kernel
theorem dX0_oppositeCode_3 : decode cX0_oppositeCode 3 = .ok (.iconst 4, 1) := by decide +kernel
theorem dX0_oppositeCode_4 : decode cX0_oppositeCode 4 = .ok (.ixor, 1) := by decide +kernel
theorem dX0_oppositeCode_5 : decode cX0_oppositeCode 5 = .ok (.iadd, 1) := by decide +kernel
theorem dX0_oppositeCode_6 : decode cX0_oppositeCode 6 = .ok (.istore_n 1, 1) := by decide +kernel
theorem dX0_oppositeCode_7 : decode cX0_oppositeCode 7 = .ok (.iload_n 1, 1) := by decide +kernel
theorem dX0_oppositeCode_8 : decode cX0_oppositeCode 8 = .ok (.bipush 32, 2) := by decide +kernel
theorem dX0_oppositeCode_10 : decode cX0_oppositeCode 10 = .ok (.if_icmp .ne 10, 3) := by decide +kernel
theorem dX0_oppositeCode_13 : decode cX0_oppositeCode 13 = .ok (.bipush 40, 2) := by decide +kernel
theorem dX0_oppositeCode_15 : decode cX0_oppositeCode 15 = .ok (.iload_n 0, 1) := by decide +kernel
theorem dX0_oppositeCode_16 : decode cX0_oppositeCode 16 = .ok (.iadd, 1) := by decide +kernel
theorem dX0_oppositeCode_17 : decode cX0_oppositeCode 17 = .ok (.goto 4, 3) := by decide +kernel
theorem dX0_oppositeCode_20 : decode cX0_oppositeCode 20 = .ok (.iload_n 1, 1) := by decide +kernel
theorem dX0_oppositeCode_21 : decode cX0_oppositeCode 21 = .ok (.ireturn, 1) := by decide +kernel
theorem dX0_distance_0 : decode cX0_distance 0 = .ok (.aload_n 0, 1) := by decide +kernel
theorem dX0_distance_1 : decode cX0_distance 1 = .ok (.getfield 25, 3) := by decide +kernel
theorem dX0_distance_4 : decode cX0_distance 4 = .ok (.aload_n 0, 1) := by decide +kernel
theorem dX0_distance_5 : decode cX0_distance 5 = .ok (.getfield 12, 3) := by decide +kernel
theorem dX0_distance_8 : decode cX0_distance 8 = .ok (.getfield 55, 3) := by decide +kernel
theorem dX0_distance_11 : decode cX0_distance 11 = .ok (.iload_n 1, 1) := by decide +kernel
theorem dX0_distance_12 : decode cX0_distance 12 = .ok (.iaload, 1) := by decide +kernel
theorem dX0_distance_13 : decode cX0_distance 13 = .ok (.iaload, 1) := by decide +kernel
theorem dX0_distance_14 : decode cX0_distance 14 = .ok (.aload_n 0, 1) := by decide +kernel
theorem dX0_distance_15 : decode cX0_distance 15 = .ok (.getfield 18, 3) := by decide +kernel
theorem dX0_distance_18 : decode cX0_distance 18 = .ok (.iload_n 1, 1) := by decide +kernel
theorem dX0_distance_19 : decode cX0_distance 19 = .ok (.iconst 1, 1) := by decide +kernel
theorem dX0_distance_20 : decode cX0_distance 20 = .ok (.iadd, 1) := by decide +kernel
theorem dX0_distance_21 : decode cX0_distance 21 = .ok (.iaload, 1) := by decide +kernel
theorem dX0_distance_22 : decode cX0_distance 22 = .ok (.isub, 1) := by decide +kernel
theorem dX0_distance_23 : decode cX0_distance 23 = .ok (.ireturn, 1) := by decide +kernel
theorem dX0_shortByte_0 : decode cX0_shortByte 0 = .ok (.iload_n 2, 1) := by decide +kernel
theorem dX0_shortByte_1 : decode cX0_shortByte 1 = .ok (.ifCond .ne 18, 3) := by decide +kernel
theorem dX0_shortByte_4 : decode cX0_shortByte 4 = .ok (.bipush 32, 2) := by decide +kernel
theorem dX0_shortByte_6 : decode cX0_shortByte 6 = .ok (.aload_n 0, 1) := by decide +kernel
theorem dX0_shortByte_7 : decode cX0_shortByte 7 = .ok (.getfield 12, 3) := by decide +kernel
theorem dX0_shortByte_10 : decode cX0_shortByte 10 = .ok (.getfield 69, 3) := by decide +kernel
theorem dX0_shortByte_13 : decode cX0_shortByte 13 = .ok (.iload_n 1, 1) := by decide +kernel
theorem dX0_shortByte_14 : decode cX0_shortByte 14 = .ok (.iaload, 1) := by decide +kernel
theorem dX0_shortByte_15 : decode cX0_shortByte 15 = .ok (.iadd, 1) := by decide +kernel
theorem dX0_shortByte_16 : decode cX0_shortByte 16 = .ok (.goto 12, 3) := by decide +kernel
theorem dX0_shortByte_19 : decode cX0_shortByte 19 = .ok (.aload_n 0, 1) := by decide +kernel
theorem dX0_shortByte_20 : decode cX0_shortByte 20 = .ok (.iload_n 1, 1) := by decide +kernel
theorem dX0_shortByte_21 : decode cX0_shortByte 21 = .ok (.invokevirtual 62, 3) := by decide +kernel
theorem dX0_shortByte_24 : decode cX0_shortByte 24 = .ok (.sipush 255, 3) := by decide +kernel
theorem dX0_shortByte_27 : decode cX0_shortByte 27 = .ok (.iand, 1) := by decide +kernel
theorem dX0_shortByte_28 : decode cX0_shortByte 28 = .ok (.ireturn, 1) := by decide +kernel
theorem dX2_address_0 : decode cX2_address 0 = .ok (.aload_n 0, 1) := by decide +kernel
theorem dX2_address_1 : decode cX2_address 1 = .ok (.getfield 19, 3) := by decide +kernel
theorem dX2_address_4 : decode cX2_address 4 = .ok (.getfield 70, 3) := by decide +kernel
theorem dX2_address_7 : decode cX2_address 7 = .ok (.iload_n 1, 1) := by decide +kernel
theorem dX2_address_8 : decode cX2_address 8 = .ok (.invokevirtual 73, 3) := by decide +kernel
theorem dX2_address_11 : decode cX2_address 11 = .ok (.ifCond .eq 15, 3) := by decide +kernel
theorem dX2_address_14 : decode cX2_address 14 = .ok (.aload_n 0, 1) := by decide +kernel
theorem dX2_address_15 : decode cX2_address 15 = .ok (.getfield 19, 3) := by decide +kernel
theorem dX2_address_18 : decode cX2_address 18 = .ok (.getfield 76, 3) := by decide +kernel
theorem dX2_address_21 : decode cX2_address 21 = .ok (.iload_n 1, 1) := by decide +kernel
theorem dX2_address_22 : decode cX2_address 22 = .ok (.iaload, 1) := by decide +kernel
theorem dX2_address_23 : decode cX2_address 23 = .ok (.goto 4, 3) := by decide +kernel
theorem dX2_address_26 : decode cX2_address 26 = .ok (.iconst (-1), 1) := by decide +kernel
theorem dX2_address_27 : decode cX2_address 27 = .ok (.ireturn, 1) := by decide +kernel
theorem dX2_form_0 : decode cX2_form 0 = .ok (.aload_n 0, 1) := by decide +kernel
theorem dX2_form_1 : decode cX2_form 1 = .ok (.getfield 19, 3) := by decide +kernel
theorem dX2_form_4 : decode cX2_form 4 = .ok (.getfield 70, 3) := by decide +kernel
theorem dX2_form_7 : decode cX2_form 7 = .ok (.iload_n 1, 1) := by decide +kernel
theorem dX2_form_8 : decode cX2_form 8 = .ok (.invokevirtual 73, 3) := by decide +kernel
theorem dX2_form_11 : decode cX2_form 11 = .ok (.ifCond .eq 15, 3) := by decide +kernel
theorem dX2_form_14 : decode cX2_form 14 = .ok (.aload_n 0, 1) := by decide +kernel
theorem dX2_form_15 : decode cX2_form 15 = .ok (.getfield 19, 3) := by decide +kernel
theorem dX2_form_18 : decode cX2_form 18 = .ok (.getfield 80, 3) := by decide +kernel
theorem dX2_form_21 : decode cX2_form 21 = .ok (.iload_n 1, 1) := by decide +kernel
theorem dX2_form_22 : decode cX2_form 22 = .ok (.iaload, 1) := by decide +kernel
theorem dX2_form_23 : decode cX2_form 23 = .ok (.goto 4, 3) := by decide +kernel
theorem dX2_form_26 : decode cX2_form 26 = .ok (.iconst (-1), 1) := by decide +kernel
theorem dX2_form_27 : decode cX2_form 27 = .ok (.ireturn, 1) := by decide +kernel
theorem dX2_longs_0 : decode cX2_longs 0 = .ok (.aload_n 0, 1) := by decide +kernel
theorem dX2_longs_1 : decode cX2_longs 1 = .ok (.getfield 19, 3) := by decide +kernel
theorem dX2_longs_4 : decode cX2_longs 4 = .ok (.invokevirtual 83, 3) := by decide +kernel
theorem dX2_longs_7 : decode cX2_longs 7 = .ok (.ireturn, 1) := by decide +kernel
theorem dX0_countLong_0 : decode cX0_countLong 0 = .ok (.iconst 0, 1) := by decide +kernel
theorem dX0_countLong_1 : decode cX0_countLong 1 = .ok (.istore_n 1, 1) := by decide +kernel
theorem dX0_countLong_2 : decode cX0_countLong 2 = .ok (.iconst 0, 1) := by decide +kernel
theorem dX0_countLong_3 : decode cX0_countLong 3 = .ok (.istore_n 2, 1) := by decide +kernel
theorem dX0_countLong_4 : decode cX0_countLong 4 = .ok (.iload_n 2, 1) := by decide +kernel
theorem dX0_countLong_5 : decode cX0_countLong 5 = .ok (.aload_n 0, 1) := by decide +kernel
theorem dX0_countLong_6 : decode cX0_countLong 6 = .ok (.getfield 12, 3) := by decide +kernel
theorem dX0_countLong_9 : decode cX0_countLong 9 = .ok (.getfield 34, 3) := by decide +kernel
theorem dX0_countLong_12 : decode cX0_countLong 12 = .ok (.if_icmp .ge 22, 3) := by decide +kernel
theorem dX0_countLong_15 : decode cX0_countLong 15 = .ok (.aload_n 0, 1) := by decide +kernel
theorem dX0_countLong_16 : decode cX0_countLong 16 = .ok (.getfield 22, 3) := by decide +kernel
theorem dX0_countLong_19 : decode cX0_countLong 19 = .ok (.iload_n 2, 1) := by decide +kernel
theorem dX0_countLong_20 : decode cX0_countLong 20 = .ok (.iaload, 1) := by decide +kernel
theorem dX0_countLong_21 : decode cX0_countLong 21 = .ok (.iconst 2, 1) := by decide +kernel
theorem dX0_countLong_22 : decode cX0_countLong 22 = .ok (.if_icmp .ne 6, 3) := by decide +kernel
theorem dX0_countLong_25 : decode cX0_countLong 25 = .ok (.iinc 1 1, 3) := by decide +kernel
theorem dX0_countLong_28 : decode cX0_countLong 28 = .ok (.iinc 2 1, 3) := by decide +kernel
theorem dX0_countLong_31 : decode cX0_countLong 31 = .ok (.goto (-27), 3) := by decide +kernel
theorem dX0_countLong_34 : decode cX0_countLong 34 = .ok (.iload_n 1, 1) := by decide +kernel
theorem dX0_countLong_35 : decode cX0_countLong 35 = .ok (.ireturn, 1) := by decide +kernel
theorem dX2_value_0 : decode cX2_value 0 = .ok (.iload_n 1, 1) := by decide +kernel
theorem dX2_value_1 : decode cX2_value 1 = .ok (.invokestatic 86, 3) := by decide +kernel
theorem dX2_value_4 : decode cX2_value 4 = .ok (.ifCond .eq 15, 3) := by decide +kernel
theorem dX2_value_7 : decode cX2_value 7 = .ok (.aload_n 0, 1) := by decide +kernel
theorem dX2_value_8 : decode cX2_value 8 = .ok (.getfield 19, 3) := by decide +kernel
theorem dX2_value_11 : decode cX2_value 11 = .ok (.getfield 89, 3) := by decide +kernel
theorem dX2_value_14 : decode cX2_value 14 = .ok (.iload_n 1, 1) := by decide +kernel
theorem dX2_value_15 : decode cX2_value 15 = .ok (.iaload, 1) := by decide +kernel
theorem dX2_value_16 : decode cX2_value 16 = .ok (.goto 4, 3) := by decide +kernel
theorem dX2_value_19 : decode cX2_value 19 = .ok (.iconst (-1), 1) := by decide +kernel
theorem dX2_value_20 : decode cX2_value 20 = .ok (.ireturn, 1) := by decide +kernel
theorem dX2_jumps_0 : decode cX2_jumps 0 = .ok (.aload_n 0, 1) := by decide +kernel
theorem dX2_jumps_1 : decode cX2_jumps 1 = .ok (.getfield 19, 3) := by decide +kernel
theorem dX2_jumps_4 : decode cX2_jumps 4 = .ok (.iload_n 1, 1) := by decide +kernel
theorem dX2_jumps_5 : decode cX2_jumps 5 = .ok (.invokevirtual 92, 3) := by decide +kernel
theorem dX2_jumps_8 : decode cX2_jumps 8 = .ok (.iconst 1, 1) := by decide +kernel
theorem dX2_jumps_9 : decode cX2_jumps 9 = .ok (.if_icmp .le 7, 3) := by decide +kernel
theorem dX2_jumps_12 : decode cX2_jumps 12 = .ok (.iconst 1, 1) := by decide +kernel
theorem dX2_jumps_13 : decode cX2_jumps 13 = .ok (.goto 4, 3) := by decide +kernel
theorem dX2_jumps_16 : decode cX2_jumps 16 = .ok (.iconst 0, 1) := by decide +kernel
theorem dX2_jumps_17 : decode cX2_jumps 17 = .ok (.ireturn, 1) := by decide +kernel
theorem dX0_operationSize_0 : decode cX0_operationSize 0 = .ok (.aload_n 0, 1) := by decide +kernel
theorem dX0_operationSize_1 : decode cX0_operationSize 1 = .ok (.iload_n 1, 1) := by decide +kernel
theorem dX0_operationSize_2 : decode cX0_operationSize 2 = .ok (.invokevirtual 88, 3) := by decide +kernel
theorem dX0_operationSize_5 : decode cX0_operationSize 5 = .ok (.istore_n 2, 1) := by decide +kernel
theorem dX0_operationSize_6 : decode cX0_operationSize 6 = .ok (.iload_n 2, 1) := by decide +kernel
theorem dX0_operationSize_7 : decode cX0_operationSize 7 = .ok (.iconst (-1), 1) := by decide +kernel
theorem dX0_operationSize_8 : decode cX0_operationSize 8 = .ok (.if_icmp .ne 5, 3) := by decide +kernel
theorem dX0_operationSize_11 : decode cX0_operationSize 11 = .ok (.iconst 0, 1) := by decide +kernel
theorem dX0_operationSize_12 : decode cX0_operationSize 12 = .ok (.ireturn, 1) := by decide +kernel
theorem dX0_operationSize_13 : decode cX0_operationSize 13 = .ok (.iconst 1, 1) := by decide +kernel
theorem dX0_operationSize_14 : decode cX0_operationSize 14 = .ok (.istore_n 3, 1) := by decide +kernel
theorem dX0_operationSize_15 : decode cX0_operationSize 15 = .ok (.iload_n 2, 1) := by decide +kernel
theorem dX0_operationSize_16 : decode cX0_operationSize 16 = .ok (.bipush 32, 2) := by decide +kernel
theorem dX0_operationSize_18 : decode cX0_operationSize 18 = .ok (.bipush 47, 2) := by decide +kernel
theorem dX0_operationSize_20 : decode cX0_operationSize 20 = .ok (.invokestatic 65, 3) := by decide +kernel
theorem dX0_operationSize_23 : decode cX0_operationSize 23 = .ok (.ifCond .eq 8, 3) := by decide +kernel
theorem dX0_operationSize_26 : decode cX0_operationSize 26 = .ok (.iconst 2, 1) := by decide +kernel
theorem dX0_operationSize_27 : decode cX0_operationSize 27 = .ok (.istore_n 3, 1) := by decide +kernel
theorem dX0_operationSize_28 : decode cX0_operationSize 28 = .ok (.goto 11, 3) := by decide +kernel
theorem dX0_operationSize_31 : decode cX0_operationSize 31 = .ok (.iload_n 2, 1) := by decide +kernel
theorem dX0_operationSize_32 : decode cX0_operationSize 32 = .ok (.bipush 64, 2) := by decide +kernel
theorem dX0_operationSize_34 : decode cX0_operationSize 34 = .ok (.if_icmp .ne 5, 3) := by decide +kernel
end
section
theorem dX0_operationSize_37 : decode cX0_operationSize 37 = .ok (.iconst 3, 1) := by decide +kernel
theorem dX0_operationSize_38 : decode cX0_operationSize 38 = .ok (.istore_n 3, 1) := by decide +kernel
theorem dX0_operationSize_39 : decode cX0_operationSize 39 = .ok (.iload_n 3, 1) := by decide +kernel
theorem dX0_operationSize_40 : decode cX0_operationSize 40 = .ok (.aload_n 0, 1) := by decide +kernel
theorem dX0_operationSize_41 : decode cX0_operationSize 41 = .ok (.invokevirtual 91, 3) := by decide +kernel
theorem dX0_operationSize_44 : decode cX0_operationSize 44 = .ok (.iload_n 1, 1) := by decide +kernel
theorem dX0_operationSize_45 : decode cX0_operationSize 45 = .ok (.isub, 1) := by decide +kernel
theorem dX0_operationSize_46 : decode cX0_operationSize 46 = .ok (.if_icmp .gt 7, 3) := by decide +kernel
theorem dX0_operationSize_49 : decode cX0_operationSize 49 = .ok (.iload_n 3, 1) := by decide +kernel
theorem dX0_operationSize_50 : decode cX0_operationSize 50 = .ok (.goto 4, 3) := by decide +kernel
theorem dX0_operationSize_53 : decode cX0_operationSize 53 = .ok (.iconst 0, 1) := by decide +kernel
theorem dX0_operationSize_54 : decode cX0_operationSize 54 = .ok (.ireturn, 1) := by decide +kernel
theorem dX0_size_0 : decode cX0_size 0 = .ok (.aload_n 0, 1) := by decide +kernel
theorem dX0_size_1 : decode cX0_size 1 = .ok (.getfield 18, 3) := by decide +kernel
theorem dX0_size_4 : decode cX0_size 4 = .ok (.aload_n 0, 1) := by decide +kernel
theorem dX0_size_5 : decode cX0_size 5 = .ok (.getfield 12, 3) := by decide +kernel
theorem dX0_size_8 : decode cX0_size 8 = .ok (.getfield 34, 3) := by decide +kernel
theorem dX0_size_11 : decode cX0_size 11 = .ok (.iaload, 1) := by decide +kernel
theorem dX0_size_12 : decode cX0_size 12 = .ok (.ireturn, 1) := by decide +kernel
theorem dX2_trace_0 : decode cX2_trace 0 = .ok (.iload_n 3, 1) := by decide +kernel
theorem dX2_trace_1 : decode cX2_trace 1 = .ok (.ifCond .lt 9, 3) := by decide +kernel
theorem dX2_trace_4 : decode cX2_trace 4 = .ok (.iload_n 3, 1) := by decide +kernel
theorem dX2_trace_5 : decode cX2_trace 5 = .ok (.bipush 40, 2) := by decide +kernel
theorem dX2_trace_7 : decode cX2_trace 7 = .ok (.if_icmp .le 5, 3) := by decide +kernel
theorem dX2_trace_10 : decode cX2_trace 10 = .ok (.iconst (-1), 1) := by decide +kernel
theorem dX2_trace_11 : decode cX2_trace 11 = .ok (.ireturn, 1) := by decide +kernel
theorem dX2_trace_12 : decode cX2_trace 12 = .ok (.iload_n 1, 1) := by decide +kernel
theorem dX2_trace_13 : decode cX2_trace 13 = .ok (.istore 4, 2) := by decide +kernel
theorem dX2_trace_15 : decode cX2_trace 15 = .ok (.iconst 0, 1) := by decide +kernel
theorem dX2_trace_16 : decode cX2_trace 16 = .ok (.istore 5, 2) := by decide +kernel
theorem dX2_trace_18 : decode cX2_trace 18 = .ok (.iload 5, 2) := by decide +kernel
theorem dX2_trace_20 : decode cX2_trace 20 = .ok (.iload_n 3, 1) := by decide +kernel
theorem dX2_trace_21 : decode cX2_trace 21 = .ok (.if_icmp .ge 86, 3) := by decide +kernel
theorem dX2_trace_24 : decode cX2_trace 24 = .ok (.aload_n 0, 1) := by decide +kernel
theorem dX2_trace_25 : decode cX2_trace 25 = .ok (.getfield 19, 3) := by decide +kernel
theorem dX2_trace_28 : decode cX2_trace 28 = .ok (.iload 4, 2) := by decide +kernel
theorem dX2_trace_30 : decode cX2_trace 30 = .ok (.invokevirtual 92, 3) := by decide +kernel
theorem dX2_trace_33 : decode cX2_trace 33 = .ok (.istore 6, 2) := by decide +kernel
theorem dX2_trace_35 : decode cX2_trace 35 = .ok (.iload 6, 2) := by decide +kernel
theorem dX2_trace_37 : decode cX2_trace 37 = .ok (.ifCond .ne 6, 3) := by decide +kernel
theorem dX2_trace_40 : decode cX2_trace 40 = .ok (.iload 4, 2) := by decide +kernel
theorem dX2_trace_42 : decode cX2_trace 42 = .ok (.ireturn, 1) := by decide +kernel
theorem dX2_trace_43 : decode cX2_trace 43 = .ok (.iload_n 2, 1) := by decide +kernel
theorem dX2_trace_44 : decode cX2_trace 44 = .ok (.iload 5, 2) := by decide +kernel
theorem dX2_trace_46 : decode cX2_trace 46 = .ok (.bipush 32, 2) := by decide +kernel
theorem dX2_trace_48 : decode cX2_trace 48 = .ok (.irem, 1) := by decide +kernel
theorem dX2_trace_49 : decode cX2_trace 49 = .ok (.iushr, 1) := by decide +kernel
theorem dX2_trace_50 : decode cX2_trace 50 = .ok (.iconst 1, 1) := by decide +kernel
theorem dX2_trace_51 : decode cX2_trace 51 = .ok (.iand, 1) := by decide +kernel
theorem dX2_trace_52 : decode cX2_trace 52 = .ok (.iconst 1, 1) := by decide +kernel
theorem dX2_trace_53 : decode cX2_trace 53 = .ok (.if_icmp .eq 15, 3) := by decide +kernel
theorem dX2_trace_56 : decode cX2_trace 56 = .ok (.aload_n 0, 1) := by decide +kernel
theorem dX2_trace_57 : decode cX2_trace 57 = .ok (.getfield 19, 3) := by decide +kernel
theorem dX2_trace_60 : decode cX2_trace 60 = .ok (.iload 4, 2) := by decide +kernel
theorem dX2_trace_62 : decode cX2_trace 62 = .ok (.invokevirtual 104, 3) := by decide +kernel
theorem dX2_trace_65 : decode cX2_trace 65 = .ok (.ifCond .eq 7, 3) := by decide +kernel
theorem dX2_trace_68 : decode cX2_trace 68 = .ok (.iconst 1, 1) := by decide +kernel
theorem dX2_trace_69 : decode cX2_trace 69 = .ok (.goto 4, 3) := by decide +kernel
theorem dX2_trace_72 : decode cX2_trace 72 = .ok (.iconst 0, 1) := by decide +kernel
theorem dX2_trace_73 : decode cX2_trace 73 = .ok (.istore 7, 2) := by decide +kernel
theorem dX2_trace_75 : decode cX2_trace 75 = .ok (.iload 7, 2) := by decide +kernel
theorem dX2_trace_77 : decode cX2_trace 77 = .ok (.ifCond .eq 17, 3) := by decide +kernel
theorem dX2_trace_80 : decode cX2_trace 80 = .ok (.aload_n 0, 1) := by decide +kernel
theorem dX2_trace_81 : decode cX2_trace 81 = .ok (.getfield 19, 3) := by decide +kernel
theorem dX2_trace_84 : decode cX2_trace 84 = .ok (.iload 4, 2) := by decide +kernel
theorem dX2_trace_86 : decode cX2_trace 86 = .ok (.iload 6, 2) := by decide +kernel
theorem dX2_trace_88 : decode cX2_trace 88 = .ok (.invokevirtual 100, 3) := by decide +kernel
theorem dX2_trace_91 : decode cX2_trace 91 = .ok (.goto 8, 3) := by decide +kernel
theorem dX2_trace_94 : decode cX2_trace 94 = .ok (.iload 4, 2) := by decide +kernel
theorem dX2_trace_96 : decode cX2_trace 96 = .ok (.iload 6, 2) := by decide +kernel
theorem dX2_trace_98 : decode cX2_trace 98 = .ok (.iadd, 1) := by decide +kernel
theorem dX2_trace_99 : decode cX2_trace 99 = .ok (.istore 4, 2) := by decide +kernel
theorem dX2_trace_101 : decode cX2_trace 101 = .ok (.iinc 5 1, 3) := by decide +kernel
theorem dX2_trace_104 : decode cX2_trace 104 = .ok (.goto (-86), 3) := by decide +kernel
theorem dX2_trace_107 : decode cX2_trace 107 = .ok (.iload 4, 2) := by decide +kernel
theorem dX2_trace_109 : decode cX2_trace 109 = .ok (.ireturn, 1) := by decide +kernel
theorem dX0_goesAlways_0 : decode cX0_goesAlways 0 = .ok (.aload_n 0, 1) := by decide +kernel
theorem dX0_goesAlways_1 : decode cX0_goesAlways 1 = .ok (.iload_n 1, 1) := by decide +kernel
theorem dX0_goesAlways_2 : decode cX0_goesAlways 2 = .ok (.invokevirtual 88, 3) := by decide +kernel
theorem dX0_goesAlways_5 : decode cX0_goesAlways 5 = .ok (.istore_n 2, 1) := by decide +kernel
theorem dX0_goesAlways_6 : decode cX0_goesAlways 6 = .ok (.iload_n 2, 1) := by decide +kernel
theorem dX0_goesAlways_7 : decode cX0_goesAlways 7 = .ok (.bipush 32, 2) := by decide +kernel
theorem dX0_goesAlways_9 : decode cX0_goesAlways 9 = .ok (.if_icmp .eq 9, 3) := by decide +kernel
theorem dX0_goesAlways_12 : decode cX0_goesAlways 12 = .ok (.iload_n 2, 1) := by decide +kernel
theorem dX0_goesAlways_13 : decode cX0_goesAlways 13 = .ok (.bipush 64, 2) := by decide +kernel
theorem dX0_goesAlways_15 : decode cX0_goesAlways 15 = .ok (.if_icmp .ne 7, 3) := by decide +kernel
theorem dX0_goesAlways_18 : decode cX0_goesAlways 18 = .ok (.iconst 1, 1) := by decide +kernel
theorem dX0_goesAlways_19 : decode cX0_goesAlways 19 = .ok (.goto 4, 3) := by decide +kernel
theorem dX0_goesAlways_22 : decode cX0_goesAlways 22 = .ok (.iconst 0, 1) := by decide +kernel
theorem dX0_goesAlways_23 : decode cX0_goesAlways 23 = .ok (.ireturn, 1) := by decide +kernel
theorem dX0_target_0 : decode cX0_target 0 = .ok (.iload_n 1, 1) := by decide +kernel
theorem dX0_target_1 : decode cX0_target 1 = .ok (.iload_n 2, 1) := by decide +kernel
theorem dX0_target_2 : decode cX0_target 2 = .ok (.iadd, 1) := by decide +kernel
theorem dX0_target_3 : decode cX0_target 3 = .ok (.istore_n 3, 1) := by decide +kernel
theorem dX0_target_4 : decode cX0_target 4 = .ok (.iload_n 2, 1) := by decide +kernel
theorem dX0_target_5 : decode cX0_target 5 = .ok (.iconst 2, 1) := by decide +kernel
theorem dX0_target_6 : decode cX0_target 6 = .ok (.if_icmp .ne 14, 3) := by decide +kernel
theorem dX0_target_9 : decode cX0_target 9 = .ok (.iload_n 3, 1) := by decide +kernel
theorem dX0_target_10 : decode cX0_target 10 = .ok (.aload_n 0, 1) := by decide +kernel
theorem dX0_target_11 : decode cX0_target 11 = .ok (.iload_n 1, 1) := by decide +kernel
theorem dX0_target_12 : decode cX0_target 12 = .ok (.iconst 1, 1) := by decide +kernel
theorem dX0_target_13 : decode cX0_target 13 = .ok (.iadd, 1) := by decide +kernel
theorem dX0_target_14 : decode cX0_target 14 = .ok (.invokevirtual 88, 3) := by decide +kernel
theorem dX0_target_17 : decode cX0_target 17 = .ok (.i2b, 1) := by decide +kernel
theorem dX0_target_18 : decode cX0_target 18 = .ok (.iadd, 1) := by decide +kernel
theorem dX0_target_19 : decode cX0_target 19 = .ok (.ireturn, 1) := by decide +kernel
theorem dX0_target_20 : decode cX0_target 20 = .ok (.iload_n 2, 1) := by decide +kernel
theorem dX0_target_21 : decode cX0_target 21 = .ok (.iconst 3, 1) := by decide +kernel
theorem dX0_target_22 : decode cX0_target 22 = .ok (.if_icmp .ne 26, 3) := by decide +kernel
theorem dX0_target_25 : decode cX0_target 25 = .ok (.iload_n 3, 1) := by decide +kernel
theorem dX0_target_26 : decode cX0_target 26 = .ok (.aload_n 0, 1) := by decide +kernel
theorem dX0_target_27 : decode cX0_target 27 = .ok (.iload_n 1, 1) := by decide +kernel
theorem dX0_target_28 : decode cX0_target 28 = .ok (.iconst 1, 1) := by decide +kernel
theorem dX0_target_29 : decode cX0_target 29 = .ok (.iadd, 1) := by decide +kernel
theorem dX0_target_30 : decode cX0_target 30 = .ok (.invokevirtual 88, 3) := by decide +kernel
theorem dX0_target_33 : decode cX0_target 33 = .ok (.sipush 256, 3) := by decide +kernel
theorem dX0_target_36 : decode cX0_target 36 = .ok (.imul, 1) := by decide +kernel
theorem dX0_target_37 : decode cX0_target 37 = .ok (.aload_n 0, 1) := by decide +kernel
theorem dX0_target_38 : decode cX0_target 38 = .ok (.iload_n 1, 1) := by decide +kernel
theorem dX0_target_39 : decode cX0_target 39 = .ok (.iconst 2, 1) := by decide +kernel
theorem dX0_target_40 : decode cX0_target 40 = .ok (.iadd, 1) := by decide +kernel
theorem dX0_target_41 : decode cX0_target 41 = .ok (.invokevirtual 88, 3) := by decide +kernel
theorem dX0_target_44 : decode cX0_target 44 = .ok (.iadd, 1) := by decide +kernel
theorem dX0_target_45 : decode cX0_target 45 = .ok (.i2s, 1) := by decide +kernel
theorem dX0_target_46 : decode cX0_target 46 = .ok (.iadd, 1) := by decide +kernel
theorem dX0_target_47 : decode cX0_target 47 = .ok (.ireturn, 1) := by decide +kernel
theorem dX0_target_48 : decode cX0_target 48 = .ok (.iload_n 3, 1) := by decide +kernel
theorem dX0_target_49 : decode cX0_target 49 = .ok (.ireturn, 1) := by decide +kernel
theorem dL_assemble_0 : decode cL_assemble 0 = .ok (.aload_n 1, 1) := by decide +kernel
theorem dL_assemble_1 : decode cL_assemble 1 = .ok (.iconst 0, 1) := by decide +kernel
theorem dL_assemble_2 : decode cL_assemble 2 = .ok (.aload_n 0, 1) := by decide +kernel
theorem dL_assemble_3 : decode cL_assemble 3 = .ok (.invokevirtual 7, 3) := by decide +kernel
theorem dL_assemble_6 : decode cL_assemble 6 = .ok (.i2l, 1) := by decide +kernel
theorem dL_assemble_7 : decode cL_assemble 7 = .ok (.lastore, 1) := by decide +kernel
theorem dL_assemble_8 : decode cL_assemble 8 = .ok (.goto 9, 3) := by decide +kernel
theorem dL_assemble_11 : decode cL_assemble 11 = .ok (.astore_n 2, 1) := by decide +kernel
theorem dL_assemble_12 : decode cL_assemble 12 = .ok (.iconst 1, 1) := by decide +kernel
theorem dL_assemble_13 : decode cL_assemble 13 = .ok (.ireturn, 1) := by decide +kernel
theorem dL_assemble_14 : decode cL_assemble 14 = .ok (.astore_n 2, 1) := by decide +kernel
theorem dL_assemble_15 : decode cL_assemble 15 = .ok (.iconst 2, 1) := by decide +kernel
theorem dL_assemble_16 : decode cL_assemble 16 = .ok (.ireturn, 1) := by decide +kernel
theorem dL_assemble_17 : decode cL_assemble 17 = .ok (.iconst 0, 1) := by decide +kernel
theorem dL_assemble_18 : decode cL_assemble 18 = .ok (.ireturn, 1) := by decide +kernel
theorem dX2_assemble_0 : decode cX2_assemble 0 = .ok (.aload_n 0, 1) := by decide +kernel
theorem dX2_assemble_1 : decode cX2_assemble 1 = .ok (.getfield 10, 3) := by decide +kernel
theorem dX2_assemble_4 : decode cX2_assemble 4 = .ok (.invokevirtual 39, 3) := by decide +kernel
theorem dX2_assemble_7 : decode cX2_assemble 7 = .ok (.ifCond .eq 13, 3) := by decide +kernel
theorem dX2_assemble_10 : decode cX2_assemble 10 = .ok (.new 43, 3) := by decide +kernel
theorem dX2_assemble_13 : decode cX2_assemble 13 = .ok (.dup, 1) := by decide +kernel
theorem dX2_assemble_14 : decode cX2_assemble 14 = .ok (.ldc 45, 2) := by decide +kernel
theorem dX2_assemble_16 : decode cX2_assemble 16 = .ok (.invokespecial 47, 3) := by decide +kernel
theorem dX2_assemble_19 : decode cX2_assemble 19 = .ok (.athrow, 1) := by decide +kernel
theorem dX2_assemble_20 : decode cX2_assemble 20 = .ok (.aload_n 0, 1) := by decide +kernel
theorem dX2_assemble_21 : decode cX2_assemble 21 = .ok (.getfield 10, 3) := by decide +kernel
theorem dX2_assemble_24 : decode cX2_assemble 24 = .ok (.invokevirtual 50, 3) := by decide +kernel
theorem dX2_assemble_27 : decode cX2_assemble 27 = .ok (.ifCond .eq 13, 3) := by decide +kernel
theorem dX2_assemble_30 : decode cX2_assemble 30 = .ok (.new 53, 3) := by decide +kernel
theorem dX2_assemble_33 : decode cX2_assemble 33 = .ok (.dup, 1) := by decide +kernel
theorem dX2_assemble_34 : decode cX2_assemble 34 = .ok (.ldc 55, 2) := by decide +kernel
theorem dX2_assemble_36 : decode cX2_assemble 36 = .ok (.invokespecial 57, 3) := by decide +kernel
theorem dX2_assemble_39 : decode cX2_assemble 39 = .ok (.athrow, 1) := by decide +kernel
theorem dX2_assemble_40 : decode cX2_assemble 40 = .ok (.aload_n 0, 1) := by decide +kernel
theorem dX2_assemble_41 : decode cX2_assemble 41 = .ok (.getfield 19, 3) := by decide +kernel
theorem dX2_assemble_44 : decode cX2_assemble 44 = .ok (.aload_n 0, 1) := by decide +kernel
theorem dX2_assemble_45 : decode cX2_assemble 45 = .ok (.getfield 10, 3) := by decide +kernel
theorem dX2_assemble_48 : decode cX2_assemble 48 = .ok (.invokevirtual 58, 3) := by decide +kernel
theorem dX2_assemble_51 : decode cX2_assemble 51 = .ok (.aload_n 0, 1) := by decide +kernel
theorem dX2_assemble_52 : decode cX2_assemble 52 = .ok (.getfield 19, 3) := by decide +kernel
theorem dX2_assemble_55 : decode cX2_assemble 55 = .ok (.invokevirtual 62, 3) := by decide +kernel
theorem dX2_assemble_58 : decode cX2_assemble 58 = .ok (.ireturn, 1) := by decide +kernel
theorem dX1_definesTwice_0 : decode cX1_definesTwice 0 = .ok (.iconst 0, 1) := by decide +kernel
theorem dX1_definesTwice_1 : decode cX1_definesTwice 1 = .ok (.istore_n 1, 1) := by decide +kernel
theorem dX1_definesTwice_2 : decode cX1_definesTwice 2 = .ok (.iload_n 1, 1) := by decide +kernel
theorem dX1_definesTwice_3 : decode cX1_definesTwice 3 = .ok (.bipush 16, 2) := by decide +kernel
theorem dX1_definesTwice_5 : decode cX1_definesTwice 5 = .ok (.if_icmp .ge 20, 3) := by decide +kernel
theorem dX1_definesTwice_8 : decode cX1_definesTwice 8 = .ok (.aload_n 0, 1) := by decide +kernel
theorem dX1_definesTwice_9 : decode cX1_definesTwice 9 = .ok (.iload_n 1, 1) := by decide +kernel
theorem dX1_definesTwice_10 : decode cX1_definesTwice 10 = .ok (.invokevirtual 39, 3) := by decide +kernel
theorem dX1_definesTwice_13 : decode cX1_definesTwice 13 = .ok (.iconst 1, 1) := by decide +kernel
theorem dX1_definesTwice_14 : decode cX1_definesTwice 14 = .ok (.if_icmp .le 5, 3) := by decide +kernel
theorem dX1_definesTwice_17 : decode cX1_definesTwice 17 = .ok (.iconst 1, 1) := by decide +kernel
theorem dX1_definesTwice_18 : decode cX1_definesTwice 18 = .ok (.ireturn, 1) := by decide +kernel
theorem dX1_definesTwice_19 : decode cX1_definesTwice 19 = .ok (.iinc 1 1, 3) := by decide +kernel
theorem dX1_definesTwice_22 : decode cX1_definesTwice 22 = .ok (.goto (-20), 3) := by decide +kernel
theorem dX1_definesTwice_25 : decode cX1_definesTwice 25 = .ok (.iconst 0, 1) := by decide +kernel
theorem dX1_definesTwice_26 : decode cX1_definesTwice 26 = .ok (.ireturn, 1) := by decide +kernel
theorem dX1_countDefined_0 : decode cX1_countDefined 0 = .ok (.iconst 0, 1) := by decide +kernel
theorem dX1_countDefined_1 : decode cX1_countDefined 1 = .ok (.istore_n 2, 1) := by decide +kernel
theorem dX1_countDefined_2 : decode cX1_countDefined 2 = .ok (.iconst 0, 1) := by decide +kernel
theorem dX1_countDefined_3 : decode cX1_countDefined 3 = .ok (.istore_n 3, 1) := by decide +kernel
theorem dX1_countDefined_4 : decode cX1_countDefined 4 = .ok (.iload_n 3, 1) := by decide +kernel
theorem dX1_countDefined_5 : decode cX1_countDefined 5 = .ok (.aload_n 0, 1) := by decide +kernel
theorem dX1_countDefined_6 : decode cX1_countDefined 6 = .ok (.getfield 21, 3) := by decide +kernel
theorem dX1_countDefined_9 : decode cX1_countDefined 9 = .ok (.if_icmp .ge 31, 3) := by decide +kernel
theorem dX1_countDefined_12 : decode cX1_countDefined 12 = .ok (.aload_n 0, 1) := by decide +kernel
theorem dX1_countDefined_13 : decode cX1_countDefined 13 = .ok (.getfield 9, 3) := by decide +kernel
theorem dX1_countDefined_16 : decode cX1_countDefined 16 = .ok (.iload_n 3, 1) := by decide +kernel
theorem dX1_countDefined_17 : decode cX1_countDefined 17 = .ok (.iaload, 1) := by decide +kernel
theorem dX1_countDefined_18 : decode cX1_countDefined 18 = .ok (.ifCond .ne 16, 3) := by decide +kernel
theorem dX1_countDefined_21 : decode cX1_countDefined 21 = .ok (.aload_n 0, 1) := by decide +kernel
theorem dX1_countDefined_22 : decode cX1_countDefined 22 = .ok (.getfield 15, 3) := by decide +kernel
theorem dX1_countDefined_25 : decode cX1_countDefined 25 = .ok (.iload_n 3, 1) := by decide +kernel
theorem dX1_countDefined_26 : decode cX1_countDefined 26 = .ok (.iaload, 1) := by decide +kernel
theorem dX1_countDefined_27 : decode cX1_countDefined 27 = .ok (.iload_n 1, 1) := by decide +kernel
theorem dX1_countDefined_28 : decode cX1_countDefined 28 = .ok (.if_icmp .ne 6, 3) := by decide +kernel
theorem dX1_countDefined_31 : decode cX1_countDefined 31 = .ok (.iinc 2 1, 3) := by decide +kernel
theorem dX1_countDefined_34 : decode cX1_countDefined 34 = .ok (.iinc 3 1, 3) := by decide +kernel
theorem dX1_countDefined_37 : decode cX1_countDefined 37 = .ok (.goto (-33), 3) := by decide +kernel
theorem dX1_countDefined_40 : decode cX1_countDefined 40 = .ok (.iload_n 2, 1) := by decide +kernel
theorem dX1_countDefined_41 : decode cX1_countDefined 41 = .ok (.ireturn, 1) := by decide +kernel
theorem dX1_namesUndefined_0 : decode cX1_namesUndefined 0 = .ok (.iconst 0, 1) := by decide +kernel
theorem dX1_namesUndefined_1 : decode cX1_namesUndefined 1 = .ok (.istore_n 1, 1) := by decide +kernel
theorem dX1_namesUndefined_2 : decode cX1_namesUndefined 2 = .ok (.iload_n 1, 1) := by decide +kernel
theorem dX1_namesUndefined_3 : decode cX1_namesUndefined 3 = .ok (.aload_n 0, 1) := by decide +kernel
theorem dX1_namesUndefined_4 : decode cX1_namesUndefined 4 = .ok (.getfield 21, 3) := by decide +kernel
theorem dX1_namesUndefined_7 : decode cX1_namesUndefined 7 = .ok (.if_icmp .ge 54, 3) := by decide +kernel
theorem dX1_namesUndefined_10 : decode cX1_namesUndefined 10 = .ok (.aload_n 0, 1) := by decide +kernel
theorem dX1_namesUndefined_11 : decode cX1_namesUndefined 11 = .ok (.getfield 9, 3) := by decide +kernel
theorem dX1_namesUndefined_14 : decode cX1_namesUndefined 14 = .ok (.iload_n 1, 1) := by decide +kernel
theorem dX1_namesUndefined_15 : decode cX1_namesUndefined 15 = .ok (.iaload, 1) := by decide +kernel
theorem dX1_namesUndefined_16 : decode cX1_namesUndefined 16 = .ok (.iconst 2, 1) := by decide +kernel
theorem dX1_namesUndefined_17 : decode cX1_namesUndefined 17 = .ok (.if_icmp .eq 13, 3) := by decide +kernel
theorem dX1_namesUndefined_20 : decode cX1_namesUndefined 20 = .ok (.aload_n 0, 1) := by decide +kernel
theorem dX1_namesUndefined_21 : decode cX1_namesUndefined 21 = .ok (.getfield 9, 3) := by decide +kernel
theorem dX1_namesUndefined_24 : decode cX1_namesUndefined 24 = .ok (.iload_n 1, 1) := by decide +kernel
theorem dX1_namesUndefined_25 : decode cX1_namesUndefined 25 = .ok (.iaload, 1) := by decide +kernel
theorem dX1_namesUndefined_26 : decode cX1_namesUndefined 26 = .ok (.iconst 3, 1) := by decide +kernel
theorem dX1_namesUndefined_27 : decode cX1_namesUndefined 27 = .ok (.if_icmp .ne 7, 3) := by decide +kernel
theorem dX1_namesUndefined_30 : decode cX1_namesUndefined 30 = .ok (.iconst 1, 1) := by decide +kernel
theorem dX1_namesUndefined_31 : decode cX1_namesUndefined 31 = .ok (.goto 4, 3) := by decide +kernel
theorem dX1_namesUndefined_34 : decode cX1_namesUndefined 34 = .ok (.iconst 0, 1) := by decide +kernel
theorem dX1_namesUndefined_35 : decode cX1_namesUndefined 35 = .ok (.istore_n 2, 1) := by decide +kernel
theorem dX1_namesUndefined_36 : decode cX1_namesUndefined 36 = .ok (.iload_n 2, 1) := by decide +kernel
theorem dX1_namesUndefined_37 : decode cX1_namesUndefined 37 = .ok (.ifCond .eq 18, 3) := by decide +kernel
theorem dX1_namesUndefined_40 : decode cX1_namesUndefined 40 = .ok (.aload_n 0, 1) := by decide +kernel
theorem dX1_namesUndefined_41 : decode cX1_namesUndefined 41 = .ok (.aload_n 0, 1) := by decide +kernel
theorem dX1_namesUndefined_42 : decode cX1_namesUndefined 42 = .ok (.getfield 15, 3) := by decide +kernel
theorem dX1_namesUndefined_45 : decode cX1_namesUndefined 45 = .ok (.iload_n 1, 1) := by decide +kernel
theorem dX1_namesUndefined_46 : decode cX1_namesUndefined 46 = .ok (.iaload, 1) := by decide +kernel
theorem dX1_namesUndefined_47 : decode cX1_namesUndefined 47 = .ok (.invokevirtual 39, 3) := by decide +kernel
theorem dX1_namesUndefined_50 : decode cX1_namesUndefined 50 = .ok (.ifCond .ne 5, 3) := by decide +kernel
theorem dX1_namesUndefined_53 : decode cX1_namesUndefined 53 = .ok (.iconst 1, 1) := by decide +kernel
theorem dX1_namesUndefined_54 : decode cX1_namesUndefined 54 = .ok (.ireturn, 1) := by decide +kernel
theorem dX1_namesUndefined_55 : decode cX1_namesUndefined 55 = .ok (.iinc 1 1, 3) := by decide +kernel
theorem dX1_namesUndefined_58 : decode cX1_namesUndefined 58 = .ok (.goto (-56), 3) := by decide +kernel
theorem dX1_namesUndefined_61 : decode cX1_namesUndefined 61 = .ok (.iconst 0, 1) := by decide +kernel
theorem dX1_namesUndefined_62 : decode cX1_namesUndefined 62 = .ok (.ireturn, 1) := by decide +kernel
theorem dX0_make_0 : decode cX0_make 0 = .ok (.aload_n 0, 1) := by decide +kernel
theorem dX0_make_1 : decode cX0_make 1 = .ok (.getfield 12, 3) := by decide +kernel
theorem dX0_make_4 : decode cX0_make 4 = .ok (.aload_n 1, 1) := by decide +kernel
theorem dX0_make_5 : decode cX0_make 5 = .ok (.invokevirtual 38, 3) := by decide +kernel
theorem dX0_make_8 : decode cX0_make 8 = .ok (.aload_n 0, 1) := by decide +kernel
theorem dX0_make_9 : decode cX0_make 9 = .ok (.invokevirtual 42, 3) := by decide +kernel
theorem dX0_make_12 : decode cX0_make 12 = .ok (.aload_n 0, 1) := by decide +kernel
theorem dX0_make_13 : decode cX0_make 13 = .ok (.invokevirtual 45, 3) := by decide +kernel
theorem dX0_make_16 : decode cX0_make 16 = .ok (.iconst 0, 1) := by decide +kernel
theorem dX0_make_17 : decode cX0_make 17 = .ok (.istore_n 2, 1) := by decide +kernel
theorem dX0_make_18 : decode cX0_make 18 = .ok (.iload_n 2, 1) := by decide +kernel
theorem dX0_make_19 : decode cX0_make 19 = .ok (.bipush 50, 2) := by decide +kernel
theorem dX0_make_21 : decode cX0_make 21 = .ok (.if_icmp .ge 20, 3) := by decide +kernel
theorem dX0_make_24 : decode cX0_make 24 = .ok (.aload_n 0, 1) := by decide +kernel
theorem dX0_make_25 : decode cX0_make 25 = .ok (.invokevirtual 48, 3) := by decide +kernel
theorem dX0_make_28 : decode cX0_make 28 = .ok (.ifCond .eq 13, 3) := by decide +kernel
theorem dX0_make_31 : decode cX0_make 31 = .ok (.aload_n 0, 1) := by decide +kernel
theorem dX0_make_32 : decode cX0_make 32 = .ok (.invokevirtual 45, 3) := by decide +kernel
theorem dX0_make_35 : decode cX0_make 35 = .ok (.iinc 2 1, 3) := by decide +kernel
theorem dX0_make_38 : decode cX0_make 38 = .ok (.goto (-20), 3) := by decide +kernel
theorem dX0_make_41 : decode cX0_make 41 = .ok (.return_, 1) := by decide +kernel
theorem dX1_copyFrom_0 : decode cX1_copyFrom 0 = .ok (.aload_n 1, 1) := by decide +kernel
theorem dX1_copyFrom_1 : decode cX1_copyFrom 1 = .ok (.getfield 9, 3) := by decide +kernel
theorem dX1_copyFrom_4 : decode cX1_copyFrom 4 = .ok (.iconst 0, 1) := by decide +kernel
theorem dX1_copyFrom_5 : decode cX1_copyFrom 5 = .ok (.aload_n 0, 1) := by decide +kernel
theorem dX1_copyFrom_6 : decode cX1_copyFrom 6 = .ok (.getfield 9, 3) := by decide +kernel
theorem dX1_copyFrom_9 : decode cX1_copyFrom 9 = .ok (.iconst 0, 1) := by decide +kernel
theorem dX1_copyFrom_10 : decode cX1_copyFrom 10 = .ok (.aload_n 1, 1) := by decide +kernel
theorem dX1_copyFrom_11 : decode cX1_copyFrom 11 = .ok (.getfield 21, 3) := by decide +kernel
theorem dX1_copyFrom_14 : decode cX1_copyFrom 14 = .ok (.invokestatic 33, 3) := by decide +kernel
theorem dX1_copyFrom_17 : decode cX1_copyFrom 17 = .ok (.aload_n 1, 1) := by decide +kernel
theorem dX1_copyFrom_18 : decode cX1_copyFrom 18 = .ok (.getfield 15, 3) := by decide +kernel
theorem dX1_copyFrom_21 : decode cX1_copyFrom 21 = .ok (.iconst 0, 1) := by decide +kernel
theorem dX1_copyFrom_22 : decode cX1_copyFrom 22 = .ok (.aload_n 0, 1) := by decide +kernel
theorem dX1_copyFrom_23 : decode cX1_copyFrom 23 = .ok (.getfield 15, 3) := by decide +kernel
theorem dX1_copyFrom_26 : decode cX1_copyFrom 26 = .ok (.iconst 0, 1) := by decide +kernel
theorem dX1_copyFrom_27 : decode cX1_copyFrom 27 = .ok (.aload_n 1, 1) := by decide +kernel
theorem dX1_copyFrom_28 : decode cX1_copyFrom 28 = .ok (.getfield 21, 3) := by decide +kernel
theorem dX1_copyFrom_31 : decode cX1_copyFrom 31 = .ok (.invokestatic 33, 3) := by decide +kernel
theorem dX1_copyFrom_34 : decode cX1_copyFrom 34 = .ok (.aload_n 1, 1) := by decide +kernel
theorem dX1_copyFrom_35 : decode cX1_copyFrom 35 = .ok (.getfield 18, 3) := by decide +kernel
theorem dX1_copyFrom_38 : decode cX1_copyFrom 38 = .ok (.iconst 0, 1) := by decide +kernel
theorem dX1_copyFrom_39 : decode cX1_copyFrom 39 = .ok (.aload_n 0, 1) := by decide +kernel
theorem dX1_copyFrom_40 : decode cX1_copyFrom 40 = .ok (.getfield 18, 3) := by decide +kernel
theorem dX1_copyFrom_43 : decode cX1_copyFrom 43 = .ok (.iconst 0, 1) := by decide +kernel
theorem dX1_copyFrom_44 : decode cX1_copyFrom 44 = .ok (.aload_n 1, 1) := by decide +kernel
theorem dX1_copyFrom_45 : decode cX1_copyFrom 45 = .ok (.getfield 21, 3) := by decide +kernel
theorem dX1_copyFrom_48 : decode cX1_copyFrom 48 = .ok (.invokestatic 33, 3) := by decide +kernel
theorem dX1_copyFrom_51 : decode cX1_copyFrom 51 = .ok (.aload_n 0, 1) := by decide +kernel
theorem dX1_copyFrom_52 : decode cX1_copyFrom 52 = .ok (.aload_n 1, 1) := by decide +kernel
theorem dX1_copyFrom_53 : decode cX1_copyFrom 53 = .ok (.getfield 21, 3) := by decide +kernel
theorem dX1_copyFrom_56 : decode cX1_copyFrom 56 = .ok (.putfield 21, 3) := by decide +kernel
theorem dX1_copyFrom_59 : decode cX1_copyFrom 59 = .ok (.return_, 1) := by decide +kernel
theorem dX0_makeAllShort_0 : decode cX0_makeAllShort 0 = .ok (.iconst 0, 1) := by decide +kernel
theorem dX0_makeAllShort_1 : decode cX0_makeAllShort 1 = .ok (.istore_n 1, 1) := by decide +kernel
theorem dX0_makeAllShort_2 : decode cX0_makeAllShort 2 = .ok (.iload_n 1, 1) := by decide +kernel
theorem dX0_makeAllShort_3 : decode cX0_makeAllShort 3 = .ok (.aload_n 0, 1) := by decide +kernel
theorem dX0_makeAllShort_4 : decode cX0_makeAllShort 4 = .ok (.getfield 12, 3) := by decide +kernel
theorem dX0_makeAllShort_7 : decode cX0_makeAllShort 7 = .ok (.getfield 34, 3) := by decide +kernel
theorem dX0_makeAllShort_10 : decode cX0_makeAllShort 10 = .ok (.if_icmp .ge 33, 3) := by decide +kernel
theorem dX0_makeAllShort_13 : decode cX0_makeAllShort 13 = .ok (.aload_n 0, 1) := by decide +kernel
theorem dX0_makeAllShort_14 : decode cX0_makeAllShort 14 = .ok (.getfield 22, 3) := by decide +kernel
theorem dX0_makeAllShort_17 : decode cX0_makeAllShort 17 = .ok (.iload_n 1, 1) := by decide +kernel
theorem dX0_makeAllShort_18 : decode cX0_makeAllShort 18 = .ok (.aload_n 0, 1) := by decide +kernel
theorem dX0_makeAllShort_19 : decode cX0_makeAllShort 19 = .ok (.getfield 12, 3) := by decide +kernel
theorem dX0_makeAllShort_22 : decode cX0_makeAllShort 22 = .ok (.getfield 52, 3) := by decide +kernel
theorem dX0_makeAllShort_25 : decode cX0_makeAllShort 25 = .ok (.iload_n 1, 1) := by decide +kernel
theorem dX0_makeAllShort_26 : decode cX0_makeAllShort 26 = .ok (.iaload, 1) := by decide +kernel
theorem dX0_makeAllShort_27 : decode cX0_makeAllShort 27 = .ok (.iconst 3, 1) := by decide +kernel
theorem dX0_makeAllShort_28 : decode cX0_makeAllShort 28 = .ok (.if_icmp .ne 7, 3) := by decide +kernel
theorem dX0_makeAllShort_31 : decode cX0_makeAllShort 31 = .ok (.iconst 1, 1) := by decide +kernel
theorem dX0_makeAllShort_32 : decode cX0_makeAllShort 32 = .ok (.goto 4, 3) := by decide +kernel
theorem dX0_makeAllShort_35 : decode cX0_makeAllShort 35 = .ok (.iconst 0, 1) := by decide +kernel
theorem dX0_makeAllShort_36 : decode cX0_makeAllShort 36 = .ok (.iastore, 1) := by decide +kernel
theorem dX0_makeAllShort_37 : decode cX0_makeAllShort 37 = .ok (.iinc 1 1, 3) := by decide +kernel
theorem dX0_makeAllShort_40 : decode cX0_makeAllShort 40 = .ok (.goto (-38), 3) := by decide +kernel
theorem dX0_makeAllShort_43 : decode cX0_makeAllShort 43 = .ok (.return_, 1) := by decide +kernel
theorem dX0_place_0 : decode cX0_place 0 = .ok (.aload_n 0, 1) := by decide +kernel
theorem dX0_place_1 : decode cX0_place 1 = .ok (.getfield 25, 3) := by decide +kernel
theorem dX0_place_4 : decode cX0_place 4 = .ok (.iconst (-1), 1) := by decide +kernel
theorem dX0_place_5 : decode cX0_place 5 = .ok (.invokestatic 28, 3) := by decide +kernel
theorem dX0_place_8 : decode cX0_place 8 = .ok (.iconst 0, 1) := by decide +kernel
theorem dX0_place_9 : decode cX0_place 9 = .ok (.istore_n 1, 1) := by decide +kernel
theorem dX0_place_10 : decode cX0_place 10 = .ok (.iconst 0, 1) := by decide +kernel
theorem dX0_place_11 : decode cX0_place 11 = .ok (.istore_n 2, 1) := by decide +kernel
theorem dX0_place_12 : decode cX0_place 12 = .ok (.iload_n 2, 1) := by decide +kernel
theorem dX0_place_13 : decode cX0_place 13 = .ok (.aload_n 0, 1) := by decide +kernel
theorem dX0_place_14 : decode cX0_place 14 = .ok (.getfield 12, 3) := by decide +kernel
theorem dX0_place_17 : decode cX0_place 17 = .ok (.getfield 34, 3) := by decide +kernel
theorem dX0_place_20 : decode cX0_place 20 = .ok (.if_icmp .ge 51, 3) := by decide +kernel
theorem dX0_place_23 : decode cX0_place 23 = .ok (.aload_n 0, 1) := by decide +kernel
theorem dX0_place_24 : decode cX0_place 24 = .ok (.getfield 18, 3) := by decide +kernel
theorem dX0_place_27 : decode cX0_place 27 = .ok (.iload_n 2, 1) := by decide +kernel
theorem dX0_place_28 : decode cX0_place 28 = .ok (.iload_n 1, 1) := by decide +kernel
theorem dX0_place_29 : decode cX0_place 29 = .ok (.iastore, 1) := by decide +kernel
theorem dX0_place_30 : decode cX0_place 30 = .ok (.aload_n 0, 1) := by decide +kernel
theorem dX0_place_31 : decode cX0_place 31 = .ok (.getfield 12, 3) := by decide +kernel
theorem dX0_place_34 : decode cX0_place 34 = .ok (.getfield 52, 3) := by decide +kernel
theorem dX0_place_37 : decode cX0_place 37 = .ok (.iload_n 2, 1) := by decide +kernel
theorem dX0_place_38 : decode cX0_place 38 = .ok (.iaload, 1) := by decide +kernel
theorem dX0_place_39 : decode cX0_place 39 = .ok (.ifCond .ne 18, 3) := by decide +kernel
theorem dX0_place_42 : decode cX0_place 42 = .ok (.aload_n 0, 1) := by decide +kernel
theorem dX0_place_43 : decode cX0_place 43 = .ok (.getfield 25, 3) := by decide +kernel
theorem dX0_place_46 : decode cX0_place 46 = .ok (.aload_n 0, 1) := by decide +kernel
theorem dX0_place_47 : decode cX0_place 47 = .ok (.getfield 12, 3) := by decide +kernel
theorem dX0_place_50 : decode cX0_place 50 = .ok (.getfield 55, 3) := by decide +kernel
theorem dX0_place_53 : decode cX0_place 53 = .ok (.iload_n 2, 1) := by decide +kernel
theorem dX0_place_54 : decode cX0_place 54 = .ok (.iaload, 1) := by decide +kernel
theorem dX0_place_55 : decode cX0_place 55 = .ok (.iload_n 1, 1) := by decide +kernel
theorem dX0_place_56 : decode cX0_place 56 = .ok (.iastore, 1) := by decide +kernel
theorem dX0_place_57 : decode cX0_place 57 = .ok (.iload_n 1, 1) := by decide +kernel
theorem dX0_place_58 : decode cX0_place 58 = .ok (.aload_n 0, 1) := by decide +kernel
theorem dX0_place_59 : decode cX0_place 59 = .ok (.iload_n 2, 1) := by decide +kernel
theorem dX0_place_60 : decode cX0_place 60 = .ok (.invokevirtual 58, 3) := by decide +kernel
theorem dX0_place_63 : decode cX0_place 63 = .ok (.iadd, 1) := by decide +kernel
theorem dX0_place_64 : decode cX0_place 64 = .ok (.istore_n 1, 1) := by decide +kernel
theorem dX0_place_65 : decode cX0_place 65 = .ok (.iinc 2 1, 3) := by decide +kernel
theorem dX0_place_68 : decode cX0_place 68 = .ok (.goto (-56), 3) := by decide +kernel
theorem dX0_place_71 : decode cX0_place 71 = .ok (.aload_n 0, 1) := by decide +kernel
theorem dX0_place_72 : decode cX0_place 72 = .ok (.getfield 18, 3) := by decide +kernel
theorem dX0_place_75 : decode cX0_place 75 = .ok (.aload_n 0, 1) := by decide +kernel
theorem dX0_place_76 : decode cX0_place 76 = .ok (.getfield 12, 3) := by decide +kernel
theorem dX0_place_79 : decode cX0_place 79 = .ok (.getfield 34, 3) := by decide +kernel
theorem dX0_place_82 : decode cX0_place 82 = .ok (.iload_n 1, 1) := by decide +kernel
theorem dX0_place_83 : decode cX0_place 83 = .ok (.iastore, 1) := by decide +kernel
theorem dX0_place_84 : decode cX0_place 84 = .ok (.return_, 1) := by decide +kernel
theorem dX0_lengthen_0 : decode cX0_lengthen 0 = .ok (.iconst 0, 1) := by decide +kernel
theorem dX0_lengthen_1 : decode cX0_lengthen 1 = .ok (.istore_n 1, 1) := by decide +kernel
theorem dX0_lengthen_2 : decode cX0_lengthen 2 = .ok (.iconst 0, 1) := by decide +kernel
theorem dX0_lengthen_3 : decode cX0_lengthen 3 = .ok (.istore_n 2, 1) := by decide +kernel
theorem dX0_lengthen_4 : decode cX0_lengthen 4 = .ok (.iload_n 2, 1) := by decide +kernel
theorem dX0_lengthen_5 : decode cX0_lengthen 5 = .ok (.aload_n 0, 1) := by decide +kernel
theorem dX0_lengthen_6 : decode cX0_lengthen 6 = .ok (.getfield 12, 3) := by decide +kernel
theorem dX0_lengthen_9 : decode cX0_lengthen 9 = .ok (.getfield 34, 3) := by decide +kernel
theorem dX0_lengthen_12 : decode cX0_lengthen 12 = .ok (.if_icmp .ge 43, 3) := by decide +kernel
theorem dX0_lengthen_15 : decode cX0_lengthen 15 = .ok (.aload_n 0, 1) := by decide +kernel
theorem dX0_lengthen_16 : decode cX0_lengthen 16 = .ok (.getfield 22, 3) := by decide +kernel
theorem dX0_lengthen_19 : decode cX0_lengthen 19 = .ok (.iload_n 2, 1) := by decide +kernel
theorem dX0_lengthen_20 : decode cX0_lengthen 20 = .ok (.iaload, 1) := by decide +kernel
theorem dX0_lengthen_21 : decode cX0_lengthen 21 = .ok (.iconst 1, 1) := by decide +kernel
theorem dX0_lengthen_22 : decode cX0_lengthen 22 = .ok (.if_icmp .ne 27, 3) := by decide +kernel
theorem dX0_lengthen_25 : decode cX0_lengthen 25 = .ok (.aload_n 0, 1) := by decide +kernel
theorem dX0_lengthen_26 : decode cX0_lengthen 26 = .ok (.iload_n 2, 1) := by decide +kernel
theorem dX0_lengthen_27 : decode cX0_lengthen 27 = .ok (.invokevirtual 62, 3) := by decide +kernel
theorem dX0_lengthen_30 : decode cX0_lengthen 30 = .ok (.bipush (-128), 2) := by decide +kernel
theorem dX0_lengthen_32 : decode cX0_lengthen 32 = .ok (.bipush 127, 2) := by decide +kernel
theorem dX0_lengthen_34 : decode cX0_lengthen 34 = .ok (.invokestatic 65, 3) := by decide +kernel
theorem dX0_lengthen_37 : decode cX0_lengthen 37 = .ok (.ifCond .ne 12, 3) := by decide +kernel
theorem dX0_lengthen_40 : decode cX0_lengthen 40 = .ok (.aload_n 0, 1) := by decide +kernel
theorem dX0_lengthen_41 : decode cX0_lengthen 41 = .ok (.getfield 22, 3) := by decide +kernel
theorem dX0_lengthen_44 : decode cX0_lengthen 44 = .ok (.iload_n 2, 1) := by decide +kernel
theorem dX0_lengthen_45 : decode cX0_lengthen 45 = .ok (.iconst 2, 1) := by decide +kernel
theorem dX0_lengthen_46 : decode cX0_lengthen 46 = .ok (.iastore, 1) := by decide +kernel
theorem dX0_lengthen_47 : decode cX0_lengthen 47 = .ok (.iconst 1, 1) := by decide +kernel
theorem dX0_lengthen_48 : decode cX0_lengthen 48 = .ok (.istore_n 1, 1) := by decide +kernel
theorem dX0_lengthen_49 : decode cX0_lengthen 49 = .ok (.iinc 2 1, 3) := by decide +kernel
theorem dX0_lengthen_52 : decode cX0_lengthen 52 = .ok (.goto (-48), 3) := by decide +kernel
theorem dX0_lengthen_55 : decode cX0_lengthen 55 = .ok (.iload_n 1, 1) := by decide +kernel
theorem dX0_lengthen_56 : decode cX0_lengthen 56 = .ok (.ireturn, 1) := by decide +kernel
theorem dL_follow_0 : decode cL_follow 0 = .ok (.aload_n 3, 1) := by decide +kernel
theorem dL_follow_1 : decode cL_follow 1 = .ok (.iconst 0, 1) := by decide +kernel
theorem dL_follow_2 : decode cL_follow 2 = .ok (.aload_n 0, 1) := by decide +kernel
theorem dL_follow_3 : decode cL_follow 3 = .ok (.iload_n 1, 1) := by decide +kernel
theorem dL_follow_4 : decode cL_follow 4 = .ok (.iload_n 2, 1) := by decide +kernel
theorem dL_follow_5 : decode cL_follow 5 = .ok (.invokevirtual 17, 3) := by decide +kernel
theorem dL_follow_8 : decode cL_follow 8 = .ok (.i2l, 1) := by decide +kernel
theorem dL_follow_9 : decode cL_follow 9 = .ok (.lastore, 1) := by decide +kernel
theorem dL_follow_10 : decode cL_follow 10 = .ok (.goto 7, 3) := by decide +kernel
theorem dL_follow_13 : decode cL_follow 13 = .ok (.astore 4, 2) := by decide +kernel
theorem dL_follow_15 : decode cL_follow 15 = .ok (.iconst 1, 1) := by decide +kernel
theorem dL_follow_16 : decode cL_follow 16 = .ok (.ireturn, 1) := by decide +kernel
theorem dL_follow_17 : decode cL_follow 17 = .ok (.iconst 0, 1) := by decide +kernel
theorem dL_follow_18 : decode cL_follow 18 = .ok (.ireturn, 1) := by decide +kernel
theorem dX2_follow_0 : decode cX2_follow 0 = .ok (.aload_n 0, 1) := by decide +kernel
theorem dX2_follow_1 : decode cX2_follow 1 = .ok (.getfield 19, 3) := by decide +kernel
theorem dX2_follow_4 : decode cX2_follow 4 = .ok (.iload_n 1, 1) := by decide +kernel
theorem dX2_follow_5 : decode cX2_follow 5 = .ok (.invokevirtual 92, 3) := by decide +kernel
theorem dX2_follow_8 : decode cX2_follow 8 = .ok (.istore_n 3, 1) := by decide +kernel
theorem dX2_follow_9 : decode cX2_follow 9 = .ok (.iload_n 3, 1) := by decide +kernel
theorem dX2_follow_10 : decode cX2_follow 10 = .ok (.ifCond .ne 13, 3) := by decide +kernel
theorem dX2_follow_13 : decode cX2_follow 13 = .ok (.new 95, 3) := by decide +kernel
theorem dX2_follow_16 : decode cX2_follow 16 = .ok (.dup, 1) := by decide +kernel
theorem dX2_follow_17 : decode cX2_follow 17 = .ok (.ldc 97, 2) := by decide +kernel
theorem dX2_follow_19 : decode cX2_follow 19 = .ok (.invokespecial 99, 3) := by decide +kernel
theorem dX2_follow_22 : decode cX2_follow 22 = .ok (.athrow, 1) := by decide +kernel
theorem dX2_follow_23 : decode cX2_follow 23 = .ok (.iload_n 2, 1) := by decide +kernel
theorem dX2_follow_24 : decode cX2_follow 24 = .ok (.ifCond .eq 15, 3) := by decide +kernel
theorem dX2_follow_27 : decode cX2_follow 27 = .ok (.aload_n 0, 1) := by decide +kernel
theorem dX2_follow_28 : decode cX2_follow 28 = .ok (.getfield 19, 3) := by decide +kernel
theorem dX2_follow_31 : decode cX2_follow 31 = .ok (.iload_n 1, 1) := by decide +kernel
theorem dX2_follow_32 : decode cX2_follow 32 = .ok (.iload_n 3, 1) := by decide +kernel
theorem dX2_follow_33 : decode cX2_follow 33 = .ok (.invokevirtual 100, 3) := by decide +kernel
theorem dX2_follow_36 : decode cX2_follow 36 = .ok (.goto 6, 3) := by decide +kernel
theorem dX2_follow_39 : decode cX2_follow 39 = .ok (.iload_n 1, 1) := by decide +kernel
theorem dX2_follow_40 : decode cX2_follow 40 = .ok (.iload_n 3, 1) := by decide +kernel
theorem dX2_follow_41 : decode cX2_follow 41 = .ok (.iadd, 1) := by decide +kernel
theorem dX2_follow_42 : decode cX2_follow 42 = .ok (.ireturn, 1) := by decide +kernel
theorem dX3_init_0 : decode cX3_init 0 = .ok (.aload_n 0, 1) := by decide +kernel
theorem dX3_init_1 : decode cX3_init 1 = .ok (.invokespecial 1, 3) := by decide +kernel
theorem dX3_init_4 : decode cX3_init 4 = .ok (.aload_n 0, 1) := by decide +kernel
theorem dX3_init_5 : decode cX3_init 5 = .ok (.bipush 50, 2) := by decide +kernel
theorem dX3_init_7 : decode cX3_init 7 = .ok (.newarray .int, 2) := by decide +kernel
theorem dX3_init_9 : decode cX3_init 9 = .ok (.putfield 7, 3) := by decide +kernel
theorem dX3_init_12 : decode cX3_init 12 = .ok (.aload_n 0, 1) := by decide +kernel
theorem dX3_init_13 : decode cX3_init 13 = .ok (.bipush 50, 2) := by decide +kernel
theorem dX3_init_15 : decode cX3_init 15 = .ok (.newarray .int, 2) := by decide +kernel
theorem dX3_init_17 : decode cX3_init 17 = .ok (.putfield 13, 3) := by decide +kernel
theorem dX3_init_20 : decode cX3_init 20 = .ok (.aload_n 0, 1) := by decide +kernel
theorem dX3_init_21 : decode cX3_init 21 = .ok (.bipush 50, 2) := by decide +kernel
theorem dX3_init_23 : decode cX3_init 23 = .ok (.newarray .int, 2) := by decide +kernel
theorem dX3_init_25 : decode cX3_init 25 = .ok (.putfield 16, 3) := by decide +kernel
theorem dX3_init_28 : decode cX3_init 28 = .ok (.aload_n 0, 1) := by decide +kernel
theorem dX3_init_29 : decode cX3_init 29 = .ok (.bipush 50, 2) := by decide +kernel
theorem dX3_init_31 : decode cX3_init 31 = .ok (.newarray .int, 2) := by decide +kernel
theorem dX3_init_33 : decode cX3_init 33 = .ok (.putfield 19, 3) := by decide +kernel
theorem dX3_init_36 : decode cX3_init 36 = .ok (.aload_n 0, 1) := by decide +kernel
theorem dX3_init_37 : decode cX3_init 37 = .ok (.bipush 50, 2) := by decide +kernel
theorem dX3_init_39 : decode cX3_init 39 = .ok (.newarray .int, 2) := by decide +kernel
theorem dX3_init_41 : decode cX3_init 41 = .ok (.putfield 22, 3) := by decide +kernel
theorem dX3_init_44 : decode cX3_init 44 = .ok (.aload_n 0, 1) := by decide +kernel
theorem dX3_init_45 : decode cX3_init 45 = .ok (.bipush 50, 2) := by decide +kernel
theorem dX3_init_47 : decode cX3_init 47 = .ok (.newarray .int, 2) := by decide +kernel
theorem dX3_init_49 : decode cX3_init 49 = .ok (.putfield 25, 3) := by decide +kernel
theorem dX3_init_52 : decode cX3_init 52 = .ok (.aload_n 0, 1) := by decide +kernel
theorem dX3_init_53 : decode cX3_init 53 = .ok (.bipush 50, 2) := by decide +kernel
theorem dX3_init_55 : decode cX3_init 55 = .ok (.newarray .int, 2) := by decide +kernel
theorem dX3_init_57 : decode cX3_init 57 = .ok (.putfield 28, 3) := by decide +kernel
theorem dX3_init_60 : decode cX3_init 60 = .ok (.return_, 1) := by decide +kernel
theorem dX3_thrown_0 : decode cX3_thrown 0 = .ok (.aload_n 0, 1) := by decide +kernel
theorem dX3_thrown_1 : decode cX3_thrown 1 = .ok (.getfield 31, 3) := by decide +kernel
theorem dX3_thrown_4 : decode cX3_thrown 4 = .ok (.ireturn, 1) := by decide +kernel
theorem dX3_insert_0 : decode cX3_insert 0 = .ok (.aload_n 0, 1) := by decide +kernel
theorem dX3_insert_1 : decode cX3_insert 1 = .ok (.iconst 0, 1) := by decide +kernel
theorem dX3_insert_2 : decode cX3_insert 2 = .ok (.putfield 31, 3) := by decide +kernel
theorem dX3_insert_5 : decode cX3_insert 5 = .ok (.aload_n 0, 1) := by decide +kernel
theorem dX3_insert_6 : decode cX3_insert 6 = .ok (.getfield 39, 3) := by decide +kernel
theorem dX3_insert_9 : decode cX3_insert 9 = .ok (.bipush 50, 2) := by decide +kernel
theorem dX3_insert_11 : decode cX3_insert 11 = .ok (.if_icmp .eq 25, 3) := by decide +kernel
theorem dX3_insert_14 : decode cX3_insert 14 = .ok (.iload_n 1, 1) := by decide +kernel
theorem dX3_insert_15 : decode cX3_insert 15 = .ok (.ifCond .lt 21, 3) := by decide +kernel
theorem dX3_insert_18 : decode cX3_insert 18 = .ok (.iload_n 1, 1) := by decide +kernel
theorem dX3_insert_19 : decode cX3_insert 19 = .ok (.aload_n 0, 1) := by decide +kernel
theorem dX3_insert_20 : decode cX3_insert 20 = .ok (.getfield 39, 3) := by decide +kernel
theorem dX3_insert_23 : decode cX3_insert 23 = .ok (.if_icmp .gt 13, 3) := by decide +kernel
theorem dX3_insert_26 : decode cX3_insert 26 = .ok (.iload_n 2, 1) := by decide +kernel
theorem dX3_insert_27 : decode cX3_insert 27 = .ok (.iload_n 3, 1) := by decide +kernel
theorem dX3_insert_28 : decode cX3_insert 28 = .ok (.iload 4, 2) := by decide +kernel
theorem dX3_insert_30 : decode cX3_insert 30 = .ok (.invokestatic 42, 3) := by decide +kernel
theorem dX3_insert_33 : decode cX3_insert 33 = .ok (.ifCond .ne 5, 3) := by decide +kernel
theorem dX3_insert_36 : decode cX3_insert 36 = .ok (.iconst 0, 1) := by decide +kernel
theorem dX3_insert_37 : decode cX3_insert 37 = .ok (.ireturn, 1) := by decide +kernel
theorem dX3_insert_38 : decode cX3_insert 38 = .ok (.aload_n 0, 1) := by decide +kernel
theorem dX3_insert_39 : decode cX3_insert 39 = .ok (.getfield 39, 3) := by decide +kernel
theorem dX3_insert_42 : decode cX3_insert 42 = .ok (.istore 5, 2) := by decide +kernel
theorem dX3_insert_44 : decode cX3_insert 44 = .ok (.iload 5, 2) := by decide +kernel
theorem dX3_insert_46 : decode cX3_insert 46 = .ok (.iload_n 1, 1) := by decide +kernel
theorem dX3_insert_47 : decode cX3_insert 47 = .ok (.if_icmp .le 57, 3) := by decide +kernel
theorem dX3_insert_50 : decode cX3_insert 50 = .ok (.aload_n 0, 1) := by decide +kernel
theorem dX3_insert_51 : decode cX3_insert 51 = .ok (.getfield 7, 3) := by decide +kernel
theorem dX3_insert_54 : decode cX3_insert 54 = .ok (.iload 5, 2) := by decide +kernel
theorem dX3_insert_56 : decode cX3_insert 56 = .ok (.aload_n 0, 1) := by decide +kernel
theorem dX3_insert_57 : decode cX3_insert 57 = .ok (.getfield 7, 3) := by decide +kernel
theorem dX3_insert_60 : decode cX3_insert 60 = .ok (.iload 5, 2) := by decide +kernel
theorem dX3_insert_62 : decode cX3_insert 62 = .ok (.iconst 1, 1) := by decide +kernel
theorem dX3_insert_63 : decode cX3_insert 63 = .ok (.isub, 1) := by decide +kernel
theorem dX3_insert_64 : decode cX3_insert 64 = .ok (.iaload, 1) := by decide +kernel
theorem dX3_insert_65 : decode cX3_insert 65 = .ok (.iastore, 1) := by decide +kernel
theorem dX3_insert_66 : decode cX3_insert 66 = .ok (.aload_n 0, 1) := by decide +kernel
theorem dX3_insert_67 : decode cX3_insert 67 = .ok (.getfield 13, 3) := by decide +kernel
theorem dX3_insert_70 : decode cX3_insert 70 = .ok (.iload 5, 2) := by decide +kernel
theorem dX3_insert_72 : decode cX3_insert 72 = .ok (.aload_n 0, 1) := by decide +kernel
theorem dX3_insert_73 : decode cX3_insert 73 = .ok (.getfield 13, 3) := by decide +kernel
theorem dX3_insert_76 : decode cX3_insert 76 = .ok (.iload 5, 2) := by decide +kernel
theorem dX3_insert_78 : decode cX3_insert 78 = .ok (.iconst 1, 1) := by decide +kernel
theorem dX3_insert_79 : decode cX3_insert 79 = .ok (.isub, 1) := by decide +kernel
theorem dX3_insert_80 : decode cX3_insert 80 = .ok (.iaload, 1) := by decide +kernel
theorem dX3_insert_81 : decode cX3_insert 81 = .ok (.iastore, 1) := by decide +kernel
theorem dX3_insert_82 : decode cX3_insert 82 = .ok (.aload_n 0, 1) := by decide +kernel
theorem dX3_insert_83 : decode cX3_insert 83 = .ok (.getfield 16, 3) := by decide +kernel
theorem dX3_insert_86 : decode cX3_insert 86 = .ok (.iload 5, 2) := by decide +kernel
theorem dX3_insert_88 : decode cX3_insert 88 = .ok (.aload_n 0, 1) := by decide +kernel
theorem dX3_insert_89 : decode cX3_insert 89 = .ok (.getfield 16, 3) := by decide +kernel
theorem dX3_insert_92 : decode cX3_insert 92 = .ok (.iload 5, 2) := by decide +kernel
theorem dX3_insert_94 : decode cX3_insert 94 = .ok (.iconst 1, 1) := by decide +kernel
theorem dX3_insert_95 : decode cX3_insert 95 = .ok (.isub, 1) := by decide +kernel
theorem dX3_insert_96 : decode cX3_insert 96 = .ok (.iaload, 1) := by decide +kernel
theorem dX3_insert_97 : decode cX3_insert 97 = .ok (.iastore, 1) := by decide +kernel
theorem dX3_insert_98 : decode cX3_insert 98 = .ok (.iinc 5 (-1), 3) := by decide +kernel
theorem dX3_insert_101 : decode cX3_insert 101 = .ok (.goto (-57), 3) := by decide +kernel
theorem dX3_insert_104 : decode cX3_insert 104 = .ok (.aload_n 0, 1) := by decide +kernel
theorem dX3_insert_105 : decode cX3_insert 105 = .ok (.getfield 7, 3) := by decide +kernel
theorem dX3_insert_108 : decode cX3_insert 108 = .ok (.iload_n 1, 1) := by decide +kernel
theorem dX3_insert_109 : decode cX3_insert 109 = .ok (.iload_n 2, 1) := by decide +kernel
theorem dX3_insert_110 : decode cX3_insert 110 = .ok (.iastore, 1) := by decide +kernel
theorem dX3_insert_111 : decode cX3_insert 111 = .ok (.aload_n 0, 1) := by decide +kernel
theorem dX3_insert_112 : decode cX3_insert 112 = .ok (.getfield 13, 3) := by decide +kernel
theorem dX3_insert_115 : decode cX3_insert 115 = .ok (.iload_n 1, 1) := by decide +kernel
theorem dX3_insert_116 : decode cX3_insert 116 = .ok (.iload_n 3, 1) := by decide +kernel
theorem dX3_insert_117 : decode cX3_insert 117 = .ok (.iastore, 1) := by decide +kernel
theorem dX3_insert_118 : decode cX3_insert 118 = .ok (.aload_n 0, 1) := by decide +kernel
theorem dX3_insert_119 : decode cX3_insert 119 = .ok (.getfield 16, 3) := by decide +kernel
theorem dX3_insert_122 : decode cX3_insert 122 = .ok (.iload_n 1, 1) := by decide +kernel
theorem dX3_insert_123 : decode cX3_insert 123 = .ok (.iload 4, 2) := by decide +kernel
theorem dX3_insert_125 : decode cX3_insert 125 = .ok (.iastore, 1) := by decide +kernel
theorem dX3_insert_126 : decode cX3_insert 126 = .ok (.aload_n 0, 1) := by decide +kernel
theorem dX3_insert_127 : decode cX3_insert 127 = .ok (.dup, 1) := by decide +kernel
theorem dX3_insert_128 : decode cX3_insert 128 = .ok (.getfield 39, 3) := by decide +kernel
theorem dX3_insert_131 : decode cX3_insert 131 = .ok (.iconst 1, 1) := by decide +kernel
theorem dX3_insert_132 : decode cX3_insert 132 = .ok (.iadd, 1) := by decide +kernel
theorem dX3_insert_133 : decode cX3_insert 133 = .ok (.putfield 39, 3) := by decide +kernel
theorem dX3_insert_136 : decode cX3_insert 136 = .ok (.iconst 1, 1) := by decide +kernel
theorem dX3_insert_137 : decode cX3_insert 137 = .ok (.ireturn, 1) := by decide +kernel
theorem dX3_good_0 : decode cX3_good 0 = .ok (.iload_n 0, 1) := by decide +kernel
theorem dX3_good_1 : decode cX3_good 1 = .ok (.tableswitch 134 0 3 #[31, 51, 79, 108], 31) := by decide +kernel
theorem dX3_good_32 : decode cX3_good 32 = .ok (.iload_n 1, 1) := by decide +kernel
theorem dX3_good_33 : decode cX3_good 33 = .ok (.iconst 0, 1) := by decide +kernel
theorem dX3_good_34 : decode cX3_good 34 = .ok (.bipush 15, 2) := by decide +kernel
theorem dX3_good_36 : decode cX3_good 36 = .ok (.invokestatic 35, 3) := by decide +kernel
theorem dX3_good_39 : decode cX3_good 39 = .ok (.ifCond .eq 11, 3) := by decide +kernel
theorem dX3_good_42 : decode cX3_good 42 = .ok (.iload_n 2, 1) := by decide +kernel
theorem dX3_good_43 : decode cX3_good 43 = .ok (.ifCond .ne 7, 3) := by decide +kernel
theorem dX3_good_46 : decode cX3_good 46 = .ok (.iconst 1, 1) := by decide +kernel
theorem dX3_good_47 : decode cX3_good 47 = .ok (.goto 4, 3) := by decide +kernel
theorem dX3_good_50 : decode cX3_good 50 = .ok (.iconst 0, 1) := by decide +kernel
theorem dX3_good_51 : decode cX3_good 51 = .ok (.ireturn, 1) := by decide +kernel
theorem dX3_good_52 : decode cX3_good 52 = .ok (.iload_n 1, 1) := by decide +kernel
theorem dX3_good_53 : decode cX3_good 53 = .ok (.iconst 1, 1) := by decide +kernel
theorem dX3_good_54 : decode cX3_good 54 = .ok (.sipush 200, 3) := by decide +kernel
theorem dX3_good_57 : decode cX3_good 57 = .ok (.invokestatic 35, 3) := by decide +kernel
theorem dX3_good_60 : decode cX3_good 60 = .ok (.ifCond .eq 18, 3) := by decide +kernel
theorem dX3_good_63 : decode cX3_good 63 = .ok (.iload_n 2, 1) := by decide +kernel
theorem dX3_good_64 : decode cX3_good 64 = .ok (.iconst 0, 1) := by decide +kernel
theorem dX3_good_65 : decode cX3_good 65 = .ok (.sipush 255, 3) := by decide +kernel
theorem dX3_good_68 : decode cX3_good 68 = .ok (.invokestatic 35, 3) := by decide +kernel
theorem dX3_good_71 : decode cX3_good 71 = .ok (.ifCond .eq 7, 3) := by decide +kernel
theorem dX3_good_74 : decode cX3_good 74 = .ok (.iconst 1, 1) := by decide +kernel
theorem dX3_good_75 : decode cX3_good 75 = .ok (.goto 4, 3) := by decide +kernel
theorem dX3_good_78 : decode cX3_good 78 = .ok (.iconst 0, 1) := by decide +kernel
theorem dX3_good_79 : decode cX3_good 79 = .ok (.ireturn, 1) := by decide +kernel
theorem dX3_good_80 : decode cX3_good 80 = .ok (.iload_n 1, 1) := by decide +kernel
theorem dX3_good_81 : decode cX3_good 81 = .ok (.iconst 0, 1) := by decide +kernel
theorem dX3_good_82 : decode cX3_good 82 = .ok (.bipush 15, 2) := by decide +kernel
theorem dX3_good_84 : decode cX3_good 84 = .ok (.invokestatic 35, 3) := by decide +kernel
theorem dX3_good_87 : decode cX3_good 87 = .ok (.ifCond .eq 20, 3) := by decide +kernel
theorem dX3_good_90 : decode cX3_good 90 = .ok (.iload_n 2, 1) := by decide +kernel
theorem dX3_good_91 : decode cX3_good 91 = .ok (.sipush (-1000), 3) := by decide +kernel
theorem dX3_good_94 : decode cX3_good 94 = .ok (.sipush 1000, 3) := by decide +kernel
theorem dX3_good_97 : decode cX3_good 97 = .ok (.invokestatic 35, 3) := by decide +kernel
theorem dX3_good_100 : decode cX3_good 100 = .ok (.ifCond .eq 7, 3) := by decide +kernel
theorem dX3_good_103 : decode cX3_good 103 = .ok (.iconst 1, 1) := by decide +kernel
theorem dX3_good_104 : decode cX3_good 104 = .ok (.goto 4, 3) := by decide +kernel
theorem dX3_good_107 : decode cX3_good 107 = .ok (.iconst 0, 1) := by decide +kernel
theorem dX3_good_108 : decode cX3_good 108 = .ok (.ireturn, 1) := by decide +kernel
end
section
theorem dX3_good_109 : decode cX3_good 109 = .ok (.iload_n 1, 1) := by decide +kernel
theorem dX3_good_110 : decode cX3_good 110 = .ok (.iconst 0, 1) := by decide +kernel
theorem dX3_good_111 : decode cX3_good 111 = .ok (.bipush 15, 2) := by decide +kernel
theorem dX3_good_113 : decode cX3_good 113 = .ok (.invokestatic 35, 3) := by decide +kernel
theorem dX3_good_116 : decode cX3_good 116 = .ok (.ifCond .eq 17, 3) := by decide +kernel
theorem dX3_good_119 : decode cX3_good 119 = .ok (.iload_n 2, 1) := by decide +kernel
theorem dX3_good_120 : decode cX3_good 120 = .ok (.iconst 0, 1) := by decide +kernel
theorem dX3_good_121 : decode cX3_good 121 = .ok (.bipush 7, 2) := by decide +kernel
theorem dX3_good_123 : decode cX3_good 123 = .ok (.invokestatic 35, 3) := by decide +kernel
theorem dX3_good_126 : decode cX3_good 126 = .ok (.ifCond .eq 7, 3) := by decide +kernel
theorem dX3_good_129 : decode cX3_good 129 = .ok (.iconst 1, 1) := by decide +kernel
theorem dX3_good_130 : decode cX3_good 130 = .ok (.goto 4, 3) := by decide +kernel
theorem dX3_good_133 : decode cX3_good 133 = .ok (.iconst 0, 1) := by decide +kernel
theorem dX3_good_134 : decode cX3_good 134 = .ok (.ireturn, 1) := by decide +kernel
theorem dX3_good_135 : decode cX3_good 135 = .ok (.iconst 0, 1) := by decide +kernel
theorem dX3_good_136 : decode cX3_good 136 = .ok (.ireturn, 1) := by decide +kernel
theorem dX3_in_0 : decode cX3_in 0 = .ok (.iload_n 0, 1) := by decide +kernel
theorem dX3_in_1 : decode cX3_in 1 = .ok (.iload_n 1, 1) := by decide +kernel
theorem dX3_in_2 : decode cX3_in 2 = .ok (.if_icmp .lt 12, 3) := by decide +kernel
theorem dX3_in_5 : decode cX3_in 5 = .ok (.iload_n 0, 1) := by decide +kernel
theorem dX3_in_6 : decode cX3_in 6 = .ok (.iload_n 2, 1) := by decide +kernel
theorem dX3_in_7 : decode cX3_in 7 = .ok (.if_icmp .gt 7, 3) := by decide +kernel
theorem dX3_in_10 : decode cX3_in 10 = .ok (.iconst 1, 1) := by decide +kernel
theorem dX3_in_11 : decode cX3_in 11 = .ok (.goto 4, 3) := by decide +kernel
theorem dX3_in_14 : decode cX3_in 14 = .ok (.iconst 0, 1) := by decide +kernel
theorem dX3_in_15 : decode cX3_in 15 = .ok (.ireturn, 1) := by decide +kernel
theorem dX3_remove_0 : decode cX3_remove 0 = .ok (.aload_n 0, 1) := by decide +kernel
theorem dX3_remove_1 : decode cX3_remove 1 = .ok (.iconst 0, 1) := by decide +kernel
theorem dX3_remove_2 : decode cX3_remove 2 = .ok (.putfield 31, 3) := by decide +kernel
theorem dX3_remove_5 : decode cX3_remove 5 = .ok (.iload_n 1, 1) := by decide +kernel
theorem dX3_remove_6 : decode cX3_remove 6 = .ok (.ifCond .lt 11, 3) := by decide +kernel
theorem dX3_remove_9 : decode cX3_remove 9 = .ok (.iload_n 1, 1) := by decide +kernel
theorem dX3_remove_10 : decode cX3_remove 10 = .ok (.aload_n 0, 1) := by decide +kernel
theorem dX3_remove_11 : decode cX3_remove 11 = .ok (.getfield 39, 3) := by decide +kernel
theorem dX3_remove_14 : decode cX3_remove 14 = .ok (.if_icmp .lt 5, 3) := by decide +kernel
theorem dX3_remove_17 : decode cX3_remove 17 = .ok (.iconst 0, 1) := by decide +kernel
theorem dX3_remove_18 : decode cX3_remove 18 = .ok (.ireturn, 1) := by decide +kernel
theorem dX3_remove_19 : decode cX3_remove 19 = .ok (.aload_n 0, 1) := by decide +kernel
theorem dX3_remove_20 : decode cX3_remove 20 = .ok (.dup, 1) := by decide +kernel
theorem dX3_remove_21 : decode cX3_remove 21 = .ok (.getfield 39, 3) := by decide +kernel
theorem dX3_remove_24 : decode cX3_remove 24 = .ok (.iconst 1, 1) := by decide +kernel
theorem dX3_remove_25 : decode cX3_remove 25 = .ok (.isub, 1) := by decide +kernel
theorem dX3_remove_26 : decode cX3_remove 26 = .ok (.putfield 39, 3) := by decide +kernel
theorem dX3_remove_29 : decode cX3_remove 29 = .ok (.iload_n 1, 1) := by decide +kernel
theorem dX3_remove_30 : decode cX3_remove 30 = .ok (.istore_n 2, 1) := by decide +kernel
theorem dX3_remove_31 : decode cX3_remove 31 = .ok (.iload_n 2, 1) := by decide +kernel
theorem dX3_remove_32 : decode cX3_remove 32 = .ok (.aload_n 0, 1) := by decide +kernel
theorem dX3_remove_33 : decode cX3_remove 33 = .ok (.getfield 39, 3) := by decide +kernel
theorem dX3_remove_36 : decode cX3_remove 36 = .ok (.if_icmp .ge 51, 3) := by decide +kernel
theorem dX3_remove_39 : decode cX3_remove 39 = .ok (.aload_n 0, 1) := by decide +kernel
theorem dX3_remove_40 : decode cX3_remove 40 = .ok (.getfield 7, 3) := by decide +kernel
theorem dX3_remove_43 : decode cX3_remove 43 = .ok (.iload_n 2, 1) := by decide +kernel
theorem dX3_remove_44 : decode cX3_remove 44 = .ok (.aload_n 0, 1) := by decide +kernel
theorem dX3_remove_45 : decode cX3_remove 45 = .ok (.getfield 7, 3) := by decide +kernel
theorem dX3_remove_48 : decode cX3_remove 48 = .ok (.iload_n 2, 1) := by decide +kernel
theorem dX3_remove_49 : decode cX3_remove 49 = .ok (.iconst 1, 1) := by decide +kernel
theorem dX3_remove_50 : decode cX3_remove 50 = .ok (.iadd, 1) := by decide +kernel
theorem dX3_remove_51 : decode cX3_remove 51 = .ok (.iaload, 1) := by decide +kernel
theorem dX3_remove_52 : decode cX3_remove 52 = .ok (.iastore, 1) := by decide +kernel
theorem dX3_remove_53 : decode cX3_remove 53 = .ok (.aload_n 0, 1) := by decide +kernel
theorem dX3_remove_54 : decode cX3_remove 54 = .ok (.getfield 13, 3) := by decide +kernel
theorem dX3_remove_57 : decode cX3_remove 57 = .ok (.iload_n 2, 1) := by decide +kernel
theorem dX3_remove_58 : decode cX3_remove 58 = .ok (.aload_n 0, 1) := by decide +kernel
theorem dX3_remove_59 : decode cX3_remove 59 = .ok (.getfield 13, 3) := by decide +kernel
theorem dX3_remove_62 : decode cX3_remove 62 = .ok (.iload_n 2, 1) := by decide +kernel
theorem dX3_remove_63 : decode cX3_remove 63 = .ok (.iconst 1, 1) := by decide +kernel
theorem dX3_remove_64 : decode cX3_remove 64 = .ok (.iadd, 1) := by decide +kernel
theorem dX3_remove_65 : decode cX3_remove 65 = .ok (.iaload, 1) := by decide +kernel
theorem dX3_remove_66 : decode cX3_remove 66 = .ok (.iastore, 1) := by decide +kernel
theorem dX3_remove_67 : decode cX3_remove 67 = .ok (.aload_n 0, 1) := by decide +kernel
theorem dX3_remove_68 : decode cX3_remove 68 = .ok (.getfield 16, 3) := by decide +kernel
theorem dX3_remove_71 : decode cX3_remove 71 = .ok (.iload_n 2, 1) := by decide +kernel
theorem dX3_remove_72 : decode cX3_remove 72 = .ok (.aload_n 0, 1) := by decide +kernel
theorem dX3_remove_73 : decode cX3_remove 73 = .ok (.getfield 16, 3) := by decide +kernel
theorem dX3_remove_76 : decode cX3_remove 76 = .ok (.iload_n 2, 1) := by decide +kernel
theorem dX3_remove_77 : decode cX3_remove 77 = .ok (.iconst 1, 1) := by decide +kernel
theorem dX3_remove_78 : decode cX3_remove 78 = .ok (.iadd, 1) := by decide +kernel
theorem dX3_remove_79 : decode cX3_remove 79 = .ok (.iaload, 1) := by decide +kernel
theorem dX3_remove_80 : decode cX3_remove 80 = .ok (.iastore, 1) := by decide +kernel
theorem dX3_remove_81 : decode cX3_remove 81 = .ok (.iinc 2 1, 3) := by decide +kernel
theorem dX3_remove_84 : decode cX3_remove 84 = .ok (.goto (-53), 3) := by decide +kernel
theorem dX3_remove_87 : decode cX3_remove 87 = .ok (.iconst 1, 1) := by decide +kernel
theorem dX3_remove_88 : decode cX3_remove 88 = .ok (.ireturn, 1) := by decide +kernel
theorem dX3_lines_0 : decode cX3_lines 0 = .ok (.aload_n 0, 1) := by decide +kernel
theorem dX3_lines_1 : decode cX3_lines 1 = .ok (.iconst 0, 1) := by decide +kernel
theorem dX3_lines_2 : decode cX3_lines 2 = .ok (.putfield 31, 3) := by decide +kernel
theorem dX3_lines_5 : decode cX3_lines 5 = .ok (.aload_n 0, 1) := by decide +kernel
theorem dX3_lines_6 : decode cX3_lines 6 = .ok (.getfield 39, 3) := by decide +kernel
theorem dX3_lines_9 : decode cX3_lines 9 = .ok (.ireturn, 1) := by decide +kernel
theorem dX3_assemble_0 : decode cX3_assemble 0 = .ok (.aload_n 0, 1) := by decide +kernel
theorem dX3_assemble_1 : decode cX3_assemble 1 = .ok (.aload_n 0, 1) := by decide +kernel
theorem dX3_assemble_2 : decode cX3_assemble 2 = .ok (.invokevirtual 58, 3) := by decide +kernel
theorem dX3_assemble_5 : decode cX3_assemble 5 = .ok (.putfield 31, 3) := by decide +kernel
theorem dX3_assemble_8 : decode cX3_assemble 8 = .ok (.aload_n 0, 1) := by decide +kernel
theorem dX3_assemble_9 : decode cX3_assemble 9 = .ok (.getfield 31, 3) := by decide +kernel
theorem dX3_assemble_12 : decode cX3_assemble 12 = .ok (.ifCond .le 5, 3) := by decide +kernel
theorem dX3_assemble_15 : decode cX3_assemble 15 = .ok (.iconst 0, 1) := by decide +kernel
theorem dX3_assemble_16 : decode cX3_assemble 16 = .ok (.ireturn, 1) := by decide +kernel
theorem dX3_assemble_17 : decode cX3_assemble 17 = .ok (.aload_n 0, 1) := by decide +kernel
theorem dX3_assemble_18 : decode cX3_assemble 18 = .ok (.aload_n 0, 1) := by decide +kernel
theorem dX3_assemble_19 : decode cX3_assemble 19 = .ok (.getfield 39, 3) := by decide +kernel
theorem dX3_assemble_22 : decode cX3_assemble 22 = .ok (.putfield 49, 3) := by decide +kernel
theorem dX3_assemble_25 : decode cX3_assemble 25 = .ok (.iconst 0, 1) := by decide +kernel
theorem dX3_assemble_26 : decode cX3_assemble 26 = .ok (.istore_n 1, 1) := by decide +kernel
theorem dX3_assemble_27 : decode cX3_assemble 27 = .ok (.iload_n 1, 1) := by decide +kernel
theorem dX3_assemble_28 : decode cX3_assemble 28 = .ok (.aload_n 0, 1) := by decide +kernel
theorem dX3_assemble_29 : decode cX3_assemble 29 = .ok (.getfield 39, 3) := by decide +kernel
theorem dX3_assemble_32 : decode cX3_assemble 32 = .ok (.if_icmp .ge 84, 3) := by decide +kernel
theorem dX3_assemble_35 : decode cX3_assemble 35 = .ok (.aload_n 0, 1) := by decide +kernel
theorem dX3_assemble_36 : decode cX3_assemble 36 = .ok (.getfield 19, 3) := by decide +kernel
theorem dX3_assemble_39 : decode cX3_assemble 39 = .ok (.iload_n 1, 1) := by decide +kernel
theorem dX3_assemble_40 : decode cX3_assemble 40 = .ok (.aload_n 0, 1) := by decide +kernel
theorem dX3_assemble_41 : decode cX3_assemble 41 = .ok (.getfield 7, 3) := by decide +kernel
theorem dX3_assemble_44 : decode cX3_assemble 44 = .ok (.iload_n 1, 1) := by decide +kernel
theorem dX3_assemble_45 : decode cX3_assemble 45 = .ok (.iaload, 1) := by decide +kernel
theorem dX3_assemble_46 : decode cX3_assemble 46 = .ok (.iastore, 1) := by decide +kernel
theorem dX3_assemble_47 : decode cX3_assemble 47 = .ok (.aload_n 0, 1) := by decide +kernel
theorem dX3_assemble_48 : decode cX3_assemble 48 = .ok (.getfield 22, 3) := by decide +kernel
theorem dX3_assemble_51 : decode cX3_assemble 51 = .ok (.iload_n 1, 1) := by decide +kernel
theorem dX3_assemble_52 : decode cX3_assemble 52 = .ok (.aload_n 0, 1) := by decide +kernel
theorem dX3_assemble_53 : decode cX3_assemble 53 = .ok (.getfield 13, 3) := by decide +kernel
theorem dX3_assemble_56 : decode cX3_assemble 56 = .ok (.iload_n 1, 1) := by decide +kernel
theorem dX3_assemble_57 : decode cX3_assemble 57 = .ok (.iaload, 1) := by decide +kernel
theorem dX3_assemble_58 : decode cX3_assemble 58 = .ok (.iastore, 1) := by decide +kernel
theorem dX3_assemble_59 : decode cX3_assemble 59 = .ok (.aload_n 0, 1) := by decide +kernel
theorem dX3_assemble_60 : decode cX3_assemble 60 = .ok (.getfield 25, 3) := by decide +kernel
theorem dX3_assemble_63 : decode cX3_assemble 63 = .ok (.iload_n 1, 1) := by decide +kernel
theorem dX3_assemble_64 : decode cX3_assemble 64 = .ok (.aload_n 0, 1) := by decide +kernel
theorem dX3_assemble_65 : decode cX3_assemble 65 = .ok (.getfield 16, 3) := by decide +kernel
theorem dX3_assemble_68 : decode cX3_assemble 68 = .ok (.iload_n 1, 1) := by decide +kernel
theorem dX3_assemble_69 : decode cX3_assemble 69 = .ok (.iaload, 1) := by decide +kernel
theorem dX3_assemble_70 : decode cX3_assemble 70 = .ok (.iastore, 1) := by decide +kernel
theorem dX3_assemble_71 : decode cX3_assemble 71 = .ok (.aload_n 0, 1) := by decide +kernel
theorem dX3_assemble_72 : decode cX3_assemble 72 = .ok (.getfield 28, 3) := by decide +kernel
theorem dX3_assemble_75 : decode cX3_assemble 75 = .ok (.iload_n 1, 1) := by decide +kernel
theorem dX3_assemble_76 : decode cX3_assemble 76 = .ok (.aload_n 0, 1) := by decide +kernel
theorem dX3_assemble_77 : decode cX3_assemble 77 = .ok (.getfield 7, 3) := by decide +kernel
theorem dX3_assemble_80 : decode cX3_assemble 80 = .ok (.iload_n 1, 1) := by decide +kernel
theorem dX3_assemble_81 : decode cX3_assemble 81 = .ok (.iaload, 1) := by decide +kernel
theorem dX3_assemble_82 : decode cX3_assemble 82 = .ok (.ifCond .ne 7, 3) := by decide +kernel
theorem dX3_assemble_85 : decode cX3_assemble 85 = .ok (.iconst 0, 1) := by decide +kernel
theorem dX3_assemble_86 : decode cX3_assemble 86 = .ok (.goto 23, 3) := by decide +kernel
theorem dX3_assemble_89 : decode cX3_assemble 89 = .ok (.aload_n 0, 1) := by decide +kernel
theorem dX3_assemble_90 : decode cX3_assemble 90 = .ok (.getfield 7, 3) := by decide +kernel
theorem dX3_assemble_93 : decode cX3_assemble 93 = .ok (.iload_n 1, 1) := by decide +kernel
theorem dX3_assemble_94 : decode cX3_assemble 94 = .ok (.iaload, 1) := by decide +kernel
theorem dX3_assemble_95 : decode cX3_assemble 95 = .ok (.iconst 1, 1) := by decide +kernel
theorem dX3_assemble_96 : decode cX3_assemble 96 = .ok (.if_icmp .ne 12, 3) := by decide +kernel
theorem dX3_assemble_99 : decode cX3_assemble 99 = .ok (.aload_n 0, 1) := by decide +kernel
theorem dX3_assemble_100 : decode cX3_assemble 100 = .ok (.getfield 13, 3) := by decide +kernel
theorem dX3_assemble_103 : decode cX3_assemble 103 = .ok (.iload_n 1, 1) := by decide +kernel
theorem dX3_assemble_104 : decode cX3_assemble 104 = .ok (.iaload, 1) := by decide +kernel
theorem dX3_assemble_105 : decode cX3_assemble 105 = .ok (.goto 4, 3) := by decide +kernel
theorem dX3_assemble_108 : decode cX3_assemble 108 = .ok (.iconst 2, 1) := by decide +kernel
theorem dX3_assemble_109 : decode cX3_assemble 109 = .ok (.iastore, 1) := by decide +kernel
theorem dX3_assemble_110 : decode cX3_assemble 110 = .ok (.iinc 1 1, 3) := by decide +kernel
theorem dX3_assemble_113 : decode cX3_assemble 113 = .ok (.goto (-86), 3) := by decide +kernel
theorem dX3_assemble_116 : decode cX3_assemble 116 = .ok (.iconst 1, 1) := by decide +kernel
theorem dX3_assemble_117 : decode cX3_assemble 117 = .ok (.istore_n 1, 1) := by decide +kernel
theorem dX3_assemble_118 : decode cX3_assemble 118 = .ok (.iconst 0, 1) := by decide +kernel
theorem dX3_assemble_119 : decode cX3_assemble 119 = .ok (.istore_n 2, 1) := by decide +kernel
theorem dX3_assemble_120 : decode cX3_assemble 120 = .ok (.iload_n 2, 1) := by decide +kernel
theorem dX3_assemble_121 : decode cX3_assemble 121 = .ok (.bipush 51, 2) := by decide +kernel
theorem dX3_assemble_123 : decode cX3_assemble 123 = .ok (.if_icmp .ge 88, 3) := by decide +kernel
theorem dX3_assemble_126 : decode cX3_assemble 126 = .ok (.iload_n 1, 1) := by decide +kernel
theorem dX3_assemble_127 : decode cX3_assemble 127 = .ok (.ifCond .eq 84, 3) := by decide +kernel
theorem dX3_assemble_130 : decode cX3_assemble 130 = .ok (.iconst 0, 1) := by decide +kernel
theorem dX3_assemble_131 : decode cX3_assemble 131 = .ok (.istore_n 1, 1) := by decide +kernel
theorem dX3_assemble_132 : decode cX3_assemble 132 = .ok (.iconst 0, 1) := by decide +kernel
theorem dX3_assemble_133 : decode cX3_assemble 133 = .ok (.istore_n 3, 1) := by decide +kernel
theorem dX3_assemble_134 : decode cX3_assemble 134 = .ok (.iload_n 3, 1) := by decide +kernel
theorem dX3_assemble_135 : decode cX3_assemble 135 = .ok (.aload_n 0, 1) := by decide +kernel
theorem dX3_assemble_136 : decode cX3_assemble 136 = .ok (.getfield 49, 3) := by decide +kernel
theorem dX3_assemble_139 : decode cX3_assemble 139 = .ok (.if_icmp .ge 66, 3) := by decide +kernel
theorem dX3_assemble_142 : decode cX3_assemble 142 = .ok (.aload_n 0, 1) := by decide +kernel
theorem dX3_assemble_143 : decode cX3_assemble 143 = .ok (.getfield 19, 3) := by decide +kernel
theorem dX3_assemble_146 : decode cX3_assemble 146 = .ok (.iload_n 3, 1) := by decide +kernel
theorem dX3_assemble_147 : decode cX3_assemble 147 = .ok (.iaload, 1) := by decide +kernel
theorem dX3_assemble_148 : decode cX3_assemble 148 = .ok (.iconst 3, 1) := by decide +kernel
theorem dX3_assemble_149 : decode cX3_assemble 149 = .ok (.if_icmp .ne 50, 3) := by decide +kernel
theorem dX3_assemble_152 : decode cX3_assemble 152 = .ok (.aload_n 0, 1) := by decide +kernel
theorem dX3_assemble_153 : decode cX3_assemble 153 = .ok (.getfield 28, 3) := by decide +kernel
theorem dX3_assemble_156 : decode cX3_assemble 156 = .ok (.iload_n 3, 1) := by decide +kernel
theorem dX3_assemble_157 : decode cX3_assemble 157 = .ok (.iaload, 1) := by decide +kernel
theorem dX3_assemble_158 : decode cX3_assemble 158 = .ok (.iconst 2, 1) := by decide +kernel
theorem dX3_assemble_159 : decode cX3_assemble 159 = .ok (.if_icmp .ne 40, 3) := by decide +kernel
theorem dX3_assemble_162 : decode cX3_assemble 162 = .ok (.aload_n 0, 1) := by decide +kernel
theorem dX3_assemble_163 : decode cX3_assemble 163 = .ok (.iload_n 3, 1) := by decide +kernel
theorem dX3_assemble_164 : decode cX3_assemble 164 = .ok (.invokevirtual 62, 3) := by decide +kernel
theorem dX3_assemble_167 : decode cX3_assemble 167 = .ok (.bipush (-128), 2) := by decide +kernel
theorem dX3_assemble_169 : decode cX3_assemble 169 = .ok (.bipush 127, 2) := by decide +kernel
theorem dX3_assemble_171 : decode cX3_assemble 171 = .ok (.invokestatic 35, 3) := by decide +kernel
theorem dX3_assemble_174 : decode cX3_assemble 174 = .ok (.ifCond .ne 25, 3) := by decide +kernel
theorem dX3_assemble_177 : decode cX3_assemble 177 = .ok (.aload_n 0, 1) := by decide +kernel
theorem dX3_assemble_178 : decode cX3_assemble 178 = .ok (.getfield 28, 3) := by decide +kernel
theorem dX3_assemble_181 : decode cX3_assemble 181 = .ok (.iload_n 3, 1) := by decide +kernel
theorem dX3_assemble_182 : decode cX3_assemble 182 = .ok (.aload_n 0, 1) := by decide +kernel
theorem dX3_assemble_183 : decode cX3_assemble 183 = .ok (.getfield 25, 3) := by decide +kernel
theorem dX3_assemble_186 : decode cX3_assemble 186 = .ok (.iload_n 3, 1) := by decide +kernel
theorem dX3_assemble_187 : decode cX3_assemble 187 = .ok (.iaload, 1) := by decide +kernel
theorem dX3_assemble_188 : decode cX3_assemble 188 = .ok (.ifCond .ne 7, 3) := by decide +kernel
theorem dX3_assemble_191 : decode cX3_assemble 191 = .ok (.iconst 3, 1) := by decide +kernel
theorem dX3_assemble_192 : decode cX3_assemble 192 = .ok (.goto 4, 3) := by decide +kernel
theorem dX3_assemble_195 : decode cX3_assemble 195 = .ok (.iconst 5, 1) := by decide +kernel
theorem dX3_assemble_196 : decode cX3_assemble 196 = .ok (.iastore, 1) := by decide +kernel
theorem dX3_assemble_197 : decode cX3_assemble 197 = .ok (.iconst 1, 1) := by decide +kernel
theorem dX3_assemble_198 : decode cX3_assemble 198 = .ok (.istore_n 1, 1) := by decide +kernel
theorem dX3_assemble_199 : decode cX3_assemble 199 = .ok (.iinc 3 1, 3) := by decide +kernel
theorem dX3_assemble_202 : decode cX3_assemble 202 = .ok (.goto (-68), 3) := by decide +kernel
theorem dX3_assemble_205 : decode cX3_assemble 205 = .ok (.iinc 2 1, 3) := by decide +kernel
theorem dX3_assemble_208 : decode cX3_assemble 208 = .ok (.goto (-88), 3) := by decide +kernel
theorem dX3_assemble_211 : decode cX3_assemble 211 = .ok (.aload_n 0, 1) := by decide +kernel
theorem dX3_assemble_212 : decode cX3_assemble 212 = .ok (.aload_n 0, 1) := by decide +kernel
theorem dX3_assemble_213 : decode cX3_assemble 213 = .ok (.aload_n 0, 1) := by decide +kernel
theorem dX3_assemble_214 : decode cX3_assemble 214 = .ok (.getfield 49, 3) := by decide +kernel
theorem dX3_assemble_217 : decode cX3_assemble 217 = .ok (.invokevirtual 52, 3) := by decide +kernel
theorem dX3_assemble_220 : decode cX3_assemble 220 = .ok (.putfield 65, 3) := by decide +kernel
theorem dX3_assemble_223 : decode cX3_assemble 223 = .ok (.aload_n 0, 1) := by decide +kernel
theorem dX3_assemble_224 : decode cX3_assemble 224 = .ok (.getfield 65, 3) := by decide +kernel
theorem dX3_assemble_227 : decode cX3_assemble 227 = .ok (.ireturn, 1) := by decide +kernel
theorem dX3_wrong_0 : decode cX3_wrong 0 = .ok (.iconst 0, 1) := by decide +kernel
theorem dX3_wrong_1 : decode cX3_wrong 1 = .ok (.istore_n 1, 1) := by decide +kernel
theorem dX3_wrong_2 : decode cX3_wrong 2 = .ok (.iconst 0, 1) := by decide +kernel
theorem dX3_wrong_3 : decode cX3_wrong 3 = .ok (.istore_n 2, 1) := by decide +kernel
theorem dX3_wrong_4 : decode cX3_wrong 4 = .ok (.iload_n 2, 1) := by decide +kernel
theorem dX3_wrong_5 : decode cX3_wrong 5 = .ok (.aload_n 0, 1) := by decide +kernel
theorem dX3_wrong_6 : decode cX3_wrong 6 = .ok (.getfield 39, 3) := by decide +kernel
theorem dX3_wrong_9 : decode cX3_wrong 9 = .ok (.if_icmp .ge 38, 3) := by decide +kernel
theorem dX3_wrong_12 : decode cX3_wrong 12 = .ok (.aload_n 0, 1) := by decide +kernel
theorem dX3_wrong_13 : decode cX3_wrong 13 = .ok (.getfield 7, 3) := by decide +kernel
theorem dX3_wrong_16 : decode cX3_wrong 16 = .ok (.iload_n 2, 1) := by decide +kernel
theorem dX3_wrong_17 : decode cX3_wrong 17 = .ok (.iaload, 1) := by decide +kernel
theorem dX3_wrong_18 : decode cX3_wrong 18 = .ok (.iconst 1, 1) := by decide +kernel
theorem dX3_wrong_19 : decode cX3_wrong 19 = .ok (.if_icmp .le 20, 3) := by decide +kernel
theorem dX3_wrong_22 : decode cX3_wrong 22 = .ok (.aload_n 0, 1) := by decide +kernel
theorem dX3_wrong_23 : decode cX3_wrong 23 = .ok (.aload_n 0, 1) := by decide +kernel
theorem dX3_wrong_24 : decode cX3_wrong 24 = .ok (.getfield 13, 3) := by decide +kernel
theorem dX3_wrong_27 : decode cX3_wrong 27 = .ok (.iload_n 2, 1) := by decide +kernel
theorem dX3_wrong_28 : decode cX3_wrong 28 = .ok (.iaload, 1) := by decide +kernel
theorem dX3_wrong_29 : decode cX3_wrong 29 = .ok (.invokevirtual 45, 3) := by decide +kernel
theorem dX3_wrong_32 : decode cX3_wrong 32 = .ok (.ifCond .ne 7, 3) := by decide +kernel
theorem dX3_wrong_35 : decode cX3_wrong 35 = .ok (.iconst 2, 1) := by decide +kernel
theorem dX3_wrong_36 : decode cX3_wrong 36 = .ok (.goto 4, 3) := by decide +kernel
theorem dX3_wrong_39 : decode cX3_wrong 39 = .ok (.iload_n 1, 1) := by decide +kernel
theorem dX3_wrong_40 : decode cX3_wrong 40 = .ok (.istore_n 1, 1) := by decide +kernel
theorem dX3_wrong_41 : decode cX3_wrong 41 = .ok (.iinc 2 1, 3) := by decide +kernel
theorem dX3_wrong_44 : decode cX3_wrong 44 = .ok (.goto (-40), 3) := by decide +kernel
theorem dX3_wrong_47 : decode cX3_wrong 47 = .ok (.iconst 0, 1) := by decide +kernel
theorem dX3_wrong_48 : decode cX3_wrong 48 = .ok (.istore_n 2, 1) := by decide +kernel
theorem dX3_wrong_49 : decode cX3_wrong 49 = .ok (.iload_n 2, 1) := by decide +kernel
theorem dX3_wrong_50 : decode cX3_wrong 50 = .ok (.bipush 16, 2) := by decide +kernel
theorem dX3_wrong_52 : decode cX3_wrong 52 = .ok (.if_icmp .ge 24, 3) := by decide +kernel
theorem dX3_wrong_55 : decode cX3_wrong 55 = .ok (.aload_n 0, 1) := by decide +kernel
theorem dX3_wrong_56 : decode cX3_wrong 56 = .ok (.iload_n 2, 1) := by decide +kernel
theorem dX3_wrong_57 : decode cX3_wrong 57 = .ok (.invokevirtual 45, 3) := by decide +kernel
theorem dX3_wrong_60 : decode cX3_wrong 60 = .ok (.iconst 1, 1) := by decide +kernel
theorem dX3_wrong_61 : decode cX3_wrong 61 = .ok (.if_icmp .le 7, 3) := by decide +kernel
theorem dX3_wrong_64 : decode cX3_wrong 64 = .ok (.iconst 1, 1) := by decide +kernel
theorem dX3_wrong_65 : decode cX3_wrong 65 = .ok (.goto 4, 3) := by decide +kernel
theorem dX3_wrong_68 : decode cX3_wrong 68 = .ok (.iload_n 1, 1) := by decide +kernel
theorem dX3_wrong_69 : decode cX3_wrong 69 = .ok (.istore_n 1, 1) := by decide +kernel
theorem dX3_wrong_70 : decode cX3_wrong 70 = .ok (.iinc 2 1, 3) := by decide +kernel
theorem dX3_wrong_73 : decode cX3_wrong 73 = .ok (.goto (-24), 3) := by decide +kernel
theorem dX3_wrong_76 : decode cX3_wrong 76 = .ok (.iload_n 1, 1) := by decide +kernel
theorem dX3_wrong_77 : decode cX3_wrong 77 = .ok (.ireturn, 1) := by decide +kernel
theorem dX3_definitions_0 : decode cX3_definitions 0 = .ok (.iconst 0, 1) := by decide +kernel
theorem dX3_definitions_1 : decode cX3_definitions 1 = .ok (.istore_n 2, 1) := by decide +kernel
theorem dX3_definitions_2 : decode cX3_definitions 2 = .ok (.iconst 0, 1) := by decide +kernel
theorem dX3_definitions_3 : decode cX3_definitions 3 = .ok (.istore_n 3, 1) := by decide +kernel
theorem dX3_definitions_4 : decode cX3_definitions 4 = .ok (.iload_n 3, 1) := by decide +kernel
theorem dX3_definitions_5 : decode cX3_definitions 5 = .ok (.aload_n 0, 1) := by decide +kernel
theorem dX3_definitions_6 : decode cX3_definitions 6 = .ok (.getfield 39, 3) := by decide +kernel
theorem dX3_definitions_9 : decode cX3_definitions 9 = .ok (.if_icmp .ge 36, 3) := by decide +kernel
theorem dX3_definitions_12 : decode cX3_definitions 12 = .ok (.aload_n 0, 1) := by decide +kernel
theorem dX3_definitions_13 : decode cX3_definitions 13 = .ok (.getfield 7, 3) := by decide +kernel
theorem dX3_definitions_16 : decode cX3_definitions 16 = .ok (.iload_n 3, 1) := by decide +kernel
theorem dX3_definitions_17 : decode cX3_definitions 17 = .ok (.iaload, 1) := by decide +kernel
theorem dX3_definitions_18 : decode cX3_definitions 18 = .ok (.ifCond .ne 19, 3) := by decide +kernel
theorem dX3_definitions_21 : decode cX3_definitions 21 = .ok (.aload_n 0, 1) := by decide +kernel
theorem dX3_definitions_22 : decode cX3_definitions 22 = .ok (.getfield 13, 3) := by decide +kernel
theorem dX3_definitions_25 : decode cX3_definitions 25 = .ok (.iload_n 3, 1) := by decide +kernel
theorem dX3_definitions_26 : decode cX3_definitions 26 = .ok (.iaload, 1) := by decide +kernel
theorem dX3_definitions_27 : decode cX3_definitions 27 = .ok (.iload_n 1, 1) := by decide +kernel
theorem dX3_definitions_28 : decode cX3_definitions 28 = .ok (.if_icmp .ne 9, 3) := by decide +kernel
theorem dX3_definitions_31 : decode cX3_definitions 31 = .ok (.iload_n 2, 1) := by decide +kernel
theorem dX3_definitions_32 : decode cX3_definitions 32 = .ok (.iconst 1, 1) := by decide +kernel
theorem dX3_definitions_33 : decode cX3_definitions 33 = .ok (.iadd, 1) := by decide +kernel
theorem dX3_definitions_34 : decode cX3_definitions 34 = .ok (.goto 4, 3) := by decide +kernel
theorem dX3_definitions_37 : decode cX3_definitions 37 = .ok (.iload_n 2, 1) := by decide +kernel
theorem dX3_definitions_38 : decode cX3_definitions 38 = .ok (.istore_n 2, 1) := by decide +kernel
theorem dX3_definitions_39 : decode cX3_definitions 39 = .ok (.iinc 3 1, 3) := by decide +kernel
theorem dX3_definitions_42 : decode cX3_definitions 42 = .ok (.goto (-38), 3) := by decide +kernel
theorem dX3_definitions_45 : decode cX3_definitions 45 = .ok (.iload_n 2, 1) := by decide +kernel
theorem dX3_definitions_46 : decode cX3_definitions 46 = .ok (.ireturn, 1) := by decide +kernel
theorem dX3_span_0 : decode cX3_span 0 = .ok (.aload_n 0, 1) := by decide +kernel
theorem dX3_span_1 : decode cX3_span 1 = .ok (.aload_n 0, 1) := by decide +kernel
theorem dX3_span_2 : decode cX3_span 2 = .ok (.getfield 22, 3) := by decide +kernel
theorem dX3_span_5 : decode cX3_span 5 = .ok (.iload_n 1, 1) := by decide +kernel
theorem dX3_span_6 : decode cX3_span 6 = .ok (.iaload, 1) := by decide +kernel
theorem dX3_span_7 : decode cX3_span 7 = .ok (.invokevirtual 55, 3) := by decide +kernel
theorem dX3_span_10 : decode cX3_span 10 = .ok (.aload_n 0, 1) := by decide +kernel
theorem dX3_span_11 : decode cX3_span 11 = .ok (.iload_n 1, 1) := by decide +kernel
theorem dX3_span_12 : decode cX3_span 12 = .ok (.iconst 1, 1) := by decide +kernel
theorem dX3_span_13 : decode cX3_span 13 = .ok (.iadd, 1) := by decide +kernel
theorem dX3_span_14 : decode cX3_span 14 = .ok (.invokevirtual 52, 3) := by decide +kernel
theorem dX3_span_17 : decode cX3_span 17 = .ok (.isub, 1) := by decide +kernel
theorem dX3_span_18 : decode cX3_span 18 = .ok (.ireturn, 1) := by decide +kernel
theorem dX3_labelled_0 : decode cX3_labelled 0 = .ok (.iconst 0, 1) := by decide +kernel
theorem dX3_labelled_1 : decode cX3_labelled 1 = .ok (.istore_n 2, 1) := by decide +kernel
theorem dX3_labelled_2 : decode cX3_labelled 2 = .ok (.iload_n 2, 1) := by decide +kernel
theorem dX3_labelled_3 : decode cX3_labelled 3 = .ok (.aload_n 0, 1) := by decide +kernel
theorem dX3_labelled_4 : decode cX3_labelled 4 = .ok (.getfield 49, 3) := by decide +kernel
theorem dX3_labelled_7 : decode cX3_labelled 7 = .ok (.if_icmp .ge 34, 3) := by decide +kernel
theorem dX3_labelled_10 : decode cX3_labelled 10 = .ok (.aload_n 0, 1) := by decide +kernel
theorem dX3_labelled_11 : decode cX3_labelled 11 = .ok (.getfield 19, 3) := by decide +kernel
theorem dX3_labelled_14 : decode cX3_labelled 14 = .ok (.iload_n 2, 1) := by decide +kernel
theorem dX3_labelled_15 : decode cX3_labelled 15 = .ok (.iaload, 1) := by decide +kernel
theorem dX3_labelled_16 : decode cX3_labelled 16 = .ok (.ifCond .ne 19, 3) := by decide +kernel
theorem dX3_labelled_19 : decode cX3_labelled 19 = .ok (.aload_n 0, 1) := by decide +kernel
theorem dX3_labelled_20 : decode cX3_labelled 20 = .ok (.getfield 22, 3) := by decide +kernel
theorem dX3_labelled_23 : decode cX3_labelled 23 = .ok (.iload_n 2, 1) := by decide +kernel
theorem dX3_labelled_24 : decode cX3_labelled 24 = .ok (.iaload, 1) := by decide +kernel
theorem dX3_labelled_25 : decode cX3_labelled 25 = .ok (.iload_n 1, 1) := by decide +kernel
theorem dX3_labelled_26 : decode cX3_labelled 26 = .ok (.if_icmp .ne 9, 3) := by decide +kernel
theorem dX3_labelled_29 : decode cX3_labelled 29 = .ok (.aload_n 0, 1) := by decide +kernel
theorem dX3_labelled_30 : decode cX3_labelled 30 = .ok (.iload_n 2, 1) := by decide +kernel
theorem dX3_labelled_31 : decode cX3_labelled 31 = .ok (.invokevirtual 52, 3) := by decide +kernel
theorem dX3_labelled_34 : decode cX3_labelled 34 = .ok (.ireturn, 1) := by decide +kernel
theorem dX3_labelled_35 : decode cX3_labelled 35 = .ok (.iinc 2 1, 3) := by decide +kernel
theorem dX3_labelled_38 : decode cX3_labelled 38 = .ok (.goto (-36), 3) := by decide +kernel
theorem dX3_labelled_41 : decode cX3_labelled 41 = .ok (.iconst (-1), 1) := by decide +kernel
theorem dX3_labelled_42 : decode cX3_labelled 42 = .ok (.ireturn, 1) := by decide +kernel
theorem dX3_place_0 : decode cX3_place 0 = .ok (.iconst 0, 1) := by decide +kernel
theorem dX3_place_1 : decode cX3_place 1 = .ok (.istore_n 2, 1) := by decide +kernel
theorem dX3_place_2 : decode cX3_place 2 = .ok (.iconst 0, 1) := by decide +kernel
theorem dX3_place_3 : decode cX3_place 3 = .ok (.istore_n 3, 1) := by decide +kernel
theorem dX3_place_4 : decode cX3_place 4 = .ok (.iload_n 3, 1) := by decide +kernel
theorem dX3_place_5 : decode cX3_place 5 = .ok (.iload_n 1, 1) := by decide +kernel
theorem dX3_place_6 : decode cX3_place 6 = .ok (.if_icmp .ge 18, 3) := by decide +kernel
theorem dX3_place_9 : decode cX3_place 9 = .ok (.iload_n 2, 1) := by decide +kernel
theorem dX3_place_10 : decode cX3_place 10 = .ok (.aload_n 0, 1) := by decide +kernel
theorem dX3_place_11 : decode cX3_place 11 = .ok (.getfield 28, 3) := by decide +kernel
theorem dX3_place_14 : decode cX3_place 14 = .ok (.iload_n 3, 1) := by decide +kernel
theorem dX3_place_15 : decode cX3_place 15 = .ok (.iaload, 1) := by decide +kernel
theorem dX3_place_16 : decode cX3_place 16 = .ok (.iadd, 1) := by decide +kernel
theorem dX3_place_17 : decode cX3_place 17 = .ok (.istore_n 2, 1) := by decide +kernel
theorem dX3_place_18 : decode cX3_place 18 = .ok (.iinc 3 1, 3) := by decide +kernel
theorem dX3_place_21 : decode cX3_place 21 = .ok (.goto (-17), 3) := by decide +kernel
theorem dX3_place_24 : decode cX3_place 24 = .ok (.iload_n 2, 1) := by decide +kernel
theorem dX3_place_25 : decode cX3_place 25 = .ok (.ireturn, 1) := by decide +kernel
theorem dX3_at_0 : decode cX3_at 0 = .ok (.aload_n 0, 1) := by decide +kernel
theorem dX3_at_1 : decode cX3_at 1 = .ok (.iconst 0, 1) := by decide +kernel
theorem dX3_at_2 : decode cX3_at 2 = .ok (.putfield 31, 3) := by decide +kernel
theorem dX3_at_5 : decode cX3_at 5 = .ok (.iload_n 1, 1) := by decide +kernel
theorem dX3_at_6 : decode cX3_at 6 = .ok (.ifCond .lt 19, 3) := by decide +kernel
theorem dX3_at_9 : decode cX3_at 9 = .ok (.iload_n 1, 1) := by decide +kernel
theorem dX3_at_10 : decode cX3_at 10 = .ok (.aload_n 0, 1) := by decide +kernel
theorem dX3_at_11 : decode cX3_at 11 = .ok (.getfield 65, 3) := by decide +kernel
theorem dX3_at_14 : decode cX3_at 14 = .ok (.if_icmp .ge 11, 3) := by decide +kernel
theorem dX3_at_17 : decode cX3_at 17 = .ok (.aload_n 0, 1) := by decide +kernel
theorem dX3_at_18 : decode cX3_at 18 = .ok (.iload_n 1, 1) := by decide +kernel
theorem dX3_at_19 : decode cX3_at 19 = .ok (.invokevirtual 72, 3) := by decide +kernel
theorem dX3_at_22 : decode cX3_at 22 = .ok (.goto 4, 3) := by decide +kernel
theorem dX3_at_25 : decode cX3_at 25 = .ok (.iconst (-1), 1) := by decide +kernel
theorem dX3_at_26 : decode cX3_at 26 = .ok (.ireturn, 1) := by decide +kernel
theorem dX3_byteAt_0 : decode cX3_byteAt 0 = .ok (.iconst 0, 1) := by decide +kernel
theorem dX3_byteAt_1 : decode cX3_byteAt 1 = .ok (.istore_n 2, 1) := by decide +kernel
theorem dX3_byteAt_2 : decode cX3_byteAt 2 = .ok (.aload_n 0, 1) := by decide +kernel
theorem dX3_byteAt_3 : decode cX3_byteAt 3 = .ok (.iload_n 2, 1) := by decide +kernel
theorem dX3_byteAt_4 : decode cX3_byteAt 4 = .ok (.iconst 1, 1) := by decide +kernel
theorem dX3_byteAt_5 : decode cX3_byteAt 5 = .ok (.iadd, 1) := by decide +kernel
theorem dX3_byteAt_6 : decode cX3_byteAt 6 = .ok (.invokevirtual 52, 3) := by decide +kernel
theorem dX3_byteAt_9 : decode cX3_byteAt 9 = .ok (.iload_n 1, 1) := by decide +kernel
theorem dX3_byteAt_10 : decode cX3_byteAt 10 = .ok (.if_icmp .gt 9, 3) := by decide +kernel
theorem dX3_byteAt_13 : decode cX3_byteAt 13 = .ok (.iinc 2 1, 3) := by decide +kernel
theorem dX3_byteAt_16 : decode cX3_byteAt 16 = .ok (.goto (-14), 3) := by decide +kernel
theorem dX3_byteAt_19 : decode cX3_byteAt 19 = .ok (.iload_n 1, 1) := by decide +kernel
theorem dX3_byteAt_20 : decode cX3_byteAt 20 = .ok (.aload_n 0, 1) := by decide +kernel
theorem dX3_byteAt_21 : decode cX3_byteAt 21 = .ok (.iload_n 2, 1) := by decide +kernel
theorem dX3_byteAt_22 : decode cX3_byteAt 22 = .ok (.invokevirtual 52, 3) := by decide +kernel
theorem dX3_byteAt_25 : decode cX3_byteAt 25 = .ok (.isub, 1) := by decide +kernel
theorem dX3_byteAt_26 : decode cX3_byteAt 26 = .ok (.istore_n 3, 1) := by decide +kernel
theorem dX3_byteAt_27 : decode cX3_byteAt 27 = .ok (.aload_n 0, 1) := by decide +kernel
theorem dX3_byteAt_28 : decode cX3_byteAt 28 = .ok (.getfield 19, 3) := by decide +kernel
theorem dX3_byteAt_31 : decode cX3_byteAt 31 = .ok (.iload_n 2, 1) := by decide +kernel
theorem dX3_byteAt_32 : decode cX3_byteAt 32 = .ok (.iaload, 1) := by decide +kernel
theorem dX3_byteAt_33 : decode cX3_byteAt 33 = .ok (.iconst 1, 1) := by decide +kernel
theorem dX3_byteAt_34 : decode cX3_byteAt 34 = .ok (.if_icmp .ne 10, 3) := by decide +kernel
theorem dX3_byteAt_37 : decode cX3_byteAt 37 = .ok (.aload_n 0, 1) := by decide +kernel
theorem dX3_byteAt_38 : decode cX3_byteAt 38 = .ok (.getfield 25, 3) := by decide +kernel
theorem dX3_byteAt_41 : decode cX3_byteAt 41 = .ok (.iload_n 2, 1) := by decide +kernel
theorem dX3_byteAt_42 : decode cX3_byteAt 42 = .ok (.iaload, 1) := by decide +kernel
theorem dX3_byteAt_43 : decode cX3_byteAt 43 = .ok (.ireturn, 1) := by decide +kernel
theorem dX3_byteAt_44 : decode cX3_byteAt 44 = .ok (.aload_n 0, 1) := by decide +kernel
theorem dX3_byteAt_45 : decode cX3_byteAt 45 = .ok (.getfield 19, 3) := by decide +kernel
theorem dX3_byteAt_48 : decode cX3_byteAt 48 = .ok (.iload_n 2, 1) := by decide +kernel
theorem dX3_byteAt_49 : decode cX3_byteAt 49 = .ok (.iaload, 1) := by decide +kernel
theorem dX3_byteAt_50 : decode cX3_byteAt 50 = .ok (.iconst 2, 1) := by decide +kernel
theorem dX3_byteAt_51 : decode cX3_byteAt 51 = .ok (.if_icmp .ne 45, 3) := by decide +kernel
theorem dX3_byteAt_54 : decode cX3_byteAt 54 = .ok (.aload_n 0, 1) := by decide +kernel
theorem dX3_byteAt_55 : decode cX3_byteAt 55 = .ok (.aload_n 0, 1) := by decide +kernel
theorem dX3_byteAt_56 : decode cX3_byteAt 56 = .ok (.getfield 22, 3) := by decide +kernel
theorem dX3_byteAt_59 : decode cX3_byteAt 59 = .ok (.iload_n 2, 1) := by decide +kernel
theorem dX3_byteAt_60 : decode cX3_byteAt 60 = .ok (.iaload, 1) := by decide +kernel
theorem dX3_byteAt_61 : decode cX3_byteAt 61 = .ok (.invokevirtual 55, 3) := by decide +kernel
theorem dX3_byteAt_64 : decode cX3_byteAt 64 = .ok (.aload_n 0, 1) := by decide +kernel
theorem dX3_byteAt_65 : decode cX3_byteAt 65 = .ok (.getfield 25, 3) := by decide +kernel
theorem dX3_byteAt_68 : decode cX3_byteAt 68 = .ok (.iload_n 2, 1) := by decide +kernel
theorem dX3_byteAt_69 : decode cX3_byteAt 69 = .ok (.iaload, 1) := by decide +kernel
theorem dX3_byteAt_70 : decode cX3_byteAt 70 = .ok (.iadd, 1) := by decide +kernel
theorem dX3_byteAt_71 : decode cX3_byteAt 71 = .ok (.istore 4, 2) := by decide +kernel
theorem dX3_byteAt_73 : decode cX3_byteAt 73 = .ok (.iload_n 3, 1) := by decide +kernel
theorem dX3_byteAt_74 : decode cX3_byteAt 74 = .ok (.ifCond .ne 15, 3) := by decide +kernel
theorem dX3_byteAt_77 : decode cX3_byteAt 77 = .ok (.iload 4, 2) := by decide +kernel
theorem dX3_byteAt_79 : decode cX3_byteAt 79 = .ok (.bipush 8, 2) := by decide +kernel
theorem dX3_byteAt_81 : decode cX3_byteAt 81 = .ok (.ishr, 1) := by decide +kernel
theorem dX3_byteAt_82 : decode cX3_byteAt 82 = .ok (.sipush 255, 3) := by decide +kernel
theorem dX3_byteAt_85 : decode cX3_byteAt 85 = .ok (.iand, 1) := by decide +kernel
theorem dX3_byteAt_86 : decode cX3_byteAt 86 = .ok (.goto 9, 3) := by decide +kernel
theorem dX3_byteAt_89 : decode cX3_byteAt 89 = .ok (.iload 4, 2) := by decide +kernel
theorem dX3_byteAt_91 : decode cX3_byteAt 91 = .ok (.sipush 255, 3) := by decide +kernel
theorem dX3_byteAt_94 : decode cX3_byteAt 94 = .ok (.iand, 1) := by decide +kernel
theorem dX3_byteAt_95 : decode cX3_byteAt 95 = .ok (.ireturn, 1) := by decide +kernel
theorem dX3_byteAt_96 : decode cX3_byteAt 96 = .ok (.aload_n 0, 1) := by decide +kernel
theorem dX3_byteAt_97 : decode cX3_byteAt 97 = .ok (.iload_n 2, 1) := by decide +kernel
theorem dX3_byteAt_98 : decode cX3_byteAt 98 = .ok (.iload_n 3, 1) := by decide +kernel
theorem dX3_byteAt_99 : decode cX3_byteAt 99 = .ok (.invokevirtual 68, 3) := by decide +kernel
theorem dX3_byteAt_102 : decode cX3_byteAt 102 = .ok (.ireturn, 1) := by decide +kernel
theorem dX3_jumpByte_0 : decode cX3_jumpByte 0 = .ok (.aload_n 0, 1) := by decide +kernel
theorem dX3_jumpByte_1 : decode cX3_jumpByte 1 = .ok (.iload_n 1, 1) := by decide +kernel
theorem dX3_jumpByte_2 : decode cX3_jumpByte 2 = .ok (.invokevirtual 62, 3) := by decide +kernel
theorem dX3_jumpByte_5 : decode cX3_jumpByte 5 = .ok (.istore_n 3, 1) := by decide +kernel
theorem dX3_jumpByte_6 : decode cX3_jumpByte 6 = .ok (.aload_n 0, 1) := by decide +kernel
theorem dX3_jumpByte_7 : decode cX3_jumpByte 7 = .ok (.getfield 25, 3) := by decide +kernel
theorem dX3_jumpByte_10 : decode cX3_jumpByte 10 = .ok (.iload_n 1, 1) := by decide +kernel
theorem dX3_jumpByte_11 : decode cX3_jumpByte 11 = .ok (.iaload, 1) := by decide +kernel
theorem dX3_jumpByte_12 : decode cX3_jumpByte 12 = .ok (.istore 4, 2) := by decide +kernel
theorem dX3_jumpByte_14 : decode cX3_jumpByte 14 = .ok (.aload_n 0, 1) := by decide +kernel
theorem dX3_jumpByte_15 : decode cX3_jumpByte 15 = .ok (.getfield 28, 3) := by decide +kernel
theorem dX3_jumpByte_18 : decode cX3_jumpByte 18 = .ok (.iload_n 1, 1) := by decide +kernel
theorem dX3_jumpByte_19 : decode cX3_jumpByte 19 = .ok (.iaload, 1) := by decide +kernel
theorem dX3_jumpByte_20 : decode cX3_jumpByte 20 = .ok (.istore 5, 2) := by decide +kernel
theorem dX3_jumpByte_22 : decode cX3_jumpByte 22 = .ok (.iload 5, 2) := by decide +kernel
theorem dX3_jumpByte_24 : decode cX3_jumpByte 24 = .ok (.iconst 2, 1) := by decide +kernel
theorem dX3_jumpByte_25 : decode cX3_jumpByte 25 = .ok (.if_icmp .ne 21, 3) := by decide +kernel
theorem dX3_jumpByte_28 : decode cX3_jumpByte 28 = .ok (.iload_n 2, 1) := by decide +kernel
theorem dX3_jumpByte_29 : decode cX3_jumpByte 29 = .ok (.ifCond .ne 11, 3) := by decide +kernel
theorem dX3_jumpByte_32 : decode cX3_jumpByte 32 = .ok (.bipush 32, 2) := by decide +kernel
theorem dX3_jumpByte_34 : decode cX3_jumpByte 34 = .ok (.iload 4, 2) := by decide +kernel
theorem dX3_jumpByte_36 : decode cX3_jumpByte 36 = .ok (.iadd, 1) := by decide +kernel
theorem dX3_jumpByte_37 : decode cX3_jumpByte 37 = .ok (.goto 8, 3) := by decide +kernel
theorem dX3_jumpByte_40 : decode cX3_jumpByte 40 = .ok (.iload_n 3, 1) := by decide +kernel
theorem dX3_jumpByte_41 : decode cX3_jumpByte 41 = .ok (.sipush 255, 3) := by decide +kernel
theorem dX3_jumpByte_44 : decode cX3_jumpByte 44 = .ok (.iand, 1) := by decide +kernel
theorem dX3_jumpByte_45 : decode cX3_jumpByte 45 = .ok (.ireturn, 1) := by decide +kernel
theorem dX3_jumpByte_46 : decode cX3_jumpByte 46 = .ok (.iload 5, 2) := by decide +kernel
theorem dX3_jumpByte_48 : decode cX3_jumpByte 48 = .ok (.iconst 5, 1) := by decide +kernel
theorem dX3_jumpByte_49 : decode cX3_jumpByte 49 = .ok (.if_icmp .ne 36, 3) := by decide +kernel
theorem dX3_jumpByte_52 : decode cX3_jumpByte 52 = .ok (.iload_n 2, 1) := by decide +kernel
theorem dX3_jumpByte_53 : decode cX3_jumpByte 53 = .ok (.iconst 2, 1) := by decide +kernel
theorem dX3_jumpByte_54 : decode cX3_jumpByte 54 = .ok (.if_icmp .ge 31, 3) := by decide +kernel
theorem dX3_jumpByte_57 : decode cX3_jumpByte 57 = .ok (.iload_n 2, 1) := by decide +kernel
theorem dX3_jumpByte_58 : decode cX3_jumpByte 58 = .ok (.iconst 1, 1) := by decide +kernel
theorem dX3_jumpByte_59 : decode cX3_jumpByte 59 = .ok (.if_icmp .ne 7, 3) := by decide +kernel
theorem dX3_jumpByte_62 : decode cX3_jumpByte 62 = .ok (.iconst 3, 1) := by decide +kernel
theorem dX3_jumpByte_63 : decode cX3_jumpByte 63 = .ok (.goto 21, 3) := by decide +kernel
theorem dX3_jumpByte_66 : decode cX3_jumpByte 66 = .ok (.iload 4, 2) := by decide +kernel
theorem dX3_jumpByte_68 : decode cX3_jumpByte 68 = .ok (.iconst 4, 1) := by decide +kernel
theorem dX3_jumpByte_69 : decode cX3_jumpByte 69 = .ok (.if_icmp .ne 8, 3) := by decide +kernel
theorem dX3_jumpByte_72 : decode cX3_jumpByte 72 = .ok (.bipush 44, 2) := by decide +kernel
theorem dX3_jumpByte_74 : decode cX3_jumpByte 74 = .ok (.goto 10, 3) := by decide +kernel
theorem dX3_jumpByte_77 : decode cX3_jumpByte 77 = .ok (.bipush 32, 2) := by decide +kernel
theorem dX3_jumpByte_79 : decode cX3_jumpByte 79 = .ok (.iload 4, 2) := by decide +kernel
theorem dX3_jumpByte_81 : decode cX3_jumpByte 81 = .ok (.iconst 4, 1) := by decide +kernel
theorem dX3_jumpByte_82 : decode cX3_jumpByte 82 = .ok (.ixor, 1) := by decide +kernel
theorem dX3_jumpByte_83 : decode cX3_jumpByte 83 = .ok (.iadd, 1) := by decide +kernel
theorem dX3_jumpByte_84 : decode cX3_jumpByte 84 = .ok (.ireturn, 1) := by decide +kernel
theorem dX3_jumpByte_85 : decode cX3_jumpByte 85 = .ok (.iload 5, 2) := by decide +kernel
theorem dX3_jumpByte_87 : decode cX3_jumpByte 87 = .ok (.iload_n 2, 1) := by decide +kernel
theorem dX3_jumpByte_88 : decode cX3_jumpByte 88 = .ok (.isub, 1) := by decide +kernel
theorem dX3_jumpByte_89 : decode cX3_jumpByte 89 = .ok (.istore 6, 2) := by decide +kernel
theorem dX3_jumpByte_91 : decode cX3_jumpByte 91 = .ok (.iload 6, 2) := by decide +kernel
theorem dX3_jumpByte_93 : decode cX3_jumpByte 93 = .ok (.iconst 3, 1) := by decide +kernel
theorem dX3_jumpByte_94 : decode cX3_jumpByte 94 = .ok (.if_icmp .ne 8, 3) := by decide +kernel
theorem dX3_jumpByte_97 : decode cX3_jumpByte 97 = .ok (.bipush 64, 2) := by decide +kernel
theorem dX3_jumpByte_99 : decode cX3_jumpByte 99 = .ok (.goto 25, 3) := by decide +kernel
theorem dX3_jumpByte_102 : decode cX3_jumpByte 102 = .ok (.iload 6, 2) := by decide +kernel
theorem dX3_jumpByte_104 : decode cX3_jumpByte 104 = .ok (.iconst 2, 1) := by decide +kernel
theorem dX3_jumpByte_105 : decode cX3_jumpByte 105 = .ok (.if_icmp .ne 14, 3) := by decide +kernel
theorem dX3_jumpByte_108 : decode cX3_jumpByte 108 = .ok (.iload_n 3, 1) := by decide +kernel
theorem dX3_jumpByte_109 : decode cX3_jumpByte 109 = .ok (.bipush 8, 2) := by decide +kernel
theorem dX3_jumpByte_111 : decode cX3_jumpByte 111 = .ok (.ishr, 1) := by decide +kernel
theorem dX3_jumpByte_112 : decode cX3_jumpByte 112 = .ok (.sipush 255, 3) := by decide +kernel
theorem dX3_jumpByte_115 : decode cX3_jumpByte 115 = .ok (.iand, 1) := by decide +kernel
theorem dX3_jumpByte_116 : decode cX3_jumpByte 116 = .ok (.goto 8, 3) := by decide +kernel
theorem dX3_jumpByte_119 : decode cX3_jumpByte 119 = .ok (.iload_n 3, 1) := by decide +kernel
theorem dX3_jumpByte_120 : decode cX3_jumpByte 120 = .ok (.sipush 255, 3) := by decide +kernel
theorem dX3_jumpByte_123 : decode cX3_jumpByte 123 = .ok (.iand, 1) := by decide +kernel
theorem dX3_jumpByte_124 : decode cX3_jumpByte 124 = .ok (.ireturn, 1) := by decide +kernel
theorem dX3_address_0 : decode cX3_address 0 = .ok (.aload_n 0, 1) := by decide +kernel
theorem dX3_address_1 : decode cX3_address 1 = .ok (.iconst 0, 1) := by decide +kernel
theorem dX3_address_2 : decode cX3_address 2 = .ok (.putfield 31, 3) := by decide +kernel
theorem dX3_address_5 : decode cX3_address 5 = .ok (.iload_n 1, 1) := by decide +kernel
theorem dX3_address_6 : decode cX3_address 6 = .ok (.ifCond .lt 19, 3) := by decide +kernel
theorem dX3_address_9 : decode cX3_address 9 = .ok (.iload_n 1, 1) := by decide +kernel
theorem dX3_address_10 : decode cX3_address 10 = .ok (.aload_n 0, 1) := by decide +kernel
theorem dX3_address_11 : decode cX3_address 11 = .ok (.getfield 49, 3) := by decide +kernel
theorem dX3_address_14 : decode cX3_address 14 = .ok (.if_icmp .ge 11, 3) := by decide +kernel
theorem dX3_address_17 : decode cX3_address 17 = .ok (.aload_n 0, 1) := by decide +kernel
theorem dX3_address_18 : decode cX3_address 18 = .ok (.iload_n 1, 1) := by decide +kernel
theorem dX3_address_19 : decode cX3_address 19 = .ok (.invokevirtual 52, 3) := by decide +kernel
theorem dX3_address_22 : decode cX3_address 22 = .ok (.goto 4, 3) := by decide +kernel
theorem dX3_address_25 : decode cX3_address 25 = .ok (.iconst (-1), 1) := by decide +kernel
theorem dX3_address_26 : decode cX3_address 26 = .ok (.ireturn, 1) := by decide +kernel
theorem dX3_form_0 : decode cX3_form 0 = .ok (.aload_n 0, 1) := by decide +kernel
theorem dX3_form_1 : decode cX3_form 1 = .ok (.iconst 0, 1) := by decide +kernel
theorem dX3_form_2 : decode cX3_form 2 = .ok (.putfield 31, 3) := by decide +kernel
theorem dX3_form_5 : decode cX3_form 5 = .ok (.iload_n 1, 1) := by decide +kernel
theorem dX3_form_6 : decode cX3_form 6 = .ok (.ifCond .lt 11, 3) := by decide +kernel
theorem dX3_form_9 : decode cX3_form 9 = .ok (.iload_n 1, 1) := by decide +kernel
theorem dX3_form_10 : decode cX3_form 10 = .ok (.aload_n 0, 1) := by decide +kernel
theorem dX3_form_11 : decode cX3_form 11 = .ok (.getfield 49, 3) := by decide +kernel
theorem dX3_form_14 : decode cX3_form 14 = .ok (.if_icmp .lt 5, 3) := by decide +kernel
theorem dX3_form_17 : decode cX3_form 17 = .ok (.iconst (-1), 1) := by decide +kernel
theorem dX3_form_18 : decode cX3_form 18 = .ok (.ireturn, 1) := by decide +kernel
theorem dX3_form_19 : decode cX3_form 19 = .ok (.aload_n 0, 1) := by decide +kernel
theorem dX3_form_20 : decode cX3_form 20 = .ok (.getfield 19, 3) := by decide +kernel
theorem dX3_form_23 : decode cX3_form 23 = .ok (.iload_n 1, 1) := by decide +kernel
theorem dX3_form_24 : decode cX3_form 24 = .ok (.iaload, 1) := by decide +kernel
theorem dX3_form_25 : decode cX3_form 25 = .ok (.iconst 3, 1) := by decide +kernel
theorem dX3_form_26 : decode cX3_form 26 = .ok (.if_icmp .eq 7, 3) := by decide +kernel
theorem dX3_form_29 : decode cX3_form 29 = .ok (.iconst 0, 1) := by decide +kernel
theorem dX3_form_30 : decode cX3_form 30 = .ok (.goto 18, 3) := by decide +kernel
theorem dX3_form_33 : decode cX3_form 33 = .ok (.aload_n 0, 1) := by decide +kernel
theorem dX3_form_34 : decode cX3_form 34 = .ok (.getfield 28, 3) := by decide +kernel
theorem dX3_form_37 : decode cX3_form 37 = .ok (.iload_n 1, 1) := by decide +kernel
theorem dX3_form_38 : decode cX3_form 38 = .ok (.iaload, 1) := by decide +kernel
theorem dX3_form_39 : decode cX3_form 39 = .ok (.iconst 2, 1) := by decide +kernel
theorem dX3_form_40 : decode cX3_form 40 = .ok (.if_icmp .ne 7, 3) := by decide +kernel
theorem dX3_form_43 : decode cX3_form 43 = .ok (.iconst 1, 1) := by decide +kernel
theorem dX3_form_44 : decode cX3_form 44 = .ok (.goto 4, 3) := by decide +kernel
theorem dX3_form_47 : decode cX3_form 47 = .ok (.iconst 2, 1) := by decide +kernel
theorem dX3_form_48 : decode cX3_form 48 = .ok (.ireturn, 1) := by decide +kernel
theorem dX3_longs_0 : decode cX3_longs 0 = .ok (.aload_n 0, 1) := by decide +kernel
theorem dX3_longs_1 : decode cX3_longs 1 = .ok (.iconst 0, 1) := by decide +kernel
theorem dX3_longs_2 : decode cX3_longs 2 = .ok (.putfield 31, 3) := by decide +kernel
theorem dX3_longs_5 : decode cX3_longs 5 = .ok (.iconst 0, 1) := by decide +kernel
theorem dX3_longs_6 : decode cX3_longs 6 = .ok (.istore_n 1, 1) := by decide +kernel
theorem dX3_longs_7 : decode cX3_longs 7 = .ok (.iconst 0, 1) := by decide +kernel
theorem dX3_longs_8 : decode cX3_longs 8 = .ok (.istore_n 2, 1) := by decide +kernel
theorem dX3_longs_9 : decode cX3_longs 9 = .ok (.iload_n 2, 1) := by decide +kernel
theorem dX3_longs_10 : decode cX3_longs 10 = .ok (.aload_n 0, 1) := by decide +kernel
theorem dX3_longs_11 : decode cX3_longs 11 = .ok (.getfield 49, 3) := by decide +kernel
theorem dX3_longs_14 : decode cX3_longs 14 = .ok (.if_icmp .ge 37, 3) := by decide +kernel
theorem dX3_longs_17 : decode cX3_longs 17 = .ok (.aload_n 0, 1) := by decide +kernel
theorem dX3_longs_18 : decode cX3_longs 18 = .ok (.getfield 19, 3) := by decide +kernel
theorem dX3_longs_21 : decode cX3_longs 21 = .ok (.iload_n 2, 1) := by decide +kernel
theorem dX3_longs_22 : decode cX3_longs 22 = .ok (.iaload, 1) := by decide +kernel
theorem dX3_longs_23 : decode cX3_longs 23 = .ok (.iconst 3, 1) := by decide +kernel
theorem dX3_longs_24 : decode cX3_longs 24 = .ok (.if_icmp .ne 19, 3) := by decide +kernel
theorem dX3_longs_27 : decode cX3_longs 27 = .ok (.aload_n 0, 1) := by decide +kernel
theorem dX3_longs_28 : decode cX3_longs 28 = .ok (.getfield 28, 3) := by decide +kernel
theorem dX3_longs_31 : decode cX3_longs 31 = .ok (.iload_n 2, 1) := by decide +kernel
theorem dX3_longs_32 : decode cX3_longs 32 = .ok (.iaload, 1) := by decide +kernel
theorem dX3_longs_33 : decode cX3_longs 33 = .ok (.iconst 2, 1) := by decide +kernel
theorem dX3_longs_34 : decode cX3_longs 34 = .ok (.if_icmp .le 9, 3) := by decide +kernel
theorem dX3_longs_37 : decode cX3_longs 37 = .ok (.iload_n 1, 1) := by decide +kernel
theorem dX3_longs_38 : decode cX3_longs 38 = .ok (.iconst 1, 1) := by decide +kernel
theorem dX3_longs_39 : decode cX3_longs 39 = .ok (.iadd, 1) := by decide +kernel
theorem dX3_longs_40 : decode cX3_longs 40 = .ok (.goto 4, 3) := by decide +kernel
theorem dX3_longs_43 : decode cX3_longs 43 = .ok (.iload_n 1, 1) := by decide +kernel
theorem dX3_longs_44 : decode cX3_longs 44 = .ok (.istore_n 1, 1) := by decide +kernel
theorem dX3_longs_45 : decode cX3_longs 45 = .ok (.iinc 2 1, 3) := by decide +kernel
theorem dX3_longs_48 : decode cX3_longs 48 = .ok (.goto (-39), 3) := by decide +kernel
theorem dX3_longs_51 : decode cX3_longs 51 = .ok (.iload_n 1, 1) := by decide +kernel
theorem dX3_longs_52 : decode cX3_longs 52 = .ok (.ireturn, 1) := by decide +kernel
theorem dX3_value_0 : decode cX3_value 0 = .ok (.aload_n 0, 1) := by decide +kernel
theorem dX3_value_1 : decode cX3_value 1 = .ok (.iconst 0, 1) := by decide +kernel
theorem dX3_value_2 : decode cX3_value 2 = .ok (.putfield 31, 3) := by decide +kernel
theorem dX3_value_5 : decode cX3_value 5 = .ok (.aload_n 0, 1) := by decide +kernel
theorem dX3_value_6 : decode cX3_value 6 = .ok (.iload_n 1, 1) := by decide +kernel
theorem dX3_value_7 : decode cX3_value 7 = .ok (.invokevirtual 55, 3) := by decide +kernel
theorem dX3_value_10 : decode cX3_value 10 = .ok (.ireturn, 1) := by decide +kernel
theorem dX3_follow_0 : decode cX3_follow 0 = .ok (.aload_n 0, 1) := by decide +kernel
theorem dX3_follow_1 : decode cX3_follow 1 = .ok (.aload_n 0, 1) := by decide +kernel
theorem dX3_follow_2 : decode cX3_follow 2 = .ok (.iload_n 1, 1) := by decide +kernel
theorem dX3_follow_3 : decode cX3_follow 3 = .ok (.invokevirtual 75, 3) := by decide +kernel
theorem dX3_follow_6 : decode cX3_follow 6 = .ok (.ifCond .ne 7, 3) := by decide +kernel
theorem dX3_follow_9 : decode cX3_follow 9 = .ok (.iconst 1, 1) := by decide +kernel
theorem dX3_follow_10 : decode cX3_follow 10 = .ok (.goto 4, 3) := by decide +kernel
theorem dX3_follow_13 : decode cX3_follow 13 = .ok (.iconst 0, 1) := by decide +kernel
theorem dX3_follow_14 : decode cX3_follow 14 = .ok (.putfield 31, 3) := by decide +kernel
theorem dX3_follow_17 : decode cX3_follow 17 = .ok (.aload_n 0, 1) := by decide +kernel
theorem dX3_follow_18 : decode cX3_follow 18 = .ok (.getfield 31, 3) := by decide +kernel
theorem dX3_follow_21 : decode cX3_follow 21 = .ok (.ifCond .le 7, 3) := by decide +kernel
theorem dX3_follow_24 : decode cX3_follow 24 = .ok (.iconst 0, 1) := by decide +kernel
theorem dX3_follow_25 : decode cX3_follow 25 = .ok (.goto 9, 3) := by decide +kernel
theorem dX3_follow_28 : decode cX3_follow 28 = .ok (.aload_n 0, 1) := by decide +kernel
theorem dX3_follow_29 : decode cX3_follow 29 = .ok (.iload_n 1, 1) := by decide +kernel
theorem dX3_follow_30 : decode cX3_follow 30 = .ok (.iload_n 2, 1) := by decide +kernel
end
section
theorem dX3_follow_31 : decode cX3_follow 31 = .ok (.invokevirtual 78, 3) := by decide +kernel
theorem dX3_follow_34 : decode cX3_follow 34 = .ok (.ireturn, 1) := by decide +kernel
theorem dX3_length_0 : decode cX3_length 0 = .ok (.iload_n 1, 1) := by decide +kernel
theorem dX3_length_1 : decode cX3_length 1 = .ok (.ifCond .lt 11, 3) := by decide +kernel
theorem dX3_length_4 : decode cX3_length 4 = .ok (.iload_n 1, 1) := by decide +kernel
theorem dX3_length_5 : decode cX3_length 5 = .ok (.aload_n 0, 1) := by decide +kernel
theorem dX3_length_6 : decode cX3_length 6 = .ok (.getfield 65, 3) := by decide +kernel
theorem dX3_length_9 : decode cX3_length 9 = .ok (.if_icmp .lt 5, 3) := by decide +kernel
theorem dX3_length_12 : decode cX3_length 12 = .ok (.iconst 0, 1) := by decide +kernel
theorem dX3_length_13 : decode cX3_length 13 = .ok (.ireturn, 1) := by decide +kernel
theorem dX3_length_14 : decode cX3_length 14 = .ok (.aload_n 0, 1) := by decide +kernel
theorem dX3_length_15 : decode cX3_length 15 = .ok (.iload_n 1, 1) := by decide +kernel
theorem dX3_length_16 : decode cX3_length 16 = .ok (.invokevirtual 72, 3) := by decide +kernel
theorem dX3_length_19 : decode cX3_length 19 = .ok (.istore_n 2, 1) := by decide +kernel
theorem dX3_length_20 : decode cX3_length 20 = .ok (.iload_n 2, 1) := by decide +kernel
theorem dX3_length_21 : decode cX3_length 21 = .ok (.bipush 32, 2) := by decide +kernel
theorem dX3_length_23 : decode cX3_length 23 = .ok (.if_icmp .lt 13, 3) := by decide +kernel
theorem dX3_length_26 : decode cX3_length 26 = .ok (.iload_n 2, 1) := by decide +kernel
theorem dX3_length_27 : decode cX3_length 27 = .ok (.bipush 47, 2) := by decide +kernel
theorem dX3_length_29 : decode cX3_length 29 = .ok (.if_icmp .gt 7, 3) := by decide +kernel
theorem dX3_length_32 : decode cX3_length 32 = .ok (.iconst 2, 1) := by decide +kernel
theorem dX3_length_33 : decode cX3_length 33 = .ok (.goto 14, 3) := by decide +kernel
theorem dX3_length_36 : decode cX3_length 36 = .ok (.iload_n 2, 1) := by decide +kernel
theorem dX3_length_37 : decode cX3_length 37 = .ok (.bipush 64, 2) := by decide +kernel
theorem dX3_length_39 : decode cX3_length 39 = .ok (.if_icmp .ne 7, 3) := by decide +kernel
theorem dX3_length_42 : decode cX3_length 42 = .ok (.iconst 3, 1) := by decide +kernel
theorem dX3_length_43 : decode cX3_length 43 = .ok (.goto 4, 3) := by decide +kernel
theorem dX3_length_46 : decode cX3_length 46 = .ok (.iconst 1, 1) := by decide +kernel
theorem dX3_length_47 : decode cX3_length 47 = .ok (.istore_n 3, 1) := by decide +kernel
theorem dX3_length_48 : decode cX3_length 48 = .ok (.iload_n 3, 1) := by decide +kernel
theorem dX3_length_49 : decode cX3_length 49 = .ok (.aload_n 0, 1) := by decide +kernel
theorem dX3_length_50 : decode cX3_length 50 = .ok (.getfield 65, 3) := by decide +kernel
theorem dX3_length_53 : decode cX3_length 53 = .ok (.iload_n 1, 1) := by decide +kernel
theorem dX3_length_54 : decode cX3_length 54 = .ok (.isub, 1) := by decide +kernel
theorem dX3_length_55 : decode cX3_length 55 = .ok (.if_icmp .le 7, 3) := by decide +kernel
theorem dX3_length_58 : decode cX3_length 58 = .ok (.iconst 0, 1) := by decide +kernel
theorem dX3_length_59 : decode cX3_length 59 = .ok (.goto 4, 3) := by decide +kernel
theorem dX3_length_62 : decode cX3_length 62 = .ok (.iload_n 3, 1) := by decide +kernel
theorem dX3_length_63 : decode cX3_length 63 = .ok (.ireturn, 1) := by decide +kernel
theorem dX3_next_0 : decode cX3_next 0 = .ok (.aload_n 0, 1) := by decide +kernel
theorem dX3_next_1 : decode cX3_next 1 = .ok (.iload_n 1, 1) := by decide +kernel
theorem dX3_next_2 : decode cX3_next 2 = .ok (.invokevirtual 75, 3) := by decide +kernel
theorem dX3_next_5 : decode cX3_next 5 = .ok (.istore_n 3, 1) := by decide +kernel
theorem dX3_next_6 : decode cX3_next 6 = .ok (.iload_n 1, 1) := by decide +kernel
theorem dX3_next_7 : decode cX3_next 7 = .ok (.iload_n 3, 1) := by decide +kernel
theorem dX3_next_8 : decode cX3_next 8 = .ok (.iadd, 1) := by decide +kernel
theorem dX3_next_9 : decode cX3_next 9 = .ok (.istore 4, 2) := by decide +kernel
theorem dX3_next_11 : decode cX3_next 11 = .ok (.iload_n 3, 1) := by decide +kernel
theorem dX3_next_12 : decode cX3_next 12 = .ok (.iconst 1, 1) := by decide +kernel
theorem dX3_next_13 : decode cX3_next 13 = .ok (.if_icmp .eq 7, 3) := by decide +kernel
theorem dX3_next_16 : decode cX3_next 16 = .ok (.iload_n 2, 1) := by decide +kernel
theorem dX3_next_17 : decode cX3_next 17 = .ok (.ifCond .ne 6, 3) := by decide +kernel
theorem dX3_next_20 : decode cX3_next 20 = .ok (.iload 4, 2) := by decide +kernel
theorem dX3_next_22 : decode cX3_next 22 = .ok (.ireturn, 1) := by decide +kernel
theorem dX3_next_23 : decode cX3_next 23 = .ok (.aload_n 0, 1) := by decide +kernel
theorem dX3_next_24 : decode cX3_next 24 = .ok (.iload 4, 2) := by decide +kernel
theorem dX3_next_26 : decode cX3_next 26 = .ok (.iconst 1, 1) := by decide +kernel
theorem dX3_next_27 : decode cX3_next 27 = .ok (.isub, 1) := by decide +kernel
theorem dX3_next_28 : decode cX3_next 28 = .ok (.invokevirtual 72, 3) := by decide +kernel
theorem dX3_next_31 : decode cX3_next 31 = .ok (.istore 5, 2) := by decide +kernel
theorem dX3_next_33 : decode cX3_next 33 = .ok (.iload_n 3, 1) := by decide +kernel
theorem dX3_next_34 : decode cX3_next 34 = .ok (.iconst 2, 1) := by decide +kernel
theorem dX3_next_35 : decode cX3_next 35 = .ok (.if_icmp .ne 25, 3) := by decide +kernel
theorem dX3_next_38 : decode cX3_next 38 = .ok (.iload 4, 2) := by decide +kernel
theorem dX3_next_40 : decode cX3_next 40 = .ok (.iload 5, 2) := by decide +kernel
theorem dX3_next_42 : decode cX3_next 42 = .ok (.bipush 127, 2) := by decide +kernel
theorem dX3_next_44 : decode cX3_next 44 = .ok (.if_icmp .le 12, 3) := by decide +kernel
theorem dX3_next_47 : decode cX3_next 47 = .ok (.iload 5, 2) := by decide +kernel
theorem dX3_next_49 : decode cX3_next 49 = .ok (.sipush 256, 3) := by decide +kernel
theorem dX3_next_52 : decode cX3_next 52 = .ok (.isub, 1) := by decide +kernel
theorem dX3_next_53 : decode cX3_next 53 = .ok (.goto 5, 3) := by decide +kernel
theorem dX3_next_56 : decode cX3_next 56 = .ok (.iload 5, 2) := by decide +kernel
theorem dX3_next_58 : decode cX3_next 58 = .ok (.iadd, 1) := by decide +kernel
theorem dX3_next_59 : decode cX3_next 59 = .ok (.ireturn, 1) := by decide +kernel
theorem dX3_next_60 : decode cX3_next 60 = .ok (.aload_n 0, 1) := by decide +kernel
theorem dX3_next_61 : decode cX3_next 61 = .ok (.iload 4, 2) := by decide +kernel
theorem dX3_next_63 : decode cX3_next 63 = .ok (.iconst 2, 1) := by decide +kernel
theorem dX3_next_64 : decode cX3_next 64 = .ok (.isub, 1) := by decide +kernel
theorem dX3_next_65 : decode cX3_next 65 = .ok (.invokevirtual 72, 3) := by decide +kernel
theorem dX3_next_68 : decode cX3_next 68 = .ok (.istore 6, 2) := by decide +kernel
theorem dX3_next_70 : decode cX3_next 70 = .ok (.iload 4, 2) := by decide +kernel
theorem dX3_next_72 : decode cX3_next 72 = .ok (.sipush 256, 3) := by decide +kernel
theorem dX3_next_75 : decode cX3_next 75 = .ok (.iload 6, 2) := by decide +kernel
theorem dX3_next_77 : decode cX3_next 77 = .ok (.bipush 127, 2) := by decide +kernel
theorem dX3_next_79 : decode cX3_next 79 = .ok (.if_icmp .le 12, 3) := by decide +kernel
theorem dX3_next_82 : decode cX3_next 82 = .ok (.iload 6, 2) := by decide +kernel
theorem dX3_next_84 : decode cX3_next 84 = .ok (.sipush 256, 3) := by decide +kernel
theorem dX3_next_87 : decode cX3_next 87 = .ok (.isub, 1) := by decide +kernel
theorem dX3_next_88 : decode cX3_next 88 = .ok (.goto 5, 3) := by decide +kernel
theorem dX3_next_91 : decode cX3_next 91 = .ok (.iload 6, 2) := by decide +kernel
theorem dX3_next_93 : decode cX3_next 93 = .ok (.imul, 1) := by decide +kernel
theorem dX3_next_94 : decode cX3_next 94 = .ok (.iadd, 1) := by decide +kernel
theorem dX3_next_95 : decode cX3_next 95 = .ok (.iload 5, 2) := by decide +kernel
theorem dX3_next_97 : decode cX3_next 97 = .ok (.iadd, 1) := by decide +kernel
theorem dX3_next_98 : decode cX3_next 98 = .ok (.ireturn, 1) := by decide +kernel
theorem dX3_jumps_0 : decode cX3_jumps 0 = .ok (.aload_n 0, 1) := by decide +kernel
theorem dX3_jumps_1 : decode cX3_jumps 1 = .ok (.iconst 0, 1) := by decide +kernel
theorem dX3_jumps_2 : decode cX3_jumps 2 = .ok (.putfield 31, 3) := by decide +kernel
theorem dX3_jumps_5 : decode cX3_jumps 5 = .ok (.aload_n 0, 1) := by decide +kernel
theorem dX3_jumps_6 : decode cX3_jumps 6 = .ok (.iload_n 1, 1) := by decide +kernel
theorem dX3_jumps_7 : decode cX3_jumps 7 = .ok (.invokevirtual 75, 3) := by decide +kernel
theorem dX3_jumps_10 : decode cX3_jumps 10 = .ok (.iconst 1, 1) := by decide +kernel
theorem dX3_jumps_11 : decode cX3_jumps 11 = .ok (.if_icmp .le 7, 3) := by decide +kernel
theorem dX3_jumps_14 : decode cX3_jumps 14 = .ok (.iconst 1, 1) := by decide +kernel
theorem dX3_jumps_15 : decode cX3_jumps 15 = .ok (.goto 4, 3) := by decide +kernel
theorem dX3_jumps_18 : decode cX3_jumps 18 = .ok (.iconst 0, 1) := by decide +kernel
theorem dX3_jumps_19 : decode cX3_jumps 19 = .ok (.ireturn, 1) := by decide +kernel
theorem dX3_trace_0 : decode cX3_trace 0 = .ok (.aload_n 0, 1) := by decide +kernel
theorem dX3_trace_1 : decode cX3_trace 1 = .ok (.iconst 0, 1) := by decide +kernel
theorem dX3_trace_2 : decode cX3_trace 2 = .ok (.putfield 31, 3) := by decide +kernel
theorem dX3_trace_5 : decode cX3_trace 5 = .ok (.iload_n 3, 1) := by decide +kernel
theorem dX3_trace_6 : decode cX3_trace 6 = .ok (.ifCond .lt 9, 3) := by decide +kernel
theorem dX3_trace_9 : decode cX3_trace 9 = .ok (.iload_n 3, 1) := by decide +kernel
theorem dX3_trace_10 : decode cX3_trace 10 = .ok (.bipush 40, 2) := by decide +kernel
theorem dX3_trace_12 : decode cX3_trace 12 = .ok (.if_icmp .le 5, 3) := by decide +kernel
theorem dX3_trace_15 : decode cX3_trace 15 = .ok (.iconst (-1), 1) := by decide +kernel
theorem dX3_trace_16 : decode cX3_trace 16 = .ok (.ireturn, 1) := by decide +kernel
theorem dX3_trace_17 : decode cX3_trace 17 = .ok (.iload_n 1, 1) := by decide +kernel
theorem dX3_trace_18 : decode cX3_trace 18 = .ok (.istore 4, 2) := by decide +kernel
theorem dX3_trace_20 : decode cX3_trace 20 = .ok (.iconst 0, 1) := by decide +kernel
theorem dX3_trace_21 : decode cX3_trace 21 = .ok (.istore 5, 2) := by decide +kernel
theorem dX3_trace_23 : decode cX3_trace 23 = .ok (.iload 5, 2) := by decide +kernel
theorem dX3_trace_25 : decode cX3_trace 25 = .ok (.iload_n 3, 1) := by decide +kernel
theorem dX3_trace_26 : decode cX3_trace 26 = .ok (.if_icmp .ge 78, 3) := by decide +kernel
theorem dX3_trace_29 : decode cX3_trace 29 = .ok (.aload_n 0, 1) := by decide +kernel
theorem dX3_trace_30 : decode cX3_trace 30 = .ok (.iload 4, 2) := by decide +kernel
theorem dX3_trace_32 : decode cX3_trace 32 = .ok (.invokevirtual 75, 3) := by decide +kernel
theorem dX3_trace_35 : decode cX3_trace 35 = .ok (.ifCond .le 69, 3) := by decide +kernel
theorem dX3_trace_38 : decode cX3_trace 38 = .ok (.aload_n 0, 1) := by decide +kernel
theorem dX3_trace_39 : decode cX3_trace 39 = .ok (.iload 4, 2) := by decide +kernel
theorem dX3_trace_41 : decode cX3_trace 41 = .ok (.invokevirtual 72, 3) := by decide +kernel
theorem dX3_trace_44 : decode cX3_trace 44 = .ok (.istore 6, 2) := by decide +kernel
theorem dX3_trace_46 : decode cX3_trace 46 = .ok (.iload 6, 2) := by decide +kernel
theorem dX3_trace_48 : decode cX3_trace 48 = .ok (.bipush 32, 2) := by decide +kernel
theorem dX3_trace_50 : decode cX3_trace 50 = .ok (.if_icmp .eq 10, 3) := by decide +kernel
theorem dX3_trace_53 : decode cX3_trace 53 = .ok (.iload 6, 2) := by decide +kernel
theorem dX3_trace_55 : decode cX3_trace 55 = .ok (.bipush 64, 2) := by decide +kernel
theorem dX3_trace_57 : decode cX3_trace 57 = .ok (.if_icmp .ne 7, 3) := by decide +kernel
theorem dX3_trace_60 : decode cX3_trace 60 = .ok (.iconst 1, 1) := by decide +kernel
theorem dX3_trace_61 : decode cX3_trace 61 = .ok (.goto 4, 3) := by decide +kernel
theorem dX3_trace_64 : decode cX3_trace 64 = .ok (.iconst 0, 1) := by decide +kernel
theorem dX3_trace_65 : decode cX3_trace 65 = .ok (.istore 7, 2) := by decide +kernel
theorem dX3_trace_67 : decode cX3_trace 67 = .ok (.aload_n 0, 1) := by decide +kernel
theorem dX3_trace_68 : decode cX3_trace 68 = .ok (.iload 4, 2) := by decide +kernel
theorem dX3_trace_70 : decode cX3_trace 70 = .ok (.iload 7, 2) := by decide +kernel
theorem dX3_trace_72 : decode cX3_trace 72 = .ok (.ifCond .ne 16, 3) := by decide +kernel
theorem dX3_trace_75 : decode cX3_trace 75 = .ok (.iload_n 2, 1) := by decide +kernel
theorem dX3_trace_76 : decode cX3_trace 76 = .ok (.iload 5, 2) := by decide +kernel
theorem dX3_trace_78 : decode cX3_trace 78 = .ok (.bipush 32, 2) := by decide +kernel
theorem dX3_trace_80 : decode cX3_trace 80 = .ok (.irem, 1) := by decide +kernel
theorem dX3_trace_81 : decode cX3_trace 81 = .ok (.ishr, 1) := by decide +kernel
theorem dX3_trace_82 : decode cX3_trace 82 = .ok (.iconst 1, 1) := by decide +kernel
theorem dX3_trace_83 : decode cX3_trace 83 = .ok (.iand, 1) := by decide +kernel
theorem dX3_trace_84 : decode cX3_trace 84 = .ok (.iconst 1, 1) := by decide +kernel
theorem dX3_trace_85 : decode cX3_trace 85 = .ok (.if_icmp .ne 7, 3) := by decide +kernel
theorem dX3_trace_88 : decode cX3_trace 88 = .ok (.iconst 1, 1) := by decide +kernel
theorem dX3_trace_89 : decode cX3_trace 89 = .ok (.goto 4, 3) := by decide +kernel
theorem dX3_trace_92 : decode cX3_trace 92 = .ok (.iconst 0, 1) := by decide +kernel
theorem dX3_trace_93 : decode cX3_trace 93 = .ok (.invokevirtual 78, 3) := by decide +kernel
theorem dX3_trace_96 : decode cX3_trace 96 = .ok (.istore 4, 2) := by decide +kernel
theorem dX3_trace_98 : decode cX3_trace 98 = .ok (.iinc 5 1, 3) := by decide +kernel
theorem dX3_trace_101 : decode cX3_trace 101 = .ok (.goto (-78), 3) := by decide +kernel
theorem dX3_trace_104 : decode cX3_trace 104 = .ok (.iload 4, 2) := by decide +kernel
theorem dX3_trace_106 : decode cX3_trace 106 = .ok (.ireturn, 1) := by decide +kernel
theorem dL_law_0 : decode code 0 = .ok (.new 8, 3) := by decide +kernel
theorem dL_law_3 : decode code 3 = .ok (.dup, 1) := by decide +kernel
theorem dL_law_4 : decode code 4 = .ok (.invokespecial 23, 3) := by decide +kernel
theorem dL_law_7 : decode code 7 = .ok (.astore_n 1, 1) := by decide +kernel
theorem dL_law_8 : decode code 8 = .ok (.new 24, 3) := by decide +kernel
theorem dL_law_11 : decode code 11 = .ok (.dup, 1) := by decide +kernel
theorem dL_law_12 : decode code 12 = .ok (.invokespecial 26, 3) := by decide +kernel
theorem dL_law_15 : decode code 15 = .ok (.astore_n 2, 1) := by decide +kernel
theorem dL_law_16 : decode code 16 = .ok (.iconst 1, 1) := by decide +kernel
theorem dL_law_17 : decode code 17 = .ok (.newarray .long, 2) := by decide +kernel
theorem dL_law_19 : decode code 19 = .ok (.astore_n 3, 1) := by decide +kernel
theorem dL_law_20 : decode code 20 = .ok (.iconst 0, 1) := by decide +kernel
theorem dL_law_21 : decode code 21 = .ok (.istore 4, 2) := by decide +kernel
theorem dL_law_23 : decode code 23 = .ok (.iload 4, 2) := by decide +kernel
theorem dL_law_25 : decode code 25 = .ok (.aload_n 0, 1) := by decide +kernel
theorem dL_law_26 : decode code 26 = .ok (.arraylength, 1) := by decide +kernel
theorem dL_law_27 : decode code 27 = .ok (.iconst 5, 1) := by decide +kernel
theorem dL_law_28 : decode code 28 = .ok (.isub, 1) := by decide +kernel
theorem dL_law_29 : decode code 29 = .ok (.if_icmp .gt 491, 3) := by decide +kernel
theorem dL_law_32 : decode code 32 = .ok (.aload_n 0, 1) := by decide +kernel
theorem dL_law_33 : decode code 33 = .ok (.iload 4, 2) := by decide +kernel
theorem dL_law_35 : decode code 35 = .ok (.iaload, 1) := by decide +kernel
theorem dL_law_36 : decode code 36 = .ok (.bipush 15, 2) := by decide +kernel
theorem dL_law_38 : decode code 38 = .ok (.iand, 1) := by decide +kernel
theorem dL_law_39 : decode code 39 = .ok (.tableswitch 475 0 11 #[61, 122, 147, 160, 204, 229, 254, 279, 292, 317, 401, 426], 61) := by decide +kernel
theorem dL_law_100 : decode code 100 = .ok (.aload_n 1, 1) := by decide +kernel
theorem dL_law_101 : decode code 101 = .ok (.aload_n 0, 1) := by decide +kernel
theorem dL_law_102 : decode code 102 = .ok (.iload 4, 2) := by decide +kernel
theorem dL_law_104 : decode code 104 = .ok (.iconst 1, 1) := by decide +kernel
theorem dL_law_105 : decode code 105 = .ok (.iadd, 1) := by decide +kernel
theorem dL_law_106 : decode code 106 = .ok (.iaload, 1) := by decide +kernel
theorem dL_law_107 : decode code 107 = .ok (.aload_n 0, 1) := by decide +kernel
theorem dL_law_108 : decode code 108 = .ok (.iload 4, 2) := by decide +kernel
theorem dL_law_110 : decode code 110 = .ok (.iconst 2, 1) := by decide +kernel
theorem dL_law_111 : decode code 111 = .ok (.iadd, 1) := by decide +kernel
theorem dL_law_112 : decode code 112 = .ok (.iaload, 1) := by decide +kernel
theorem dL_law_113 : decode code 113 = .ok (.aload_n 0, 1) := by decide +kernel
theorem dL_law_114 : decode code 114 = .ok (.iload 4, 2) := by decide +kernel
theorem dL_law_116 : decode code 116 = .ok (.iconst 3, 1) := by decide +kernel
theorem dL_law_117 : decode code 117 = .ok (.iadd, 1) := by decide +kernel
theorem dL_law_118 : decode code 118 = .ok (.iaload, 1) := by decide +kernel
theorem dL_law_119 : decode code 119 = .ok (.aload_n 0, 1) := by decide +kernel
theorem dL_law_120 : decode code 120 = .ok (.iload 4, 2) := by decide +kernel
theorem dL_law_122 : decode code 122 = .ok (.iconst 4, 1) := by decide +kernel
theorem dL_law_123 : decode code 123 = .ok (.iadd, 1) := by decide +kernel
theorem dL_law_124 : decode code 124 = .ok (.iaload, 1) := by decide +kernel
theorem dL_law_125 : decode code 125 = .ok (.invokevirtual 27, 3) := by decide +kernel
theorem dL_law_128 : decode code 128 = .ok (.aload_n 2, 1) := by decide +kernel
theorem dL_law_129 : decode code 129 = .ok (.aload_n 0, 1) := by decide +kernel
theorem dL_law_130 : decode code 130 = .ok (.iload 4, 2) := by decide +kernel
theorem dL_law_132 : decode code 132 = .ok (.iconst 1, 1) := by decide +kernel
theorem dL_law_133 : decode code 133 = .ok (.iadd, 1) := by decide +kernel
theorem dL_law_134 : decode code 134 = .ok (.iaload, 1) := by decide +kernel
theorem dL_law_135 : decode code 135 = .ok (.aload_n 0, 1) := by decide +kernel
theorem dL_law_136 : decode code 136 = .ok (.iload 4, 2) := by decide +kernel
theorem dL_law_138 : decode code 138 = .ok (.iconst 2, 1) := by decide +kernel
theorem dL_law_139 : decode code 139 = .ok (.iadd, 1) := by decide +kernel
theorem dL_law_140 : decode code 140 = .ok (.iaload, 1) := by decide +kernel
theorem dL_law_141 : decode code 141 = .ok (.aload_n 0, 1) := by decide +kernel
theorem dL_law_142 : decode code 142 = .ok (.iload 4, 2) := by decide +kernel
theorem dL_law_144 : decode code 144 = .ok (.iconst 3, 1) := by decide +kernel
theorem dL_law_145 : decode code 145 = .ok (.iadd, 1) := by decide +kernel
theorem dL_law_146 : decode code 146 = .ok (.iaload, 1) := by decide +kernel
theorem dL_law_147 : decode code 147 = .ok (.aload_n 0, 1) := by decide +kernel
theorem dL_law_148 : decode code 148 = .ok (.iload 4, 2) := by decide +kernel
theorem dL_law_150 : decode code 150 = .ok (.iconst 4, 1) := by decide +kernel
theorem dL_law_151 : decode code 151 = .ok (.iadd, 1) := by decide +kernel
theorem dL_law_152 : decode code 152 = .ok (.iaload, 1) := by decide +kernel
theorem dL_law_153 : decode code 153 = .ok (.invokevirtual 31, 3) := by decide +kernel
theorem dL_law_156 : decode code 156 = .ok (.if_icmp .eq 358, 3) := by decide +kernel
theorem dL_law_159 : decode code 159 = .ok (.iconst 0, 1) := by decide +kernel
theorem dL_law_160 : decode code 160 = .ok (.ireturn, 1) := by decide +kernel
theorem dL_law_161 : decode code 161 = .ok (.aload_n 1, 1) := by decide +kernel
theorem dL_law_162 : decode code 162 = .ok (.aload_n 0, 1) := by decide +kernel
theorem dL_law_163 : decode code 163 = .ok (.iload 4, 2) := by decide +kernel
theorem dL_law_165 : decode code 165 = .ok (.iconst 1, 1) := by decide +kernel
theorem dL_law_166 : decode code 166 = .ok (.iadd, 1) := by decide +kernel
theorem dL_law_167 : decode code 167 = .ok (.iaload, 1) := by decide +kernel
theorem dL_law_168 : decode code 168 = .ok (.invokevirtual 32, 3) := by decide +kernel
theorem dL_law_171 : decode code 171 = .ok (.aload_n 2, 1) := by decide +kernel
theorem dL_law_172 : decode code 172 = .ok (.aload_n 0, 1) := by decide +kernel
theorem dL_law_173 : decode code 173 = .ok (.iload 4, 2) := by decide +kernel
theorem dL_law_175 : decode code 175 = .ok (.iconst 1, 1) := by decide +kernel
theorem dL_law_176 : decode code 176 = .ok (.iadd, 1) := by decide +kernel
theorem dL_law_177 : decode code 177 = .ok (.iaload, 1) := by decide +kernel
theorem dL_law_178 : decode code 178 = .ok (.invokevirtual 36, 3) := by decide +kernel
theorem dL_law_181 : decode code 181 = .ok (.if_icmp .eq 333, 3) := by decide +kernel
theorem dL_law_184 : decode code 184 = .ok (.iconst 0, 1) := by decide +kernel
theorem dL_law_185 : decode code 185 = .ok (.ireturn, 1) := by decide +kernel
theorem dL_law_186 : decode code 186 = .ok (.aload_n 1, 1) := by decide +kernel
theorem dL_law_187 : decode code 187 = .ok (.invokevirtual 37, 3) := by decide +kernel
theorem dL_law_190 : decode code 190 = .ok (.aload_n 2, 1) := by decide +kernel
theorem dL_law_191 : decode code 191 = .ok (.invokevirtual 40, 3) := by decide +kernel
theorem dL_law_194 : decode code 194 = .ok (.if_icmp .eq 320, 3) := by decide +kernel
theorem dL_law_197 : decode code 197 = .ok (.iconst 0, 1) := by decide +kernel
theorem dL_law_198 : decode code 198 = .ok (.ireturn, 1) := by decide +kernel
theorem dL_law_199 : decode code 199 = .ok (.aload_n 1, 1) := by decide +kernel
theorem dL_law_200 : decode code 200 = .ok (.aload_n 3, 1) := by decide +kernel
theorem dL_law_201 : decode code 201 = .ok (.invokestatic 41, 3) := by decide +kernel
theorem dL_law_204 : decode code 204 = .ok (.istore 5, 2) := by decide +kernel
theorem dL_law_206 : decode code 206 = .ok (.aload_n 2, 1) := by decide +kernel
theorem dL_law_207 : decode code 207 = .ok (.invokevirtual 46, 3) := by decide +kernel
theorem dL_law_210 : decode code 210 = .ok (.istore 6, 2) := by decide +kernel
theorem dL_law_212 : decode code 212 = .ok (.aload_n 2, 1) := by decide +kernel
theorem dL_law_213 : decode code 213 = .ok (.invokevirtual 47, 3) := by decide +kernel
theorem dL_law_216 : decode code 216 = .ok (.iload 5, 2) := by decide +kernel
theorem dL_law_218 : decode code 218 = .ok (.if_icmp .eq 5, 3) := by decide +kernel
theorem dL_law_221 : decode code 221 = .ok (.iconst 0, 1) := by decide +kernel
theorem dL_law_222 : decode code 222 = .ok (.ireturn, 1) := by decide +kernel
theorem dL_law_223 : decode code 223 = .ok (.iload 5, 2) := by decide +kernel
theorem dL_law_225 : decode code 225 = .ok (.ifCond .ne 15, 3) := by decide +kernel
theorem dL_law_228 : decode code 228 = .ok (.aload_n 3, 1) := by decide +kernel
theorem dL_law_229 : decode code 229 = .ok (.iconst 0, 1) := by decide +kernel
theorem dL_law_230 : decode code 230 = .ok (.laload, 1) := by decide +kernel
theorem dL_law_231 : decode code 231 = .ok (.iload 6, 2) := by decide +kernel
theorem dL_law_233 : decode code 233 = .ok (.i2l, 1) := by decide +kernel
theorem dL_law_234 : decode code 234 = .ok (.lcmp, 1) := by decide +kernel
theorem dL_law_235 : decode code 235 = .ok (.ifCond .eq 5, 3) := by decide +kernel
theorem dL_law_238 : decode code 238 = .ok (.iconst 0, 1) := by decide +kernel
theorem dL_law_239 : decode code 239 = .ok (.ireturn, 1) := by decide +kernel
theorem dL_law_240 : decode code 240 = .ok (.goto 274, 3) := by decide +kernel
theorem dL_law_243 : decode code 243 = .ok (.aload_n 1, 1) := by decide +kernel
theorem dL_law_244 : decode code 244 = .ok (.aload_n 0, 1) := by decide +kernel
theorem dL_law_245 : decode code 245 = .ok (.iload 4, 2) := by decide +kernel
theorem dL_law_247 : decode code 247 = .ok (.iconst 1, 1) := by decide +kernel
theorem dL_law_248 : decode code 248 = .ok (.iadd, 1) := by decide +kernel
theorem dL_law_249 : decode code 249 = .ok (.iaload, 1) := by decide +kernel
theorem dL_law_250 : decode code 250 = .ok (.invokevirtual 50, 3) := by decide +kernel
theorem dL_law_253 : decode code 253 = .ok (.aload_n 2, 1) := by decide +kernel
theorem dL_law_254 : decode code 254 = .ok (.aload_n 0, 1) := by decide +kernel
theorem dL_law_255 : decode code 255 = .ok (.iload 4, 2) := by decide +kernel
theorem dL_law_257 : decode code 257 = .ok (.iconst 1, 1) := by decide +kernel
theorem dL_law_258 : decode code 258 = .ok (.iadd, 1) := by decide +kernel
theorem dL_law_259 : decode code 259 = .ok (.iaload, 1) := by decide +kernel
theorem dL_law_260 : decode code 260 = .ok (.invokevirtual 54, 3) := by decide +kernel
theorem dL_law_263 : decode code 263 = .ok (.if_icmp .eq 251, 3) := by decide +kernel
theorem dL_law_266 : decode code 266 = .ok (.iconst 0, 1) := by decide +kernel
theorem dL_law_267 : decode code 267 = .ok (.ireturn, 1) := by decide +kernel
theorem dL_law_268 : decode code 268 = .ok (.aload_n 1, 1) := by decide +kernel
theorem dL_law_269 : decode code 269 = .ok (.aload_n 0, 1) := by decide +kernel
theorem dL_law_270 : decode code 270 = .ok (.iload 4, 2) := by decide +kernel
theorem dL_law_272 : decode code 272 = .ok (.iconst 1, 1) := by decide +kernel
theorem dL_law_273 : decode code 273 = .ok (.iadd, 1) := by decide +kernel
theorem dL_law_274 : decode code 274 = .ok (.iaload, 1) := by decide +kernel
theorem dL_law_275 : decode code 275 = .ok (.invokevirtual 55, 3) := by decide +kernel
theorem dL_law_278 : decode code 278 = .ok (.aload_n 2, 1) := by decide +kernel
theorem dL_law_279 : decode code 279 = .ok (.aload_n 0, 1) := by decide +kernel
theorem dL_law_280 : decode code 280 = .ok (.iload 4, 2) := by decide +kernel
theorem dL_law_282 : decode code 282 = .ok (.iconst 1, 1) := by decide +kernel
theorem dL_law_283 : decode code 283 = .ok (.iadd, 1) := by decide +kernel
theorem dL_law_284 : decode code 284 = .ok (.iaload, 1) := by decide +kernel
theorem dL_law_285 : decode code 285 = .ok (.invokevirtual 58, 3) := by decide +kernel
theorem dL_law_288 : decode code 288 = .ok (.if_icmp .eq 226, 3) := by decide +kernel
theorem dL_law_291 : decode code 291 = .ok (.iconst 0, 1) := by decide +kernel
theorem dL_law_292 : decode code 292 = .ok (.ireturn, 1) := by decide +kernel
theorem dL_law_293 : decode code 293 = .ok (.aload_n 1, 1) := by decide +kernel
theorem dL_law_294 : decode code 294 = .ok (.aload_n 0, 1) := by decide +kernel
theorem dL_law_295 : decode code 295 = .ok (.iload 4, 2) := by decide +kernel
theorem dL_law_297 : decode code 297 = .ok (.iconst 1, 1) := by decide +kernel
theorem dL_law_298 : decode code 298 = .ok (.iadd, 1) := by decide +kernel
theorem dL_law_299 : decode code 299 = .ok (.iaload, 1) := by decide +kernel
theorem dL_law_300 : decode code 300 = .ok (.invokevirtual 59, 3) := by decide +kernel
theorem dL_law_303 : decode code 303 = .ok (.aload_n 2, 1) := by decide +kernel
theorem dL_law_304 : decode code 304 = .ok (.aload_n 0, 1) := by decide +kernel
theorem dL_law_305 : decode code 305 = .ok (.iload 4, 2) := by decide +kernel
theorem dL_law_307 : decode code 307 = .ok (.iconst 1, 1) := by decide +kernel
theorem dL_law_308 : decode code 308 = .ok (.iadd, 1) := by decide +kernel
theorem dL_law_309 : decode code 309 = .ok (.iaload, 1) := by decide +kernel
theorem dL_law_310 : decode code 310 = .ok (.invokevirtual 62, 3) := by decide +kernel
theorem dL_law_313 : decode code 313 = .ok (.if_icmp .eq 201, 3) := by decide +kernel
theorem dL_law_316 : decode code 316 = .ok (.iconst 0, 1) := by decide +kernel
theorem dL_law_317 : decode code 317 = .ok (.ireturn, 1) := by decide +kernel
theorem dL_law_318 : decode code 318 = .ok (.aload_n 1, 1) := by decide +kernel
theorem dL_law_319 : decode code 319 = .ok (.invokevirtual 63, 3) := by decide +kernel
theorem dL_law_322 : decode code 322 = .ok (.aload_n 2, 1) := by decide +kernel
theorem dL_law_323 : decode code 323 = .ok (.invokevirtual 66, 3) := by decide +kernel
theorem dL_law_326 : decode code 326 = .ok (.if_icmp .eq 188, 3) := by decide +kernel
theorem dL_law_329 : decode code 329 = .ok (.iconst 0, 1) := by decide +kernel
theorem dL_law_330 : decode code 330 = .ok (.ireturn, 1) := by decide +kernel
theorem dL_law_331 : decode code 331 = .ok (.aload_n 1, 1) := by decide +kernel
theorem dL_law_332 : decode code 332 = .ok (.aload_n 0, 1) := by decide +kernel
theorem dL_law_333 : decode code 333 = .ok (.iload 4, 2) := by decide +kernel
theorem dL_law_335 : decode code 335 = .ok (.iconst 1, 1) := by decide +kernel
theorem dL_law_336 : decode code 336 = .ok (.iadd, 1) := by decide +kernel
theorem dL_law_337 : decode code 337 = .ok (.iaload, 1) := by decide +kernel
theorem dL_law_338 : decode code 338 = .ok (.invokevirtual 67, 3) := by decide +kernel
theorem dL_law_341 : decode code 341 = .ok (.aload_n 2, 1) := by decide +kernel
theorem dL_law_342 : decode code 342 = .ok (.aload_n 0, 1) := by decide +kernel
theorem dL_law_343 : decode code 343 = .ok (.iload 4, 2) := by decide +kernel
theorem dL_law_345 : decode code 345 = .ok (.iconst 1, 1) := by decide +kernel
theorem dL_law_346 : decode code 346 = .ok (.iadd, 1) := by decide +kernel
theorem dL_law_347 : decode code 347 = .ok (.iaload, 1) := by decide +kernel
theorem dL_law_348 : decode code 348 = .ok (.invokevirtual 70, 3) := by decide +kernel
theorem dL_law_351 : decode code 351 = .ok (.if_icmp .eq 163, 3) := by decide +kernel
theorem dL_law_354 : decode code 354 = .ok (.iconst 0, 1) := by decide +kernel
theorem dL_law_355 : decode code 355 = .ok (.ireturn, 1) := by decide +kernel
theorem dL_law_356 : decode code 356 = .ok (.aload_n 1, 1) := by decide +kernel
theorem dL_law_357 : decode code 357 = .ok (.aload_n 0, 1) := by decide +kernel
theorem dL_law_358 : decode code 358 = .ok (.iload 4, 2) := by decide +kernel
theorem dL_law_360 : decode code 360 = .ok (.iconst 1, 1) := by decide +kernel
theorem dL_law_361 : decode code 361 = .ok (.iadd, 1) := by decide +kernel
theorem dL_law_362 : decode code 362 = .ok (.iaload, 1) := by decide +kernel
theorem dL_law_363 : decode code 363 = .ok (.aload_n 0, 1) := by decide +kernel
theorem dL_law_364 : decode code 364 = .ok (.iload 4, 2) := by decide +kernel
theorem dL_law_366 : decode code 366 = .ok (.iconst 2, 1) := by decide +kernel
theorem dL_law_367 : decode code 367 = .ok (.iadd, 1) := by decide +kernel
theorem dL_law_368 : decode code 368 = .ok (.iaload, 1) := by decide +kernel
theorem dL_law_369 : decode code 369 = .ok (.ifCond .eq 7, 3) := by decide +kernel
theorem dL_law_372 : decode code 372 = .ok (.iconst 1, 1) := by decide +kernel
theorem dL_law_373 : decode code 373 = .ok (.goto 4, 3) := by decide +kernel
theorem dL_law_376 : decode code 376 = .ok (.iconst 0, 1) := by decide +kernel
theorem dL_law_377 : decode code 377 = .ok (.aload_n 3, 1) := by decide +kernel
theorem dL_law_378 : decode code 378 = .ok (.invokestatic 71, 3) := by decide +kernel
theorem dL_law_381 : decode code 381 = .ok (.istore 5, 2) := by decide +kernel
theorem dL_law_383 : decode code 383 = .ok (.aload_n 2, 1) := by decide +kernel
theorem dL_law_384 : decode code 384 = .ok (.aload_n 0, 1) := by decide +kernel
theorem dL_law_385 : decode code 385 = .ok (.iload 4, 2) := by decide +kernel
theorem dL_law_387 : decode code 387 = .ok (.iconst 1, 1) := by decide +kernel
theorem dL_law_388 : decode code 388 = .ok (.iadd, 1) := by decide +kernel
theorem dL_law_389 : decode code 389 = .ok (.iaload, 1) := by decide +kernel
theorem dL_law_390 : decode code 390 = .ok (.aload_n 0, 1) := by decide +kernel
theorem dL_law_391 : decode code 391 = .ok (.iload 4, 2) := by decide +kernel
theorem dL_law_393 : decode code 393 = .ok (.iconst 2, 1) := by decide +kernel
theorem dL_law_394 : decode code 394 = .ok (.iadd, 1) := by decide +kernel
theorem dL_law_395 : decode code 395 = .ok (.iaload, 1) := by decide +kernel
theorem dL_law_396 : decode code 396 = .ok (.ifCond .eq 7, 3) := by decide +kernel
theorem dL_law_399 : decode code 399 = .ok (.iconst 1, 1) := by decide +kernel
theorem dL_law_400 : decode code 400 = .ok (.goto 4, 3) := by decide +kernel
theorem dL_law_403 : decode code 403 = .ok (.iconst 0, 1) := by decide +kernel
theorem dL_law_404 : decode code 404 = .ok (.invokevirtual 74, 3) := by decide +kernel
theorem dL_law_407 : decode code 407 = .ok (.istore 6, 2) := by decide +kernel
theorem dL_law_409 : decode code 409 = .ok (.aload_n 2, 1) := by decide +kernel
theorem dL_law_410 : decode code 410 = .ok (.invokevirtual 47, 3) := by decide +kernel
theorem dL_law_413 : decode code 413 = .ok (.iload 5, 2) := by decide +kernel
theorem dL_law_415 : decode code 415 = .ok (.if_icmp .eq 5, 3) := by decide +kernel
theorem dL_law_418 : decode code 418 = .ok (.iconst 0, 1) := by decide +kernel
theorem dL_law_419 : decode code 419 = .ok (.ireturn, 1) := by decide +kernel
theorem dL_law_420 : decode code 420 = .ok (.iload 5, 2) := by decide +kernel
theorem dL_law_422 : decode code 422 = .ok (.ifCond .ne 15, 3) := by decide +kernel
theorem dL_law_425 : decode code 425 = .ok (.aload_n 3, 1) := by decide +kernel
theorem dL_law_426 : decode code 426 = .ok (.iconst 0, 1) := by decide +kernel
theorem dL_law_427 : decode code 427 = .ok (.laload, 1) := by decide +kernel
theorem dL_law_428 : decode code 428 = .ok (.iload 6, 2) := by decide +kernel
theorem dL_law_430 : decode code 430 = .ok (.i2l, 1) := by decide +kernel
theorem dL_law_431 : decode code 431 = .ok (.lcmp, 1) := by decide +kernel
theorem dL_law_432 : decode code 432 = .ok (.ifCond .eq 5, 3) := by decide +kernel
theorem dL_law_435 : decode code 435 = .ok (.iconst 0, 1) := by decide +kernel
theorem dL_law_436 : decode code 436 = .ok (.ireturn, 1) := by decide +kernel
theorem dL_law_437 : decode code 437 = .ok (.goto 77, 3) := by decide +kernel
theorem dL_law_440 : decode code 440 = .ok (.aload_n 1, 1) := by decide +kernel
theorem dL_law_441 : decode code 441 = .ok (.aload_n 0, 1) := by decide +kernel
theorem dL_law_442 : decode code 442 = .ok (.iload 4, 2) := by decide +kernel
theorem dL_law_444 : decode code 444 = .ok (.iconst 1, 1) := by decide +kernel
theorem dL_law_445 : decode code 445 = .ok (.iadd, 1) := by decide +kernel
theorem dL_law_446 : decode code 446 = .ok (.iaload, 1) := by decide +kernel
theorem dL_law_447 : decode code 447 = .ok (.invokevirtual 75, 3) := by decide +kernel
theorem dL_law_450 : decode code 450 = .ok (.aload_n 2, 1) := by decide +kernel
theorem dL_law_451 : decode code 451 = .ok (.aload_n 0, 1) := by decide +kernel
theorem dL_law_452 : decode code 452 = .ok (.iload 4, 2) := by decide +kernel
theorem dL_law_454 : decode code 454 = .ok (.iconst 1, 1) := by decide +kernel
theorem dL_law_455 : decode code 455 = .ok (.iadd, 1) := by decide +kernel
theorem dL_law_456 : decode code 456 = .ok (.iaload, 1) := by decide +kernel
theorem dL_law_457 : decode code 457 = .ok (.invokevirtual 78, 3) := by decide +kernel
theorem dL_law_460 : decode code 460 = .ok (.if_icmp .eq 54, 3) := by decide +kernel
theorem dL_law_463 : decode code 463 = .ok (.iconst 0, 1) := by decide +kernel
theorem dL_law_464 : decode code 464 = .ok (.ireturn, 1) := by decide +kernel
theorem dL_law_465 : decode code 465 = .ok (.aload_n 1, 1) := by decide +kernel
theorem dL_law_466 : decode code 466 = .ok (.aload_n 0, 1) := by decide +kernel
theorem dL_law_467 : decode code 467 = .ok (.iload 4, 2) := by decide +kernel
theorem dL_law_469 : decode code 469 = .ok (.iconst 1, 1) := by decide +kernel
theorem dL_law_470 : decode code 470 = .ok (.iadd, 1) := by decide +kernel
theorem dL_law_471 : decode code 471 = .ok (.iaload, 1) := by decide +kernel
theorem dL_law_472 : decode code 472 = .ok (.aload_n 0, 1) := by decide +kernel
theorem dL_law_473 : decode code 473 = .ok (.iload 4, 2) := by decide +kernel
theorem dL_law_475 : decode code 475 = .ok (.iconst 2, 1) := by decide +kernel
theorem dL_law_476 : decode code 476 = .ok (.iadd, 1) := by decide +kernel
theorem dL_law_477 : decode code 477 = .ok (.iaload, 1) := by decide +kernel
theorem dL_law_478 : decode code 478 = .ok (.aload_n 0, 1) := by decide +kernel
theorem dL_law_479 : decode code 479 = .ok (.iload 4, 2) := by decide +kernel
theorem dL_law_481 : decode code 481 = .ok (.iconst 3, 1) := by decide +kernel
theorem dL_law_482 : decode code 482 = .ok (.iadd, 1) := by decide +kernel
theorem dL_law_483 : decode code 483 = .ok (.iaload, 1) := by decide +kernel
theorem dL_law_484 : decode code 484 = .ok (.invokevirtual 79, 3) := by decide +kernel
theorem dL_law_487 : decode code 487 = .ok (.aload_n 2, 1) := by decide +kernel
theorem dL_law_488 : decode code 488 = .ok (.aload_n 0, 1) := by decide +kernel
theorem dL_law_489 : decode code 489 = .ok (.iload 4, 2) := by decide +kernel
theorem dL_law_491 : decode code 491 = .ok (.iconst 1, 1) := by decide +kernel
theorem dL_law_492 : decode code 492 = .ok (.iadd, 1) := by decide +kernel
theorem dL_law_493 : decode code 493 = .ok (.iaload, 1) := by decide +kernel
theorem dL_law_494 : decode code 494 = .ok (.aload_n 0, 1) := by decide +kernel
theorem dL_law_495 : decode code 495 = .ok (.iload 4, 2) := by decide +kernel
theorem dL_law_497 : decode code 497 = .ok (.iconst 2, 1) := by decide +kernel
theorem dL_law_498 : decode code 498 = .ok (.iadd, 1) := by decide +kernel
theorem dL_law_499 : decode code 499 = .ok (.iaload, 1) := by decide +kernel
theorem dL_law_500 : decode code 500 = .ok (.aload_n 0, 1) := by decide +kernel
theorem dL_law_501 : decode code 501 = .ok (.iload 4, 2) := by decide +kernel
theorem dL_law_503 : decode code 503 = .ok (.iconst 3, 1) := by decide +kernel
theorem dL_law_504 : decode code 504 = .ok (.iadd, 1) := by decide +kernel
theorem dL_law_505 : decode code 505 = .ok (.iaload, 1) := by decide +kernel
theorem dL_law_506 : decode code 506 = .ok (.invokevirtual 83, 3) := by decide +kernel
theorem dL_law_509 : decode code 509 = .ok (.if_icmp .eq 5, 3) := by decide +kernel
theorem dL_law_512 : decode code 512 = .ok (.iconst 0, 1) := by decide +kernel
theorem dL_law_513 : decode code 513 = .ok (.ireturn, 1) := by decide +kernel
theorem dL_law_514 : decode code 514 = .ok (.iinc 4 5, 3) := by decide +kernel
theorem dL_law_517 : decode code 517 = .ok (.goto (-494), 3) := by decide +kernel
theorem dL_law_520 : decode code 520 = .ok (.iconst 1, 1) := by decide +kernel
theorem dL_law_521 : decode code 521 = .ok (.ireturn, 1) := by decide +kernel
end
section
/-! worlds: the cells of the class's objects and of the reference's; what the tables say -/
abbrev wo_P (v : Nat → Nat) (cI : ClassId) (n : Nat) (f0 f1 f2 : Nat → Int32) : va_W := [(v 0, .inr (1, [.ref (v 1), .ref (v 2), .ref (v 3), .int (ji_n (n : Int))])), (v 1, .inl (cI, 50, .inl f0)), (v 2, .inl (cI, 50, .inl f1)), (v 3, .inl (cI, 50, .inl f2))]
abbrev wo_A (w : Nat → Nat) (cI : ClassId) (n : Nat) (g0 g1 g2 st fm vl : Nat → Int32) : va_W := [(w 0, .inr (0, [.ref (w 4), .ref (w 1), .ref (w 2), .ref (w 3)])), (w 1, .inl (cI, 51, .inl st)), (w 2, .inl (cI, 50, .inl fm)), (w 3, .inl (cI, 16, .inl vl)), (w 4, .inr (1, [.ref (w 5), .ref (w 6), .ref (w 7), .int (ji_n (n : Int))])), (w 5, .inl (cI, 50, .inl g0)), (w 6, .inl (cI, 50, .inl g1)), (w 7, .inl (cI, 50, .inl g2))]
abbrev wo_D (u v w : Nat → Nat) (cI : ClassId) (nP : Nat) (f0 f1 f2 : Nat → Int32) (n : Nat) (g0 g1 g2 st fm vl : Nat → Int32) : va_W := (u 0, .inr (2, [.ref (v 0), .ref (w 0)])) :: (wo_P v cI nP f0 f1 f2 ++ wo_A w cI n g0 g1 g2 st fm vl)
abbrev wo_M (v : Nat → Nat) (cI : ClassId) (th nP n by_ : Int) (f0 f1 f2 g0 g1 g2 sz : Nat → Int32) : va_W := [(v 0, .inr (3, [.int (ji_n th), .int (ji_n nP), .ref (v 1), .ref (v 2), .ref (v 3), .int (ji_n n), .ref (v 4), .ref (v 5), .ref (v 6), .ref (v 7), .int (ji_n by_)])), (v 1, .inl (cI, 50, .inl f0)), (v 2, .inl (cI, 50, .inl f1)), (v 3, .inl (cI, 50, .inl f2)), (v 4, .inl (cI, 50, .inl g0)), (v 5, .inl (cI, 50, .inl g1)), (v 6, .inl (cI, 50, .inl g2)), (v 7, .inl (cI, 50, .inl sz))]
def kn_K (dC : Nat → ClassId) (dI : Nat → Nat → Nat) (cI : ClassId) (U : State) : Prop := va_K (dC, dI) vwCl [(cI, .int)] U ∧ va_Nw (.fieldLinkNest "SpanDesk" 35 "SpanDesk$Program" "count" "I" "SpanDesk") U ∧ va_Nw (.fieldLinkNest "SpanDesk" 70 "SpanDesk$Assembly" "source" "LSpanDesk$Program;" "SpanDesk") U ∧ va_Nw (.fieldLinkNest "SpanDesk" 76 "SpanDesk$Assembly" "starts" "[I" "SpanDesk") U ∧ va_Nw (.fieldLinkNest "SpanDesk" 80 "SpanDesk$Assembly" "forms" "[I" "SpanDesk") U ∧ va_Nw (.fieldLinkNest "SpanDesk" 89 "SpanDesk$Assembly" "values" "[I" "SpanDesk") U ∧ va_Nw (.fieldLinkNest "SpanDesk$Assembly" 34 "SpanDesk$Program" "count" "I" "SpanDesk") U ∧ va_Nw (.fieldLinkNest "SpanDesk$Assembly" 52 "SpanDesk$Program" "kinds" "[I" "SpanDesk") U ∧ va_Nw (.fieldLinkNest "SpanDesk$Assembly" 55 "SpanDesk$Program" "firsts" "[I" "SpanDesk") U ∧ va_Nw (.fieldLinkNest "SpanDesk$Assembly" 69 "SpanDesk$Program" "seconds" "[I" "SpanDesk") U ∧ va_Nw (.methodLinkNest "SpanDesk$Assembly" 65 ⟨"SpanDesk", "isWithin", "(III)Z"⟩ "SpanDesk") U
section KN
variable {dC : Nat → ClassId} {dI : Nat → Nat → Nat} {cI : ClassId}
theorem nw_0 {U : State} (h : kn_K dC dI cI U) : va_Nw (.fieldLinkNest "SpanDesk" 35 "SpanDesk$Program" "count" "I" "SpanDesk") U := h.2.1
theorem nw_1 {U : State} (h : kn_K dC dI cI U) : va_Nw (.fieldLinkNest "SpanDesk" 70 "SpanDesk$Assembly" "source" "LSpanDesk$Program;" "SpanDesk") U := h.2.2.1
theorem nw_2 {U : State} (h : kn_K dC dI cI U) : va_Nw (.fieldLinkNest "SpanDesk" 76 "SpanDesk$Assembly" "starts" "[I" "SpanDesk") U := h.2.2.2.1
theorem nw_3 {U : State} (h : kn_K dC dI cI U) : va_Nw (.fieldLinkNest "SpanDesk" 80 "SpanDesk$Assembly" "forms" "[I" "SpanDesk") U := h.2.2.2.2.1
theorem nw_4 {U : State} (h : kn_K dC dI cI U) : va_Nw (.fieldLinkNest "SpanDesk" 89 "SpanDesk$Assembly" "values" "[I" "SpanDesk") U := h.2.2.2.2.2.1
theorem nw_5 {U : State} (h : kn_K dC dI cI U) : va_Nw (.fieldLinkNest "SpanDesk$Assembly" 34 "SpanDesk$Program" "count" "I" "SpanDesk") U := h.2.2.2.2.2.2.1
theorem nw_6 {U : State} (h : kn_K dC dI cI U) : va_Nw (.fieldLinkNest "SpanDesk$Assembly" 52 "SpanDesk$Program" "kinds" "[I" "SpanDesk") U := h.2.2.2.2.2.2.2.1
theorem nw_7 {U : State} (h : kn_K dC dI cI U) : va_Nw (.fieldLinkNest "SpanDesk$Assembly" 55 "SpanDesk$Program" "firsts" "[I" "SpanDesk") U := h.2.2.2.2.2.2.2.2.1
theorem nw_8 {U : State} (h : kn_K dC dI cI U) : va_Nw (.fieldLinkNest "SpanDesk$Assembly" 69 "SpanDesk$Program" "seconds" "[I" "SpanDesk") U := h.2.2.2.2.2.2.2.2.2.1
theorem nw_9 {U : State} (h : kn_K dC dI cI U) : va_Nw (.methodLinkNest "SpanDesk$Assembly" 65 ⟨"SpanDesk", "isWithin", "(III)Z"⟩ "SpanDesk") U := h.2.2.2.2.2.2.2.2.2.2
theorem kn_same {u U : State} (h : u.vm = U.vm) (k : kn_K dC dI cI u) : kn_K dC dI cI U := ⟨va_K.moved (by rw [h]; exact Vm.Alike.refl _) k.1, va_Nw.same rfl h (nw_0 k), va_Nw.same rfl h (nw_1 k), va_Nw.same rfl h (nw_2 k), va_Nw.same rfl h (nw_3 k), va_Nw.same rfl h (nw_4 k), va_Nw.same rfl h (nw_5 k), va_Nw.same rfl h (nw_6 k), va_Nw.same rfl h (nw_7 k), va_Nw.same rfl h (nw_8 k), va_Nw.same rfl h (nw_9 k)⟩
theorem kn_warm {s U : State} (hW : s.WarmedH U.vm) (k : kn_K dC dI cI s) : kn_K dC dI cI U := ⟨va_K.moved hW.alike k.1, va_Nw.warmF hW (nw_0 k), va_Nw.warmF hW (nw_1 k), va_Nw.warmF hW (nw_2 k), va_Nw.warmF hW (nw_3 k), va_Nw.warmF hW (nw_4 k), va_Nw.warmF hW (nw_5 k), va_Nw.warmF hW (nw_6 k), va_Nw.warmF hW (nw_7 k), va_Nw.warmF hW (nw_8 k), va_Nw.warmM hW (nw_9 k)⟩
theorem pv_rd {s : State} {H : Heap} {W0 : va_W} {q0 b ci : Nat} {fs : List Value} {C : String} {T : u_T} {N : Nat} {As : List Value} (hN : kn_K dC dI cI s) (hP : va_P (dC, dI) vwCl W0 H) (he : W0[q0]? = some (b, .inr (ci, fs))) (hc : vwCl[ci]? = some (C, T, N)) : PreV s H C b (va_Pc (.ref b :: As) (fun U => va_P (dC, dI) vwCl W0 U.heap ∧ kn_K dC dI cI U)) As :=
  ⟨fun a U g mk q => ⟨q.1, q.2.1, kn_same (u := U) (U := U.calling g mk a) rfl q.2.2⟩, va_recv hN.1 hP hc he, fun U hU hW => ⟨rfl, by rw [hU]; exact hP, kn_warm hW hN⟩⟩
theorem pv_wr {s : State} {H : Heap} {W0 : va_W} {q0 b ci : Nat} {fs : List Value} {C : String} {T : u_T} {N : Nat} {As : List Value} {A0 : Nat → Prop} (hN : kn_K dC dI cI s) (hP : va_P (dC, dI) vwCl W0 H) (hD : va_D A0 W0) (he : W0[q0]? = some (b, .inr (ci, fs))) (hc : vwCl[ci]? = some (C, T, N)) : PreV s H C b (va_Pc (.ref b :: As) (wr_B (dC, dI) vwCl W0 H.size (kn_K dC dI cI))) As :=
  ⟨fun a U g mk q => ⟨q.1, q.2.1, q.2.2.1, q.2.2.2.1, kn_same (u := U) (U := U.calling g mk a) rfl q.2.2.2.2⟩, va_recv hN.1 hP hc he, fun U hU hW => ⟨rfl, by rw [hU], by rw [hU]; exact hP, hD.weaken (fun _ _ _ _ => trivial), kn_warm hW hN⟩⟩
theorem ps_wr {s : State} {H : Heap} {W0 : va_W} {As : List Value} {A0 : Nat → Prop} (hN : kn_K dC dI cI s) (hP : va_P (dC, dI) vwCl W0 H) (hD : va_D A0 W0) : PreS s H (va_Pc As (wr_B (dC, dI) vwCl W0 H.size (kn_K dC dI cI))) As :=
  ⟨fun a U g mk q => ⟨q.1, q.2.1, q.2.2.1, q.2.2.2.1, kn_same (u := U) (U := U.calling g mk a) rfl q.2.2.2.2⟩, fun U hU hW => ⟨rfl, by rw [hU], by rw [hU]; exact hP, hD.weaken (fun _ _ _ _ => trivial), kn_warm hW hN⟩⟩
end KN
end
section
theorem na_i (N : Nat) (cA : ClassId) : vp_cell cA (N, .inl (fun _ => (0 : Int32))) = arrV cA N (fun _ => defaultValue .int) := rfl
theorem na_p {N : Nat} (h : N < 2147483648) : ¬ ji_n (N : Int) < 0 := by rw [← ji_nI]; exact nI_pos (by omega)
section NA
variable {p : Program} {l : Launch} {e : Env} {R : Room} {s : State} {m : MethodId} {args : Array Value} {below : List Frame} {meth : Method} {c : Code} {H : Heap} {locs : List Loc} {cells slots : Nat} {Q : State → Prop}
variable {cc : ByteArray} {pc : Nat} {ls : Array Slot} {rest : List Value} {D : va_G} {cl : List vw_C} {A : Nat → Prop} {tys : List (ClassId × FieldType)} {ws : va_W} {H0 : Heap}
/-- new int[N], of the array class that is known -/
theorem na_new (hexec : p.tables.exec = Jvm.exec) (hb : c.code = cc) (harr : (Cond.arrayClass .int).before args s = true) {cI : ClassId} (hK : va_K D cl [(cI, .int)] s) (hP : va_P D cl ws H) (hD : va_D A ws) (hS : va_S A H0 H locs) (hA : ∀ q, H0.size ≤ q → A q)
    (N : Nat) {z : Int} (hz : z = (N : Int)) (hN : N < 1000) (hcells : cells + 1 ≤ R.cells) (hslots : slots + N ≤ R.slots) (hdg : decode cc pc = .ok (.newarray .int, 2))
    (kk : ∀ (q : Nat) (H1 : Heap), va_P D cl (ws ++ [(q, .inl (cI, N, .inl (fun _ => (0 : Int32))))]) H1 → va_D A (ws ++ [(q, .inl (cI, N, .inl (fun _ => (0 : Int32))))]) → va_S A H0 H1 locs →
      W p l e R s m args below meth c H1 locs (cells + 1) (slots + N) Q (F0 m (pc + 2) ls (.ref q :: rest))) : W p l e R s m args below meth c H locs cells slots Q (F0 m pc ls (.int (ji_n z) :: rest)) := by
  subst hz
  refine va_newa (atype := .int) (ty := .int) hexec hb harr rfl hK hP hD hS hA (na_i N) (na_p (by omega)) (ji_clamp (by omega)) (by show N * 4 ≤ 536870912; omega) hcells hslots hdg (fun q cA H1 hK2 hP1 hD1 hS1 => ?_)
  have h1 : s.vm.findClass ("[" ++ (FieldType.int).toString) = some cI := (hK2.2 0 _ rfl).2
  have h2 : s.vm.findClass ("[" ++ (FieldType.int).toString) = some cA := (hK2.2 1 _ rfl).2
  have hce : cA = cI := Option.some.inj (h2.symm.trans h1)
  subst hce
  exact kk q H1 hP1 hD1 hS1
end NA
end
section
/-! throwing: what a throw needs of the start, beginnings of methods that throw -/
def ex_N : List String := ["java/lang/RuntimeException", "java/lang/Exception"]
def ex_K (A : Nat → Prop) (U : State) (H : Heap) : Prop :=
  vx_Zq Bundle.tN "UNASSIGNED_STACK" Bundle.steD A U H ∧ vx_Zq Bundle.tN "SUPPRESSED_SENTINEL" Bundle.listD A U H ∧
  va_Nw (.castable "java/lang/IllegalArgumentException" "java/lang/IllegalArgumentException") U ∧ va_Nw (.castable "java/lang/IllegalStateException" "java/lang/IllegalStateException") U ∧ va_Nw (.castable "java/lang/IndexOutOfBoundsException" "java/lang/IndexOutOfBoundsException") U ∧
  va_Nw (.declares ⟨"java/lang/RuntimeException", "<init>", "(Ljava/lang/String;)V"⟩) U ∧ va_Nw (.declares ⟨"java/lang/Exception", "<init>", "(Ljava/lang/String;)V"⟩) U ∧ va_Nw (.declares ⟨"java/lang/Throwable", "<init>", "(Ljava/lang/String;)V"⟩) U ∧
  (∃ sa, vk_R "SpanDesk" 45 "a label is defined twice" sa U) ∧ (∃ sa, vk_R "SpanDesk" 55 "a label that is named is not defined" sa U) ∧ (∃ sa, vk_R "SpanDesk" 97 "no whole operation is there" sa U) ∧
  va_Nc "java/lang/IllegalStateException" "java/lang/IllegalArgumentException" U
theorem ex_warm {A : Nat → Prop} {s U : State} {H : Heap} (hW : s.WarmedH U.vm) (h : ex_K A s H) : ex_K A U H := by
  obtain ⟨h1, h2, h3, h4, h5, h6, h7, h8, ⟨a, h9⟩, ⟨b, h10⟩, ⟨c, h11⟩, h12⟩ := h
  exact ⟨h1.moved hW.alike, h2.moved hW.alike, va_Nw.warmC hW h3, va_Nw.warmC hW h4, va_Nw.warmC hW h5, va_Nw.warmD hW h6, va_Nw.warmD hW h7, va_Nw.warmD hW h8, ⟨a, vk_R.warm hW h9⟩, ⟨b, vk_R.warm hW h10⟩, ⟨c, vk_R.warm hW h11⟩, h12.moved hW.alike⟩
theorem ex_same {A : Nat → Prop} {u U : State} {H : Heap} (hv : u.vm = U.vm) (h : ex_K A u H) : ex_K A U H := by
  obtain ⟨h1, h2, h3, h4, h5, h6, h7, h8, ⟨a, h9⟩, ⟨b, h10⟩, ⟨c, h11⟩, h12⟩ := h
  have ha : u.vm.Alike U.vm := by rw [hv]; exact Vm.Alike.refl _
  exact ⟨h1.moved ha, h2.moved ha, va_Nw.same rfl hv h3, va_Nw.same rfl hv h4, va_Nw.same rfl hv h5, va_Nw.same rfl hv h6, va_Nw.same rfl hv h7, va_Nw.same rfl hv h8, ⟨a, vk_R.same hv.symm h9⟩, ⟨b, vk_R.same hv.symm h10⟩, ⟨c, vk_R.same hv.symm h11⟩, h12.moved ha⟩
theorem ex_kept {A : Nat → Prop} {U : State} {H H1 : Heap} (h : ex_K A U H) (hq : ∀ a : Nat, a < H.size → ¬ A a → H1[a]? = H[a]?) : ex_K A U H1 := ⟨h.1.kept hq, h.2.1.kept hq, h.2.2⟩
theorem ex_narrow {A B : Nat → Prop} {U : State} {H : Heap} (h : ex_K A U H) (hq : ∀ q, B q → A q) : ex_K B U H := ⟨h.1.narrow hq, h.2.1.narrow hq, h.2.2⟩
/-- the words of a throw: good ones of the tables, or carried -/
def ex_B : List Cond := [.declares ⟨"java/lang/RuntimeException", "<init>", "(Ljava/lang/String;)V"⟩, .declares ⟨"java/lang/Exception", "<init>", "(Ljava/lang/String;)V"⟩, .declares ⟨"java/lang/Throwable", "<init>", "(Ljava/lang/String;)V"⟩]
theorem xw_1 : ∀ w ∈ (vx_atS "SpanDesk" 47 "java/lang/IllegalArgumentException" ex_N).filter goodWord, w ∈ tb_W := by decide +kernel
theorem xw_2 : ∀ w ∈ (vx_atS "SpanDesk" 57 "java/lang/IllegalStateException" ex_N).filter goodWord, w ∈ tb_W := by decide +kernel
theorem xw_3 : ∀ w ∈ (vx_atS "SpanDesk" 99 "java/lang/IndexOutOfBoundsException" ex_N).filter goodWord, w ∈ tb_W := by decide +kernel
theorem xv_1 : ∀ w ∈ (vx_atS "SpanDesk" 47 "java/lang/IllegalArgumentException" ex_N).filter (fun w => !goodWord w), w ∈ Cond.castable "java/lang/IllegalArgumentException" "java/lang/IllegalArgumentException" :: ex_B := by decide +kernel
theorem xv_2 : ∀ w ∈ (vx_atS "SpanDesk" 57 "java/lang/IllegalStateException" ex_N).filter (fun w => !goodWord w), w ∈ Cond.castable "java/lang/IllegalStateException" "java/lang/IllegalStateException" :: ex_B := by decide +kernel
theorem xv_3 : ∀ w ∈ (vx_atS "SpanDesk" 99 "java/lang/IndexOutOfBoundsException" ex_N).filter (fun w => !goodWord w), w ∈ Cond.castable "java/lang/IndexOutOfBoundsException" "java/lang/IndexOutOfBoundsException" :: ex_B := by decide +kernel
theorem xo_1 : ∀ w ∈ Cond.classLink "SpanDesk" 43 "java/lang/IllegalArgumentException" :: Cond.initialized "java/lang/IllegalArgumentException" :: vx_atS "SpanDesk" 47 "java/lang/IllegalArgumentException" ex_N, vx_ot w = true := by decide +kernel
theorem xo_2 : ∀ w ∈ Cond.classLink "SpanDesk" 53 "java/lang/IllegalStateException" :: Cond.initialized "java/lang/IllegalStateException" :: vx_atS "SpanDesk" 57 "java/lang/IllegalStateException" ex_N, vx_ot w = true := by decide +kernel
theorem xo_3 : ∀ w ∈ Cond.classLink "SpanDesk" 95 "java/lang/IndexOutOfBoundsException" :: Cond.initialized "java/lang/IndexOutOfBoundsException" :: vx_atS "SpanDesk" 99 "java/lang/IndexOutOfBoundsException" ex_N, vx_ot w = true := by decide +kernel
theorem ex_all {X : String} {ic : Nat} {args : Array Value} {s : State} {A : Nat → Prop} {H : Heap} (hts : ∀ w ∈ tb_W, w.before args s = true) (hE : ex_K A s H) (h1 : ∀ w ∈ (vx_atS "SpanDesk" ic X ex_N).filter goodWord, w ∈ tb_W) (h2 : ∀ w ∈ (vx_atS "SpanDesk" ic X ex_N).filter (fun w => !goodWord w), w ∈ Cond.castable X X :: ex_B) (hc : va_Nw (.castable X X) s) : ∀ w ∈ vx_atS "SpanDesk" ic X ex_N, w.before args s = true :=
  vx_hat (fun w h => hts w (h1 w h)) h2 (vx_c (va_Nw.use rfl hc) (vx_c (va_Nw.use rfl hE.2.2.2.2.2.1) (vx_c (va_Nw.use rfl hE.2.2.2.2.2.2.1) (vx_c (va_Nw.use rfl hE.2.2.2.2.2.2.2.1) vx_n))))
section SX
variable {l : Launch} {y : MethodName} {ws ws' : List Cond} {rm : Room} {cc : ByteArray} {maxL : Nat} {ret : Option FieldType} {av : List Value} {lv : List (Nat × Value)} {D : va_G} {cl : List vw_C} {W0 : va_W} {sz : Nat}
def xr_X (PX : String → Heap → Prop) (A : Nat → Prop) : String → State → State → Prop := vx_X (S := Unit) (fun _ => True) (fun E _ t => PX E t.heap) A
theorem st_xi {B : (Nat → Prop) → State → Prop} {P : Int32 → Heap → Prop} {PX : String → Heap → Prop} {ty : FieldType} (hy : plainName y.cls = true) (hw : ws = Cond.code y cc maxL ret :: ws') (hret : ret = some ty) (hlen : (lg_sl av).length ≤ maxL) (hlv : lv_args 0 av = lv) (hn : ∀ v H, P v H → narrow ty (.int v) = .int v) (hl : l.stackTraces = false) (hrc : rm.cells = 1) (hrs : rm.slots = 6) (hBE : ∀ A U, B A U → ex_K A U U.heap)
    (body : ∀ (p : Program) (e : Env) (s : State) (m : MethodId) (args : Array Value) (below : List Frame) (meth : Method) (c : Code) (R : Room) (Q : State → Prop) (ls : Array Slot) (A : Nat → Prop), p.tables.exec = Jvm.exec → c.code = cc → (∀ w ∈ ws, w.before args s = true) → s.vm.findClass y.cls = some m.cls → c.maxLocals = maxL → R = rm → va_P D cl W0 s.heap → va_D A W0 → (∀ q : Nat, s.heap.size ≤ q → A q) → va_S A s.heap s.heap [] → B A s → lv_has ls maxL lv →
      (∀ (pc : Nat) (ls : Array Slot) (v : Int32) (H : Heap) (locs : List Loc), decode cc pc = .ok (.ireturn, 1) → P v H → va_S A s.heap H locs → W p l e R s m args below meth c H locs 0 0 Q (F0 m pc ls [.int v])) →
      (∀ (pc : Nat) (ls : Array Slot) (H : Heap) (locs : List Loc) (X text : String) (ik is ic sa : Nat), Bundle.fit X = true → (Cond.classLink y.cls ik X).before args s = true → (Cond.initialized X).before args s = true → vk_R y.cls is text sa s → (∀ w ∈ vx_atS y.cls ic X ex_N, w.before args s = true) → (∀ w ∈ Cond.classLink y.cls ik X :: Cond.initialized X :: vx_atS y.cls ic X ex_N, vx_ot w = true) → ls.size = maxL →
        decode cc pc = .ok (.new ik, 3) → decode cc (pc + 3) = .ok (.dup, 1) → decode cc (pc + 4) = .ok (.ldc is, 2) → decode cc (pc + 6) = .ok (.invokespecial ic, 3) → decode cc (pc + 9) = .ok (.athrow, 1) → 5 < R.frames → 82 ≤ R.locals → va_S A s.heap H locs → (∀ H1 : Heap, H.size ≤ H1.size → (∀ q : Nat, q < H.size → H1[q]? = H[q]?) → PX X H1) → W p l e R s m args below meth c H locs 0 0 Q (F0 m pc ls [])) →
      W p l e R s m args below meth c s.heap [] 0 0 Q (F0 m 0 ls [])) :
    vx_Met l y ws rm (va_Pc av (wr_B D cl W0 sz (fun U => B (va_A W0 sz) U))) (wr_Qi P (va_A W0 sz)) (xr_X PX (va_A W0 sz)) 1 6 (va_A W0 sz) := by
  refine vx_ofW hy hw ?_
  intro p e s m args below meth c s₁ Bd hml hout hv
  obtain ⟨rfl, rfl, hP, hD, hB⟩ := hv
  rw [lg_entry_eq]
  have hE := hBE _ _ hB
  refine body p e s m _ below meth c _ _ _ (va_A W0 s.heap.size) Bd.exec Bd.bytes (atoms_spec Bd.pre) (findClass_of_methodNamed Bd.named) hml rfl hP hD.self (fun q h => Or.inr h) va_S.rf hB (hlv ▸ lv_entry av hlen) ?_ ?_
  · intro pc ls v H locs hdg hp hS
    refine W.widen (k := 1) (n := 6) (by omega) (by omega) ?_
    exact vx_ret (W.zret Bd.exec Bd.bytes (Bd.returns.trans hret) (hn v H hp) (fun t ht hW => ⟨⟨v, v, rfl, rfl, by subst ht; exact hp⟩, hS.F ht⟩) hS.2.2 hdg Bd.notSynchronized)
  · intro pc ls H locs X text ik is ic sa hf hk hi hstr hat hgd hsz d0 d3 d4 d6 d9 hfr hlo hS hPX
    refine vx_throwS Bd.exec Bd.bytes hl (names := ex_N) (A := va_A W0 s.heap.size) (findClass_of_methodNamed Bd.named) hf (by decide +kernel) hk hi hstr hat hgd hE.1 hE.2.1 hS (hsz.trans hml.symm) d0 d3 d4 d6 d9 (fun x hx => (hout x hx).elim) (by show 2 + 3 < rm.frames; exact hfr) (by show 0 + (13 * (2 + 1) + 43) ≤ rm.locals; exact hlo) (by show 0 + 1 ≤ rm.cells; rw [hrc]; exact Nat.le_refl _) (by show 0 + 6 ≤ rm.slots; rw [hrs]; exact Nat.le_refl _) Bd.notSynchronized (fun t ha h1 h2 => ⟨(), trivial, hPX t.heap h1 h2, ?_⟩) hS.2.2 (Nat.le_refl _) (Nat.le_refl _)
    exact ⟨Nat.le_trans hS.1 h1, fun q q1 q2 => (h2 q (Nat.lt_of_lt_of_le q1 hS.1)).trans (hS.2.1 q q1 q2)⟩
end SX
end
section
set_option maxHeartbeats 4000000 in
set_option maxRecDepth 100000 in
theorem ct_isWithin (l : Launch) (x lo hi : Int) (r1 : ji_r x) (r2 : ji_r lo) (r3 : ji_r hi) : Met l yX2_isWithin wsX2_isWithin { frames := 0, cells := 0, slots := 0, locals := 0 } (va_Pc [.int (ji_n x), .int (ji_n lo), .int (ji_n hi)] (fun U => True)) (vp_Si (fun r => r = ji_n (sp_wi x lo hi))) 0 0 (fun _ => False) := by
  refine st_rd (cc := cX2_isWithin) (maxL := 3) (ret := some .boolean) (ty := .boolean) (by decide) rfl rfl (Nat.le_of_ble_eq_true rfl) (lv := [(0, .int (ji_n x)), (1, .int (ji_n lo)), (2, .int (ji_n hi))]) rfl (fun v h => by rw [h]; exact nb_b (sp_wi_b _ _ _)) ?_
  intro p e s m args below meth c R Q ls hx hb hts hown hml hR hB hl hend
  have hw := sp_wi_or x lo hi
  refine lv_iload_n hx hb dX2_isWithin_0 rfl (lv_at hl 1 rfl) ?_
  refine lv_iload_n hx hb dX2_isWithin_1 rfl (lv_at hl 0 rfl) ?_
  refine jn_icmp_gt hx hb dX2_isWithin_2 (tgt := 14) rfl r2 r1 (fun hc1 => ?_) (fun hc1 => ?_)
  · skip
    refine jn_iconst hx hb dX2_isWithin_14 ?_
    exact hend _ _ _ dX2_isWithin_15 (congrArg ji_n (by omega))
  · skip
    refine lv_iload_n hx hb dX2_isWithin_5 rfl (lv_at hl 0 rfl) ?_
    refine lv_iload_n hx hb dX2_isWithin_6 rfl (lv_at hl 2 rfl) ?_
    refine jn_icmp_gt hx hb dX2_isWithin_7 (tgt := 14) rfl r1 r3 (fun hc2 => ?_) (fun hc2 => ?_)
    · skip
      refine jn_iconst hx hb dX2_isWithin_14 ?_
      exact hend _ _ _ dX2_isWithin_15 (congrArg ji_n (by omega))
    · skip
      refine jn_iconst hx hb dX2_isWithin_10 ?_
      refine lv_goto hx hb dX2_isWithin_11 (tgt := 15) rfl ?_
      exact hend _ _ _ dX2_isWithin_15 (congrArg ji_n (by omega))

set_option maxHeartbeats 4000000 in
set_option maxRecDepth 100000 in
theorem ct_isLabel (l : Launch) (x : Int) (r1 : ji_r x) : Met l yX2_isLabel wsX2_isLabel { frames := 1, cells := 0, slots := 0, locals := 22 } (va_Pc [.int (ji_n x)] (fun U => True)) (vp_Si (fun r => r = ji_n (sp_wi x 0 15))) 0 0 (fun _ => False) := by
  refine st_rd (cc := cX2_isLabel) (maxL := 1) (ret := some .boolean) (ty := .boolean) (by decide) rfl rfl (Nat.le_of_ble_eq_true rfl) (lv := [(0, .int (ji_n x))]) rfl (fun v h => by rw [h]; exact nb_b (sp_wi_b _ _ _)) ?_
  intro p e s m args below meth c R Q ls hx hb hts hown hml hR hB hl hend
  refine lv_iload_n hx hb dX2_isLabel_0 rfl (lv_at hl 0 rfl) ?_
  refine jn_iconst hx hb dX2_isLabel_1 ?_
  refine jn_bipush hx hb dX2_isLabel_2 (by decide) ?_
  refine cl_rd (va_runS (As := [.int (ji_n x), .int (ji_n 0), .int (ji_n 15)]) (rest := []) ⟨hx, hb, hml, hown, hts⟩ (ct_isWithin l x 0 15 r1 (by unfold ji_r; omega) (by unfold ji_r; omega)) (va_cwS 3 hts (ub_S tm_91 tm_92 tm_1 tm_93) rfl rfl rfl (by decide +kernel) (by rw [hR]; exact ⟨Nat.le_of_ble_eq_true rfl, Nat.le_of_ble_eq_true rfl⟩)) ⟨fun _ _ _ _ q => q, fun U _ _ => ⟨rfl, trivial⟩⟩ rfl rfl hl.1 rfl (lv_room (Nat.le_of_ble_eq_true rfl)) dX2_isLabel_4 ⟨Nat.zero_le _, Nat.zero_le _⟩) ?_
  have hw4 := sp_wi_or x 0 15
  exact hend _ _ _ dX2_isLabel_7 rfl

set_option maxHeartbeats 4000000 in
set_option maxRecDepth 100000 in
theorem ct_isLine (l : Launch) (k a b : Int) (r1 : ji_r k) (r2 : ji_r a) (r3 : ji_r b) : Met l yX2_isLine wsX2_isLine { frames := 2, cells := 0, slots := 0, locals := 42 } (va_Pc [.int (ji_n k), .int (ji_n a), .int (ji_n b)] (fun U => True)) (vp_Si (fun r => r = ji_n (sp_gl k a b))) 0 0 (fun _ => False) := by
  refine st_rd (cc := cX2_isLine) (maxL := 3) (ret := some .boolean) (ty := .boolean) (by decide) rfl rfl (Nat.le_of_ble_eq_true rfl) (lv := [(0, .int (ji_n k)), (1, .int (ji_n a)), (2, .int (ji_n b))]) rfl (fun v h => by rw [h]; exact nb_b (by have := sp_gl_or k a b; omega)) ?_
  intro p e s m args below meth c R Q ls hx hb hts hown hml hR hB hl hend
  have hg := sp_gl_or k a b
  unfold sp_gd at hg
  refine lv_iload_n hx hb dX2_isLine_0 rfl (lv_at hl 0 rfl) ?_
  refine jn_if_ne hx hb dX2_isLine_1 (tgt := 21) rfl r1 (fun hc1 => ?_) (fun hc1 => ?_)
  · skip
    refine lv_iload_n hx hb dX2_isLine_21 rfl (lv_at hl 0 rfl) ?_
    refine jn_iconst hx hb dX2_isLine_22 ?_
    refine jn_icmp_ne hx hb dX2_isLine_23 (tgt := 54) rfl r1 (by unfold ji_r; omega) (fun hc2 => ?_) (fun hc2 => ?_)
    · skip
      refine lv_iload_n hx hb dX2_isLine_54 rfl (lv_at hl 0 rfl) ?_
      refine jn_iconst hx hb dX2_isLine_55 ?_
      refine jn_icmp_ne hx hb dX2_isLine_56 (tgt := 85) rfl r1 (by unfold ji_r; omega) (fun hc3 => ?_) (fun hc3 => ?_)
      · skip
        refine lv_iload_n hx hb dX2_isLine_85 rfl (lv_at hl 0 rfl) ?_
        refine jn_iconst hx hb dX2_isLine_86 ?_
        refine jn_icmp_ne hx hb dX2_isLine_87 (tgt := 111) rfl r1 (by unfold ji_r; omega) (fun hc4 => ?_) (fun hc4 => ?_)
        · skip
          refine jn_iconst hx hb dX2_isLine_111 ?_
          exact hend _ _ _ dX2_isLine_112 (congrArg ji_n (by omega))
        · skip
          refine lv_iload_n hx hb dX2_isLine_90 rfl (lv_at hl 1 rfl) ?_
          refine cl_rd (va_runS (As := [.int (ji_n a)]) (rest := []) ⟨hx, hb, hml, hown, hts⟩ (ct_isLabel l a r2) (va_cwS 1 hts (ub_S tm_88 tm_89 tm_1 tm_90) rfl rfl rfl (by decide +kernel) (by rw [hR]; exact ⟨Nat.le_of_ble_eq_true rfl, Nat.le_of_ble_eq_true rfl⟩)) ⟨fun _ _ _ _ q => q, fun U _ _ => ⟨rfl, trivial⟩⟩ rfl rfl hl.1 rfl (lv_room (Nat.le_of_ble_eq_true rfl)) dX2_isLine_91 ⟨Nat.zero_le _, Nat.zero_le _⟩) ?_
          have hw91 := sp_wi_or a 0 15
          refine jn_if_eq hx hb dX2_isLine_94 (tgt := 111) rfl (by unfold ji_r; omega) (fun hc5 => ?_) (fun hc5 => ?_)
          · skip
            refine jn_iconst hx hb dX2_isLine_111 ?_
            exact hend _ _ _ dX2_isLine_112 (congrArg ji_n (by omega))
          · skip
            refine lv_iload_n hx hb dX2_isLine_97 rfl (lv_at hl 2 rfl) ?_
            refine jn_iconst hx hb dX2_isLine_98 ?_
            refine jn_bipush hx hb dX2_isLine_99 (by decide) ?_
            refine cl_rd (va_runS (As := [.int (ji_n b), .int (ji_n 0), .int (ji_n 7)]) (rest := []) ⟨hx, hb, hml, hown, hts⟩ (ct_isWithin l b 0 7 r3 (by unfold ji_r; omega) (by unfold ji_r; omega)) (va_cwS 3 hts (ub_S tm_91 tm_92 tm_1 tm_93) rfl rfl rfl (by decide +kernel) (by rw [hR]; exact ⟨Nat.le_of_ble_eq_true rfl, Nat.le_of_ble_eq_true rfl⟩)) ⟨fun _ _ _ _ q => q, fun U _ _ => ⟨rfl, trivial⟩⟩ rfl rfl hl.1 rfl (lv_room (Nat.le_of_ble_eq_true rfl)) dX2_isLine_101 ⟨Nat.zero_le _, Nat.zero_le _⟩) ?_
            have hw101 := sp_wi_or b 0 7
            refine jn_if_eq hx hb dX2_isLine_104 (tgt := 111) rfl (by unfold ji_r; omega) (fun hc6 => ?_) (fun hc6 => ?_)
            · skip
              refine jn_iconst hx hb dX2_isLine_111 ?_
              exact hend _ _ _ dX2_isLine_112 (congrArg ji_n (by omega))
            · skip
              refine jn_iconst hx hb dX2_isLine_107 ?_
              refine lv_goto hx hb dX2_isLine_108 (tgt := 112) rfl ?_
              exact hend _ _ _ dX2_isLine_112 (congrArg ji_n (by omega))
      · skip
        refine lv_iload_n hx hb dX2_isLine_59 rfl (lv_at hl 1 rfl) ?_
        refine cl_rd (va_runS (As := [.int (ji_n a)]) (rest := []) ⟨hx, hb, hml, hown, hts⟩ (ct_isLabel l a r2) (va_cwS 1 hts (ub_S tm_88 tm_89 tm_1 tm_90) rfl rfl rfl (by decide +kernel) (by rw [hR]; exact ⟨Nat.le_of_ble_eq_true rfl, Nat.le_of_ble_eq_true rfl⟩)) ⟨fun _ _ _ _ q => q, fun U _ _ => ⟨rfl, trivial⟩⟩ rfl rfl hl.1 rfl (lv_room (Nat.le_of_ble_eq_true rfl)) dX2_isLine_60 ⟨Nat.zero_le _, Nat.zero_le _⟩) ?_
        have hw60 := sp_wi_or a 0 15
        refine jn_if_eq hx hb dX2_isLine_63 (tgt := 83) rfl (by unfold ji_r; omega) (fun hc7 => ?_) (fun hc7 => ?_)
        · skip
          refine jn_iconst hx hb dX2_isLine_83 ?_
          exact hend _ _ _ dX2_isLine_84 (congrArg ji_n (by omega))
        · skip
          refine lv_iload_n hx hb dX2_isLine_66 rfl (lv_at hl 2 rfl) ?_
          refine jn_sipush hx hb dX2_isLine_67 (by decide) ?_
          refine jn_sipush hx hb dX2_isLine_70 (by decide) ?_
          refine cl_rd (va_runS (As := [.int (ji_n b), .int (ji_n (-1000)), .int (ji_n 1000)]) (rest := []) ⟨hx, hb, hml, hown, hts⟩ (ct_isWithin l b (-1000) 1000 r3 (by unfold ji_r; omega) (by unfold ji_r; omega)) (va_cwS 3 hts (ub_S tm_91 tm_92 tm_1 tm_93) rfl rfl rfl (by decide +kernel) (by rw [hR]; exact ⟨Nat.le_of_ble_eq_true rfl, Nat.le_of_ble_eq_true rfl⟩)) ⟨fun _ _ _ _ q => q, fun U _ _ => ⟨rfl, trivial⟩⟩ rfl rfl hl.1 rfl (lv_room (Nat.le_of_ble_eq_true rfl)) dX2_isLine_73 ⟨Nat.zero_le _, Nat.zero_le _⟩) ?_
          have hw73 := sp_wi_or b (-1000) 1000
          refine jn_if_eq hx hb dX2_isLine_76 (tgt := 83) rfl (by unfold ji_r; omega) (fun hc8 => ?_) (fun hc8 => ?_)
          · skip
            refine jn_iconst hx hb dX2_isLine_83 ?_
            exact hend _ _ _ dX2_isLine_84 (congrArg ji_n (by omega))
          · skip
            refine jn_iconst hx hb dX2_isLine_79 ?_
            refine lv_goto hx hb dX2_isLine_80 (tgt := 84) rfl ?_
            exact hend _ _ _ dX2_isLine_84 (congrArg ji_n (by omega))
    · skip
      refine lv_iload_n hx hb dX2_isLine_26 rfl (lv_at hl 1 rfl) ?_
      refine jn_iconst hx hb dX2_isLine_27 ?_
      refine jn_sipush hx hb dX2_isLine_28 (by decide) ?_
      refine cl_rd (va_runS (As := [.int (ji_n a), .int (ji_n 1), .int (ji_n 200)]) (rest := []) ⟨hx, hb, hml, hown, hts⟩ (ct_isWithin l a 1 200 r2 (by unfold ji_r; omega) (by unfold ji_r; omega)) (va_cwS 3 hts (ub_S tm_91 tm_92 tm_1 tm_93) rfl rfl rfl (by decide +kernel) (by rw [hR]; exact ⟨Nat.le_of_ble_eq_true rfl, Nat.le_of_ble_eq_true rfl⟩)) ⟨fun _ _ _ _ q => q, fun U _ _ => ⟨rfl, trivial⟩⟩ rfl rfl hl.1 rfl (lv_room (Nat.le_of_ble_eq_true rfl)) dX2_isLine_31 ⟨Nat.zero_le _, Nat.zero_le _⟩) ?_
      have hw31 := sp_wi_or a 1 200
      refine jn_if_eq hx hb dX2_isLine_34 (tgt := 52) rfl (by unfold ji_r; omega) (fun hc9 => ?_) (fun hc9 => ?_)
      · skip
        refine jn_iconst hx hb dX2_isLine_52 ?_
        exact hend _ _ _ dX2_isLine_53 (congrArg ji_n (by omega))
      · skip
        refine lv_iload_n hx hb dX2_isLine_37 rfl (lv_at hl 2 rfl) ?_
        refine jn_iconst hx hb dX2_isLine_38 ?_
        refine jn_sipush hx hb dX2_isLine_39 (by decide) ?_
        refine cl_rd (va_runS (As := [.int (ji_n b), .int (ji_n 0), .int (ji_n 255)]) (rest := []) ⟨hx, hb, hml, hown, hts⟩ (ct_isWithin l b 0 255 r3 (by unfold ji_r; omega) (by unfold ji_r; omega)) (va_cwS 3 hts (ub_S tm_91 tm_92 tm_1 tm_93) rfl rfl rfl (by decide +kernel) (by rw [hR]; exact ⟨Nat.le_of_ble_eq_true rfl, Nat.le_of_ble_eq_true rfl⟩)) ⟨fun _ _ _ _ q => q, fun U _ _ => ⟨rfl, trivial⟩⟩ rfl rfl hl.1 rfl (lv_room (Nat.le_of_ble_eq_true rfl)) dX2_isLine_42 ⟨Nat.zero_le _, Nat.zero_le _⟩) ?_
        have hw42 := sp_wi_or b 0 255
        refine jn_if_eq hx hb dX2_isLine_45 (tgt := 52) rfl (by unfold ji_r; omega) (fun hc10 => ?_) (fun hc10 => ?_)
        · skip
          refine jn_iconst hx hb dX2_isLine_52 ?_
          exact hend _ _ _ dX2_isLine_53 (congrArg ji_n (by omega))
        · skip
          refine jn_iconst hx hb dX2_isLine_48 ?_
          refine lv_goto hx hb dX2_isLine_49 (tgt := 53) rfl ?_
          exact hend _ _ _ dX2_isLine_53 (congrArg ji_n (by omega))
  · skip
    refine lv_iload_n hx hb dX2_isLine_4 rfl (lv_at hl 1 rfl) ?_
    refine cl_rd (va_runS (As := [.int (ji_n a)]) (rest := []) ⟨hx, hb, hml, hown, hts⟩ (ct_isLabel l a r2) (va_cwS 1 hts (ub_S tm_88 tm_89 tm_1 tm_90) rfl rfl rfl (by decide +kernel) (by rw [hR]; exact ⟨Nat.le_of_ble_eq_true rfl, Nat.le_of_ble_eq_true rfl⟩)) ⟨fun _ _ _ _ q => q, fun U _ _ => ⟨rfl, trivial⟩⟩ rfl rfl hl.1 rfl (lv_room (Nat.le_of_ble_eq_true rfl)) dX2_isLine_5 ⟨Nat.zero_le _, Nat.zero_le _⟩) ?_
    have hw5 := sp_wi_or a 0 15
    refine jn_if_eq hx hb dX2_isLine_8 (tgt := 19) rfl (by unfold ji_r; omega) (fun hc11 => ?_) (fun hc11 => ?_)
    · skip
      refine jn_iconst hx hb dX2_isLine_19 ?_
      exact hend _ _ _ dX2_isLine_20 (congrArg ji_n (by omega))
    · skip
      refine lv_iload_n hx hb dX2_isLine_11 rfl (lv_at hl 2 rfl) ?_
      refine jn_if_ne hx hb dX2_isLine_12 (tgt := 19) rfl r3 (fun hc12 => ?_) (fun hc12 => ?_)
      · skip
        refine jn_iconst hx hb dX2_isLine_19 ?_
        exact hend _ _ _ dX2_isLine_20 (congrArg ji_n (by omega))
      · skip
        refine jn_iconst hx hb dX2_isLine_15 ?_
        refine lv_goto hx hb dX2_isLine_16 (tgt := 20) rfl ?_
        exact hend _ _ _ dX2_isLine_20 (congrArg ji_n (by omega))
end
section
set_option maxHeartbeats 4000000 in
set_option maxRecDepth 100000 in
theorem ct_has (l : Launch) (dC : Nat → ClassId) (dI : Nat → Nat → Nat) (cI : ClassId) (v : Nat → Nat) (n : Nat) (f0 f1 f2 : Nat → Int32) (x : Int) (r1 : ji_r x) (hn : n ≤ 50) : Met l yX1_has wsX1_has { frames := 0, cells := 0, slots := 0, locals := 0 } (va_Pc [.ref (v 0), .int (ji_n x)] (fun U => va_P (dC, dI) vwCl (wo_P v cI n f0 f1 f2) U.heap ∧ kn_K dC dI cI U)) (vp_Si (fun r => r = ji_n (sp_wi x 0 ((n : Int) - 1)))) 0 0 (fun _ => False) := by
  refine st_rd (cc := cX1_has) (maxL := 2) (ret := some .boolean) (ty := .boolean) (by decide) rfl rfl (Nat.le_of_ble_eq_true rfl) (lv := [(0, .ref (v 0)), (1, .int (ji_n x))]) rfl (fun v h => by rw [h]; exact nb_b (sp_wi_b _ _ _)) ?_
  intro p e s m args below meth c R Q ls hx hb hts hown hml hR hB hl hend
  obtain ⟨hP, hN⟩ := hB
  have hK := hN.1
  have hinX1 : ∀ w ∈ u_ws RX1 TX1 4, w ∈ wsX1_has := fun w h => List.mem_cons_of_mem _ (inX1 w h)
  have hfl21 := (hts _ (List.mem_cons_of_mem _ tm_33))
  have hw := sp_wi_or x 0 ((n : Int) - 1)
  refine jn_iconst hx hb dX1_has_0 ?_
  refine lv_iload_n hx hb dX1_has_1 rfl (lv_at hl 1 rfl) ?_
  refine jn_icmp_gt hx hb dX1_has_2 (tgt := 17) rfl (by unfold ji_r; omega) r1 (fun hc1 => ?_) (fun hc1 => ?_)
  · skip
    refine jn_iconst hx hb dX1_has_17 ?_
    exact hend _ _ _ dX1_has_18 (congrArg ji_n (by omega))
  · skip
    refine lv_iload_n hx hb dX1_has_5 rfl (lv_at hl 1 rfl) ?_
    refine lv_aload_n hx hb dX1_has_6 rfl (lv_at hl 0 rfl) ?_
    refine va_get (ci := 1) (C := RX1) (T := TX1) (N := 4) hx hb hts hinX1 hown hK hP 0 rfl rfl 3 (by decide) hfl21 (fun _ h9 => h9) rfl dX1_has_7 ?_
    refine jn_icmp_ge hx hb dX1_has_10 (tgt := 17) rfl r1 (by unfold ji_r; omega) (fun hc2 => ?_) (fun hc2 => ?_)
    · skip
      refine jn_iconst hx hb dX1_has_17 ?_
      exact hend _ _ _ dX1_has_18 (congrArg ji_n (by omega))
    · skip
      refine jn_iconst hx hb dX1_has_13 ?_
      refine lv_goto hx hb dX1_has_14 (tgt := 18) rfl ?_
      exact hend _ _ _ dX1_has_18 (congrArg ji_n (by omega))

set_option maxHeartbeats 4000000 in
set_option maxRecDepth 100000 in
theorem ct_countDefined (l : Launch) (dC : Nat → ClassId) (dI : Nat → Nat → Nat) (cI : ClassId) (v : Nat → Nat) (n : Nat) (f0 f1 f2 : Nat → Int32) (K A B : Nat → Int) (hn : n ≤ 50) (hg : sp_gp K A B n) (h0 : ∀ j, j < n → f0 j = ji_n (K j)) (h1 : ∀ j, j < n → f1 j = ji_n (A j)) (x : Int) (r1 : ji_r x) : Met l yX1_countDefined wsX1_countDefined { frames := 0, cells := 0, slots := 0, locals := 0 } (va_Pc [.ref (v 0), .int (ji_n x)] (fun U => va_P (dC, dI) vwCl (wo_P v cI n f0 f1 f2) U.heap ∧ kn_K dC dI cI U)) (vp_Si (fun r => r = ji_n (sp_dn K A x n))) 0 0 (fun _ => False) := by
  refine st_rd (cc := cX1_countDefined) (maxL := 4) (ret := some .int) (ty := .int) (by decide) rfl rfl (Nat.le_of_ble_eq_true rfl) (lv := [(0, .ref (v 0)), (1, .int (ji_n x))]) rfl (fun v h => rfl) ?_
  intro p e s m args below meth c R Q ls hx hb hts hown hml hR hB hl hend
  obtain ⟨hP, hN⟩ := hB
  have hK := hN.1
  have hinX1 : ∀ w ∈ u_ws RX1 TX1 4, w ∈ wsX1_countDefined := fun w h => List.mem_cons_of_mem _ (inX1 w h)
  have hfl9 := (hts _ (List.mem_cons_of_mem _ tm_27))
  have hfl15 := (hts _ (List.mem_cons_of_mem _ tm_29))
  have hfl21 := (hts _ (List.mem_cons_of_mem _ tm_33))
  refine jn_iconst hx hb dX1_countDefined_0 ?_
  refine lv_istore_n (lv' := [(2, .int (ji_n 0)), (0, .ref (v 0)), (1, .int (ji_n x))]) hx hb dX1_countDefined_1 rfl hl (by decide) rfl (fun ls hl => ?_)
  refine jn_iconst hx hb dX1_countDefined_2 ?_
  refine lv_istore_n (lv' := [(3, .int (ji_n 0)), (2, .int (ji_n 0)), (0, .ref (v 0)), (1, .int (ji_n x))]) hx hb dX1_countDefined_3 rfl hl (by decide) rfl (fun ls hl => ?_)
  have loop1 : ∀ i : Nat, i ≤ n → ∀ ls : Array Slot, lv_has ls 4 [(3, .int (ji_n (i : Int))), (2, .int (ji_n (sp_dn K A x i))), (0, .ref (v 0)), (1, .int (ji_n x))] → W p l e R s m args below meth c s.heap [] 0 0 Q (F0 m 4 ls []) := by
    refine lp_up n ?_
    intro i hi_i ih2 ls hl
    have hd := sp_dn_b K A x i
    refine lv_iload_n hx hb dX1_countDefined_4 rfl (lv_at hl 0 rfl) ?_
    refine lv_aload_n hx hb dX1_countDefined_5 rfl (lv_at hl 2 rfl) ?_
    refine va_get (ci := 1) (C := RX1) (T := TX1) (N := 4) hx hb hts hinX1 hown hK hP 0 rfl rfl 3 (by decide) hfl21 (fun _ h9 => h9) rfl dX1_countDefined_6 ?_
    refine jn_icmp_ge hx hb dX1_countDefined_9 (tgt := 40) rfl (by unfold ji_r; omega) (by unfold ji_r; omega) (fun hc3 => ?_) (fun hc3 => ?_)
    · skip
      have he : i = n := by omega
      refine lv_iload_n hx hb dX1_countDefined_40 rfl (lv_at hl 1 rfl) ?_
      exact hend _ _ _ dX1_countDefined_41 (congrArg ji_n (by rw [he]))
    · skip
      have hgi := hg i (by omega)
      unfold sp_gd at hgi
      refine lv_aload_n hx hb dX1_countDefined_12 rfl (lv_at hl 2 rfl) ?_
      refine va_get (ci := 1) (C := RX1) (T := TX1) (N := 4) hx hb hts hinX1 hown hK hP 0 rfl rfl 0 (by decide) hfl9 (fun _ h9 => h9) rfl dX1_countDefined_13 ?_
      refine lv_iload_n hx hb dX1_countDefined_16 rfl (lv_at hl 0 rfl) ?_
      refine jn_iald hx hb hK hP 1 0 rfl rfl i (by omega) (by omega) (by decide) (v := K i) (h0 i (by omega)) dX1_countDefined_17 ?_
      refine jn_if_ne hx hb dX1_countDefined_18 (tgt := 34) rfl (by unfold ji_r; omega) (fun hc4 => ?_) (fun hc4 => ?_)
      · skip
        refine jn_iinc (lv' := [(3, .int (ji_n ((i : Int) + 1))), (2, .int (ji_n (sp_dn K A x i))), (0, .ref (v 0)), (1, .int (ji_n x))]) (k := 0) (v := (i : Int) + 1) hx hb dX1_countDefined_34 hl rfl rfl (by decide) rfl (fun ls hl => ?_)
        refine lv_goto hx hb dX1_countDefined_37 (tgt := 4) rfl ?_
        have hl : lv_has ls 4 [(3, .int (ji_n ((i + 1 : Nat) : Int))), (2, .int (ji_n (sp_dn K A x (i + 1)))), (0, .ref (v 0)), (1, .int (ji_n x))] := by
          have hl2 := lv_sub hl (l' := [(3, .int (ji_n ((i : Int) + 1))), (2, .int (ji_n (sp_dn K A x i))), (0, .ref (v 0)), (1, .int (ji_n x))]) [0, 1, 2, 3] rfl
          rw [show (ji_n ((i : Int) + 1)) = (ji_n ((i + 1 : Nat) : Int)) from (congrArg ji_n (by omega))] at hl2
          rw [show (ji_n (sp_dn K A x i)) = (ji_n (sp_dn K A x (i + 1))) from (congrArg ji_n (by rw [sp_dn_s]; split <;> omega))] at hl2
          exact hl2
        exact ih2 (by omega) ls hl 
      · skip
        refine lv_aload_n hx hb dX1_countDefined_21 rfl (lv_at hl 2 rfl) ?_
        refine va_get (ci := 1) (C := RX1) (T := TX1) (N := 4) hx hb hts hinX1 hown hK hP 0 rfl rfl 1 (by decide) hfl15 (fun _ h9 => h9) rfl dX1_countDefined_22 ?_
        refine lv_iload_n hx hb dX1_countDefined_25 rfl (lv_at hl 0 rfl) ?_
        refine jn_iald hx hb hK hP 2 0 rfl rfl i (by omega) (by omega) (by decide) (v := A i) (h1 i (by omega)) dX1_countDefined_26 ?_
        refine lv_iload_n hx hb dX1_countDefined_27 rfl (lv_at hl 3 rfl) ?_
        refine jn_icmp_ne hx hb dX1_countDefined_28 (tgt := 34) rfl (by unfold ji_r; omega) r1 (fun hc5 => ?_) (fun hc5 => ?_)
        · skip
          refine jn_iinc (lv' := [(3, .int (ji_n ((i : Int) + 1))), (2, .int (ji_n (sp_dn K A x i))), (0, .ref (v 0)), (1, .int (ji_n x))]) (k := 0) (v := (i : Int) + 1) hx hb dX1_countDefined_34 hl rfl rfl (by decide) rfl (fun ls hl => ?_)
          refine lv_goto hx hb dX1_countDefined_37 (tgt := 4) rfl ?_
          have hl : lv_has ls 4 [(3, .int (ji_n ((i + 1 : Nat) : Int))), (2, .int (ji_n (sp_dn K A x (i + 1)))), (0, .ref (v 0)), (1, .int (ji_n x))] := by
            have hl2 := lv_sub hl (l' := [(3, .int (ji_n ((i : Int) + 1))), (2, .int (ji_n (sp_dn K A x i))), (0, .ref (v 0)), (1, .int (ji_n x))]) [0, 1, 2, 3] rfl
            rw [show (ji_n ((i : Int) + 1)) = (ji_n ((i + 1 : Nat) : Int)) from (congrArg ji_n (by omega))] at hl2
            rw [show (ji_n (sp_dn K A x i)) = (ji_n (sp_dn K A x (i + 1))) from (congrArg ji_n (by rw [sp_dn_s]; split <;> omega))] at hl2
            exact hl2
          exact ih2 (by omega) ls hl 
        · skip
          refine jn_iinc (lv' := [(2, .int (ji_n ((sp_dn K A x i) + 1))), (3, .int (ji_n (i : Int))), (0, .ref (v 0)), (1, .int (ji_n x))]) (k := 1) (v := (sp_dn K A x i) + 1) hx hb dX1_countDefined_31 hl rfl rfl (by decide) rfl (fun ls hl => ?_)
          refine jn_iinc (lv' := [(3, .int (ji_n ((i : Int) + 1))), (2, .int (ji_n ((sp_dn K A x i) + 1))), (0, .ref (v 0)), (1, .int (ji_n x))]) (k := 1) (v := (i : Int) + 1) hx hb dX1_countDefined_34 hl rfl rfl (by decide) rfl (fun ls hl => ?_)
          refine lv_goto hx hb dX1_countDefined_37 (tgt := 4) rfl ?_
          have hl : lv_has ls 4 [(3, .int (ji_n ((i + 1 : Nat) : Int))), (2, .int (ji_n (sp_dn K A x (i + 1)))), (0, .ref (v 0)), (1, .int (ji_n x))] := by
            have hl2 := lv_sub hl (l' := [(3, .int (ji_n ((i : Int) + 1))), (2, .int (ji_n ((sp_dn K A x i) + 1))), (0, .ref (v 0)), (1, .int (ji_n x))]) [0, 1, 2, 3] rfl
            rw [show (ji_n ((i : Int) + 1)) = (ji_n ((i + 1 : Nat) : Int)) from (congrArg ji_n (by omega))] at hl2
            rw [show (ji_n ((sp_dn K A x i) + 1)) = (ji_n (sp_dn K A x (i + 1))) from (congrArg ji_n (by rw [sp_dn_s]; split <;> omega))] at hl2
            exact hl2
          exact ih2 (by omega) ls hl 
  have hl : lv_has ls 4 [(3, .int (ji_n ((0 : Nat) : Int))), (2, .int (ji_n (sp_dn K A x 0))), (0, .ref (v 0)), (1, .int (ji_n x))] := lv_sub hl [0, 1, 2, 3] rfl
  exact loop1 0 (by omega) ls hl 

set_option maxHeartbeats 4000000 in
set_option maxRecDepth 100000 in
theorem ct_definesTwice (l : Launch) (dC : Nat → ClassId) (dI : Nat → Nat → Nat) (cI : ClassId) (v : Nat → Nat) (n : Nat) (f0 f1 f2 : Nat → Int32) (K A B : Nat → Int) (hn : n ≤ 50) (hg : sp_gp K A B n) (h0 : ∀ j, j < n → f0 j = ji_n (K j)) (h1 : ∀ j, j < n → f1 j = ji_n (A j)) : Met l yX1_definesTwice wsX1_definesTwice { frames := 1, cells := 0, slots := 0, locals := 23 } (va_Pc [.ref (v 0)] (fun U => va_P (dC, dI) vwCl (wo_P v cI n f0 f1 f2) U.heap ∧ kn_K dC dI cI U)) (vp_Si (fun r => (r = ji_n 1 ∧ sp_tw n K A) ∨ (r = ji_n 0 ∧ ¬ sp_tw n K A))) 0 0 (fun _ => False) := by
  refine st_rd (cc := cX1_definesTwice) (maxL := 2) (ret := some .boolean) (ty := .boolean) (by decide) rfl rfl (Nat.le_of_ble_eq_true rfl) (lv := [(0, .ref (v 0))]) rfl (fun v h => by rcases h with ⟨h, -⟩ | ⟨h, -⟩ <;> rw [h] <;> rfl) ?_
  intro p e s m args below meth c R Q ls hx hb hts hown hml hR hB hl hend
  obtain ⟨hP, hN⟩ := hB
  have hK := hN.1
  refine jn_iconst hx hb dX1_definesTwice_0 ?_
  refine lv_istore_n (lv' := [(1, .int (ji_n 0)), (0, .ref (v 0))]) hx hb dX1_definesTwice_1 rfl hl (by decide) rfl (fun ls hl => ?_)
  have loop1 : ∀ i : Nat, i ≤ 16 → ∀ ls : Array Slot, lv_has ls 2 [(1, .int (ji_n (i : Int))), (0, .ref (v 0))] → (∀ x : Nat, x < i → sp_dn K A (x : Int) n ≤ 1) → W p l e R s m args below meth c s.heap [] 0 0 Q (F0 m 2 ls []) := by
    refine lp_up 16 ?_
    intro i hi_i ih2 ls hl hq
    refine lv_iload_n hx hb dX1_definesTwice_2 rfl (lv_at hl 0 rfl) ?_
    refine jn_bipush hx hb dX1_definesTwice_3 (by decide) ?_
    refine jn_icmp_ge hx hb dX1_definesTwice_5 (tgt := 25) rfl (by unfold ji_r; omega) (by unfold ji_r; omega) (fun hc3 => ?_) (fun hc3 => ?_)
    · skip
      refine jn_iconst hx hb dX1_definesTwice_25 ?_
      exact hend _ _ _ dX1_definesTwice_26 (Or.inr ⟨rfl, fun ⟨x, q1, q2⟩ => by have := hq x (by omega); omega⟩)
    · skip
      refine lv_aload_n hx hb dX1_definesTwice_8 rfl (lv_at hl 1 rfl) ?_
      refine lv_iload_n hx hb dX1_definesTwice_9 rfl (lv_at hl 0 rfl) ?_
      refine cl_rd (va_runV (As := [.int (ji_n (i : Int))]) (rest := []) ⟨hx, hb, hml, hown, hts⟩ (ct_countDefined l dC dI cI v n f0 f1 f2 K A B hn hg h0 h1 (i : Int) (by unfold ji_r; omega)) (cwV 1 hts (ub_V tm_215 tm_217 tm_s6 tm_2 tm_218) rfl rfl rfl (by decide +kernel) (by rw [hR]; exact ⟨Nat.le_of_ble_eq_true rfl, Nat.le_of_ble_eq_true rfl⟩)) (pv_rd (q0 := 0) (ci := 1) hN hP rfl rfl) rfl rfl hl.1 rfl (lv_room (Nat.le_of_ble_eq_true rfl)) dX1_definesTwice_10 ⟨Nat.zero_le _, Nat.zero_le _⟩) ?_
      have hd10 := sp_dn_b K A (i : Int) n
      refine jn_iconst hx hb dX1_definesTwice_13 ?_
      refine jn_icmp_le hx hb dX1_definesTwice_14 (tgt := 19) rfl (by unfold ji_r; omega) (by unfold ji_r; omega) (fun hc4 => ?_) (fun hc4 => ?_)
      · skip
        refine jn_iinc (lv' := [(1, .int (ji_n ((i : Int) + 1))), (0, .ref (v 0))]) (k := 0) (v := (i : Int) + 1) hx hb dX1_definesTwice_19 hl rfl rfl (by decide) rfl (fun ls hl => ?_)
        refine lv_goto hx hb dX1_definesTwice_22 (tgt := 2) rfl ?_
        have hl : lv_has ls 2 [(1, .int (ji_n ((i + 1 : Nat) : Int))), (0, .ref (v 0))] := by
          have hl2 := lv_sub hl (l' := [(1, .int (ji_n ((i : Int) + 1))), (0, .ref (v 0))]) [0, 1] rfl
          rw [show (ji_n ((i : Int) + 1)) = (ji_n ((i + 1 : Nat) : Int)) from (congrArg ji_n (by omega))] at hl2
          exact hl2
        exact ih2 (by omega) ls hl (fun x h => by rcases Nat.lt_succ_iff_lt_or_eq.mp h with h | h; exact hq x h; rw [h]; omega)
      · skip
        refine jn_iconst hx hb dX1_definesTwice_17 ?_
        exact hend _ _ _ dX1_definesTwice_18 (Or.inl ⟨rfl, i, by omega, by omega⟩)
  have hl : lv_has ls 2 [(1, .int (ji_n ((0 : Nat) : Int))), (0, .ref (v 0))] := lv_sub hl [0, 1] rfl
  exact loop1 0 (by omega) ls hl (fun x h => absurd h (Nat.not_lt_zero x))

set_option maxHeartbeats 4000000 in
set_option maxRecDepth 100000 in
theorem ct_namesUndefined (l : Launch) (dC : Nat → ClassId) (dI : Nat → Nat → Nat) (cI : ClassId) (v : Nat → Nat) (n : Nat) (f0 f1 f2 : Nat → Int32) (K A B : Nat → Int) (hn : n ≤ 50) (hg : sp_gp K A B n) (h0 : ∀ j, j < n → f0 j = ji_n (K j)) (h1 : ∀ j, j < n → f1 j = ji_n (A j)) : Met l yX1_namesUndefined wsX1_namesUndefined { frames := 1, cells := 0, slots := 0, locals := 23 } (va_Pc [.ref (v 0)] (fun U => va_P (dC, dI) vwCl (wo_P v cI n f0 f1 f2) U.heap ∧ kn_K dC dI cI U)) (vp_Si (fun r => (r = ji_n 1 ∧ sp_un n K A) ∨ (r = ji_n 0 ∧ ¬ sp_un n K A))) 0 0 (fun _ => False) := by
  refine st_rd (cc := cX1_namesUndefined) (maxL := 3) (ret := some .boolean) (ty := .boolean) (by decide) rfl rfl (Nat.le_of_ble_eq_true rfl) (lv := [(0, .ref (v 0))]) rfl (fun v h => by rcases h with ⟨h, -⟩ | ⟨h, -⟩ <;> rw [h] <;> rfl) ?_
  intro p e s m args below meth c R Q ls hx hb hts hown hml hR hB hl hend
  obtain ⟨hP, hN⟩ := hB
  have hK := hN.1
  have hinX1 : ∀ w ∈ u_ws RX1 TX1 4, w ∈ wsX1_namesUndefined := fun w h => List.mem_cons_of_mem _ (inX1 w h)
  have hfl9 := (hts _ (List.mem_cons_of_mem _ tm_27))
  have hfl15 := (hts _ (List.mem_cons_of_mem _ tm_29))
  have hfl21 := (hts _ (List.mem_cons_of_mem _ tm_33))
  refine jn_iconst hx hb dX1_namesUndefined_0 ?_
  refine lv_istore_n (lv' := [(1, .int (ji_n 0)), (0, .ref (v 0))]) hx hb dX1_namesUndefined_1 rfl hl (by decide) rfl (fun ls hl => ?_)
  have loop1 : ∀ i : Nat, i ≤ n → ∀ ls : Array Slot, lv_has ls 3 [(1, .int (ji_n (i : Int))), (0, .ref (v 0))] → (∀ j : Nat, j < i → ¬ ((K j = 2 ∨ K j = 3) ∧ sp_dn K A (A j) n = 0)) → W p l e R s m args below meth c s.heap [] 0 0 Q (F0 m 2 ls []) := by
    refine lp_up n ?_
    intro i hi_i ih2 ls hl hq
    refine lv_iload_n hx hb dX1_namesUndefined_2 rfl (lv_at hl 0 rfl) ?_
    refine lv_aload_n hx hb dX1_namesUndefined_3 rfl (lv_at hl 1 rfl) ?_
    refine va_get (ci := 1) (C := RX1) (T := TX1) (N := 4) hx hb hts hinX1 hown hK hP 0 rfl rfl 3 (by decide) hfl21 (fun _ h9 => h9) rfl dX1_namesUndefined_4 ?_
    refine jn_icmp_ge hx hb dX1_namesUndefined_7 (tgt := 61) rfl (by unfold ji_r; omega) (by unfold ji_r; omega) (fun hc3 => ?_) (fun hc3 => ?_)
    · skip
      refine jn_iconst hx hb dX1_namesUndefined_61 ?_
      exact hend _ _ _ dX1_namesUndefined_62 (Or.inr ⟨rfl, fun ⟨x, q1, q2, q3⟩ => hq x (by omega) ⟨q2, q3⟩⟩)
    · skip
      have hgi := hg i (by omega)
      unfold sp_gd at hgi
      refine lv_aload_n hx hb dX1_namesUndefined_10 rfl (lv_at hl 1 rfl) ?_
      refine va_get (ci := 1) (C := RX1) (T := TX1) (N := 4) hx hb hts hinX1 hown hK hP 0 rfl rfl 0 (by decide) hfl9 (fun _ h9 => h9) rfl dX1_namesUndefined_11 ?_
      refine lv_iload_n hx hb dX1_namesUndefined_14 rfl (lv_at hl 0 rfl) ?_
      refine jn_iald hx hb hK hP 1 0 rfl rfl i (by omega) (by omega) (by decide) (v := K i) (h0 i (by omega)) dX1_namesUndefined_15 ?_
      refine jn_iconst hx hb dX1_namesUndefined_16 ?_
      refine jn_icmp_eq hx hb dX1_namesUndefined_17 (tgt := 30) rfl (by unfold ji_r; omega) (by unfold ji_r; omega) (fun hc4 => ?_) (fun hc4 => ?_)
      · skip
        refine jn_iconst hx hb dX1_namesUndefined_30 ?_
        refine lv_goto hx hb dX1_namesUndefined_31 (tgt := 35) rfl ?_
        refine lv_istore_n (lv' := [(2, .int (ji_n 1)), (1, .int (ji_n (i : Int))), (0, .ref (v 0))]) hx hb dX1_namesUndefined_35 rfl hl (by decide) rfl (fun ls hl => ?_)
        refine lv_iload_n hx hb dX1_namesUndefined_36 rfl (lv_at hl 0 rfl) ?_
        refine jn_if_eq hx hb dX1_namesUndefined_37 (tgt := 55) rfl (by unfold ji_r; omega) (fun hc5 => ?_) (fun hc5 => ?_)
        · skip
          exfalso; omega
        · skip
          refine lv_aload_n hx hb dX1_namesUndefined_40 rfl (lv_at hl 2 rfl) ?_
          refine lv_aload_n hx hb dX1_namesUndefined_41 rfl (lv_at hl 2 rfl) ?_
          refine va_get (ci := 1) (C := RX1) (T := TX1) (N := 4) hx hb hts hinX1 hown hK hP 0 rfl rfl 1 (by decide) hfl15 (fun _ h9 => h9) rfl dX1_namesUndefined_42 ?_
          refine lv_iload_n hx hb dX1_namesUndefined_45 rfl (lv_at hl 1 rfl) ?_
          refine jn_iald hx hb hK hP 2 0 rfl rfl i (by omega) (by omega) (by decide) (v := A i) (h1 i (by omega)) dX1_namesUndefined_46 ?_
          refine cl_rd (va_runV (As := [.int (ji_n (A i))]) (rest := []) ⟨hx, hb, hml, hown, hts⟩ (ct_countDefined l dC dI cI v n f0 f1 f2 K A B hn hg h0 h1 (A i) (by unfold ji_r; omega)) (cwV 1 hts (ub_V tm_215 tm_217 tm_s6 tm_2 tm_218) rfl rfl rfl (by decide +kernel) (by rw [hR]; exact ⟨Nat.le_of_ble_eq_true rfl, Nat.le_of_ble_eq_true rfl⟩)) (pv_rd (q0 := 0) (ci := 1) hN hP rfl rfl) rfl rfl hl.1 rfl (lv_room (Nat.le_of_ble_eq_true rfl)) dX1_namesUndefined_47 ⟨Nat.zero_le _, Nat.zero_le _⟩) ?_
          have hd47 := sp_dn_b K A (A i) n
          refine jn_if_ne hx hb dX1_namesUndefined_50 (tgt := 55) rfl (by unfold ji_r; omega) (fun hc6 => ?_) (fun hc6 => ?_)
          · skip
            refine jn_iinc (lv' := [(1, .int (ji_n ((i : Int) + 1))), (2, .int (ji_n 1)), (0, .ref (v 0))]) (k := 1) (v := (i : Int) + 1) hx hb dX1_namesUndefined_55 hl rfl rfl (by decide) rfl (fun ls hl => ?_)
            refine lv_goto hx hb dX1_namesUndefined_58 (tgt := 2) rfl ?_
            have hl : lv_has ls 3 [(1, .int (ji_n ((i + 1 : Nat) : Int))), (0, .ref (v 0))] := by
              have hl2 := lv_sub hl (l' := [(1, .int (ji_n ((i : Int) + 1))), (0, .ref (v 0))]) [0, 2] rfl
              rw [show (ji_n ((i : Int) + 1)) = (ji_n ((i + 1 : Nat) : Int)) from (congrArg ji_n (by omega))] at hl2
              exact hl2
            exact ih2 (by omega) ls hl (fun x h => by rcases Nat.lt_succ_iff_lt_or_eq.mp h with h | h; exact hq x h; rw [h]; omega)
          · skip
            refine jn_iconst hx hb dX1_namesUndefined_53 ?_
            exact hend _ _ _ dX1_namesUndefined_54 (Or.inl ⟨rfl, i, by omega, by omega, by omega⟩)
      · skip
        refine lv_aload_n hx hb dX1_namesUndefined_20 rfl (lv_at hl 1 rfl) ?_
        refine va_get (ci := 1) (C := RX1) (T := TX1) (N := 4) hx hb hts hinX1 hown hK hP 0 rfl rfl 0 (by decide) hfl9 (fun _ h9 => h9) rfl dX1_namesUndefined_21 ?_
        refine lv_iload_n hx hb dX1_namesUndefined_24 rfl (lv_at hl 0 rfl) ?_
        refine jn_iald hx hb hK hP 1 0 rfl rfl i (by omega) (by omega) (by decide) (v := K i) (h0 i (by omega)) dX1_namesUndefined_25 ?_
        refine jn_iconst hx hb dX1_namesUndefined_26 ?_
        refine jn_icmp_ne hx hb dX1_namesUndefined_27 (tgt := 34) rfl (by unfold ji_r; omega) (by unfold ji_r; omega) (fun hc7 => ?_) (fun hc7 => ?_)
        · skip
          refine jn_iconst hx hb dX1_namesUndefined_34 ?_
          refine lv_istore_n (lv' := [(2, .int (ji_n 0)), (1, .int (ji_n (i : Int))), (0, .ref (v 0))]) hx hb dX1_namesUndefined_35 rfl hl (by decide) rfl (fun ls hl => ?_)
          refine lv_iload_n hx hb dX1_namesUndefined_36 rfl (lv_at hl 0 rfl) ?_
          refine jn_if_eq hx hb dX1_namesUndefined_37 (tgt := 55) rfl (by unfold ji_r; omega) (fun hc8 => ?_) (fun hc8 => ?_)
          · skip
            refine jn_iinc (lv' := [(1, .int (ji_n ((i : Int) + 1))), (2, .int (ji_n 0)), (0, .ref (v 0))]) (k := 1) (v := (i : Int) + 1) hx hb dX1_namesUndefined_55 hl rfl rfl (by decide) rfl (fun ls hl => ?_)
            refine lv_goto hx hb dX1_namesUndefined_58 (tgt := 2) rfl ?_
            have hl : lv_has ls 3 [(1, .int (ji_n ((i + 1 : Nat) : Int))), (0, .ref (v 0))] := by
              have hl2 := lv_sub hl (l' := [(1, .int (ji_n ((i : Int) + 1))), (0, .ref (v 0))]) [0, 2] rfl
              rw [show (ji_n ((i : Int) + 1)) = (ji_n ((i + 1 : Nat) : Int)) from (congrArg ji_n (by omega))] at hl2
              exact hl2
            exact ih2 (by omega) ls hl (fun x h => by rcases Nat.lt_succ_iff_lt_or_eq.mp h with h | h; exact hq x h; rw [h]; omega)
          · skip
            exfalso; omega
        · skip
          refine jn_iconst hx hb dX1_namesUndefined_30 ?_
          refine lv_goto hx hb dX1_namesUndefined_31 (tgt := 35) rfl ?_
          refine lv_istore_n (lv' := [(2, .int (ji_n 1)), (1, .int (ji_n (i : Int))), (0, .ref (v 0))]) hx hb dX1_namesUndefined_35 rfl hl (by decide) rfl (fun ls hl => ?_)
          refine lv_iload_n hx hb dX1_namesUndefined_36 rfl (lv_at hl 0 rfl) ?_
          refine jn_if_eq hx hb dX1_namesUndefined_37 (tgt := 55) rfl (by unfold ji_r; omega) (fun hc9 => ?_) (fun hc9 => ?_)
          · skip
            exfalso; omega
          · skip
            refine lv_aload_n hx hb dX1_namesUndefined_40 rfl (lv_at hl 2 rfl) ?_
            refine lv_aload_n hx hb dX1_namesUndefined_41 rfl (lv_at hl 2 rfl) ?_
            refine va_get (ci := 1) (C := RX1) (T := TX1) (N := 4) hx hb hts hinX1 hown hK hP 0 rfl rfl 1 (by decide) hfl15 (fun _ h9 => h9) rfl dX1_namesUndefined_42 ?_
            refine lv_iload_n hx hb dX1_namesUndefined_45 rfl (lv_at hl 1 rfl) ?_
            refine jn_iald hx hb hK hP 2 0 rfl rfl i (by omega) (by omega) (by decide) (v := A i) (h1 i (by omega)) dX1_namesUndefined_46 ?_
            refine cl_rd (va_runV (As := [.int (ji_n (A i))]) (rest := []) ⟨hx, hb, hml, hown, hts⟩ (ct_countDefined l dC dI cI v n f0 f1 f2 K A B hn hg h0 h1 (A i) (by unfold ji_r; omega)) (cwV 1 hts (ub_V tm_215 tm_217 tm_s6 tm_2 tm_218) rfl rfl rfl (by decide +kernel) (by rw [hR]; exact ⟨Nat.le_of_ble_eq_true rfl, Nat.le_of_ble_eq_true rfl⟩)) (pv_rd (q0 := 0) (ci := 1) hN hP rfl rfl) rfl rfl hl.1 rfl (lv_room (Nat.le_of_ble_eq_true rfl)) dX1_namesUndefined_47 ⟨Nat.zero_le _, Nat.zero_le _⟩) ?_
            have hd47 := sp_dn_b K A (A i) n
            refine jn_if_ne hx hb dX1_namesUndefined_50 (tgt := 55) rfl (by unfold ji_r; omega) (fun hc10 => ?_) (fun hc10 => ?_)
            · skip
              refine jn_iinc (lv' := [(1, .int (ji_n ((i : Int) + 1))), (2, .int (ji_n 1)), (0, .ref (v 0))]) (k := 1) (v := (i : Int) + 1) hx hb dX1_namesUndefined_55 hl rfl rfl (by decide) rfl (fun ls hl => ?_)
              refine lv_goto hx hb dX1_namesUndefined_58 (tgt := 2) rfl ?_
              have hl : lv_has ls 3 [(1, .int (ji_n ((i + 1 : Nat) : Int))), (0, .ref (v 0))] := by
                have hl2 := lv_sub hl (l' := [(1, .int (ji_n ((i : Int) + 1))), (0, .ref (v 0))]) [0, 2] rfl
                rw [show (ji_n ((i : Int) + 1)) = (ji_n ((i + 1 : Nat) : Int)) from (congrArg ji_n (by omega))] at hl2
                exact hl2
              exact ih2 (by omega) ls hl (fun x h => by rcases Nat.lt_succ_iff_lt_or_eq.mp h with h | h; exact hq x h; rw [h]; omega)
            · skip
              refine jn_iconst hx hb dX1_namesUndefined_53 ?_
              exact hend _ _ _ dX1_namesUndefined_54 (Or.inl ⟨rfl, i, by omega, by omega, by omega⟩)
  have hl : lv_has ls 3 [(1, .int (ji_n ((0 : Nat) : Int))), (0, .ref (v 0))] := lv_sub hl [0, 1] rfl
  exact loop1 0 (by omega) ls hl (fun x h => absurd h (Nat.not_lt_zero x))
end
section
set_option maxHeartbeats 4000000 in
set_option maxRecDepth 100000 in
theorem ct_size (l : Launch) (dC : Nat → ClassId) (dI : Nat → Nat → Nat) (cI : ClassId) (w : Nat → Nat) (n : Nat) (g0 g1 g2 st fm vl : Nat → Int32) (K A B z : Nat → Int) (hF : as_F n K A B g0 g1 g2) (hAS : sp_AS n K A B z) (hS : as_S n K A z st fm vl) : Met l yX0_size wsX0_size { frames := 0, cells := 0, slots := 0, locals := 0 } (va_Pc [.ref (w 0)] (fun U => va_P (dC, dI) vwCl (wo_A w cI n g0 g1 g2 st fm vl) U.heap ∧ kn_K dC dI cI U)) (vp_Si (fun r => r = ji_n (sp_pz z n))) 0 0 (fun _ => False) := by
  refine st_rd (cc := cX0_size) (maxL := 1) (ret := some .int) (ty := .int) (by decide) rfl rfl (Nat.le_of_ble_eq_true rfl) (lv := [(0, .ref (w 0))]) rfl (fun v h => rfl) ?_
  intro p e s m args below meth c R Q ls hx hb hts hown hml hR hB hl hend
  obtain ⟨hP, hN⟩ := hB
  have hK := hN.1
  have hinX0 : ∀ w ∈ u_ws RX0 TX0 4, w ∈ wsX0_size := fun w h => List.mem_cons_of_mem _ (inX0 w h)
  have hfl12 := (hts _ (List.mem_cons_of_mem _ tm_57))
  have hfl18 := (hts _ (List.mem_cons_of_mem _ tm_59))
  have hinX1 : ∀ w ∈ u_ws RX1 TX1 4, w ∈ wsX0_size := fun w h => List.mem_cons_of_mem _ (inX1 w h)
  have hS0 := hS
  have hn := hAS.1
  have hg := hAS.2.1
  have ho := hAS.2.2.1
  obtain ⟨hst, hfm, hvl⟩ := hS
  refine lv_aload_n hx hb dX0_size_0 rfl (lv_at hl 0 rfl) ?_
  refine va_get (ci := 0) (C := RX0) (T := TX0) (N := 4) hx hb hts hinX0 hown hK hP 0 rfl rfl 1 (by decide) hfl18 (fun _ h9 => h9) rfl dX0_size_1 ?_
  refine lv_aload_n hx hb dX0_size_4 rfl (lv_at hl 0 rfl) ?_
  refine va_get (ci := 0) (C := RX0) (T := TX0) (N := 4) hx hb hts hinX0 hown hK hP 0 rfl rfl 0 (by decide) hfl12 (fun _ h9 => h9) rfl dX0_size_5 ?_
  refine va_getN (ci := 1) (C := RX1) (T := TX1) (N := 4) hx hb hts hinX1 hown hK hP 4 rfl rfl 3 (by decide) (va_Nw.use rfl (nw_5 hN)) (fun _ h9 => h9) rfl dX0_size_8 ?_
  refine jn_iald hx hb hK hP 1 0 rfl rfl n (by omega) (by omega) (by decide) (v := sp_pz z n) (hst n (by omega)) dX0_size_11 ?_
  exact hend _ _ _ dX0_size_12 rfl

set_option maxHeartbeats 4000000 in
set_option maxRecDepth 100000 in
theorem ct_lineSize (l : Launch) (dC : Nat → ClassId) (dI : Nat → Nat → Nat) (cI : ClassId) (w : Nat → Nat) (n : Nat) (g0 g1 g2 st fm vl : Nat → Int32) (K A B z : Nat → Int) (hF : as_F n K A B g0 g1 g2) (hn : n ≤ 50) (hg : sp_gp K A B n) (ho : sp_ok K A B z n) (hfm : ∀ j, j < n → fm j = ji_n (sp_fm (K j) (z j))) (j : Nat) (hj : j < n) : Met l yX0_lineSize wsX0_lineSize { frames := 0, cells := 0, slots := 0, locals := 0 } (va_Pc [.ref (w 0), .int (ji_n (j : Int))] (fun U => va_P (dC, dI) vwCl (wo_A w cI n g0 g1 g2 st fm vl) U.heap ∧ kn_K dC dI cI U)) (vp_Si (fun r => r = ji_n (z j))) 0 0 (fun _ => False) := by
  refine st_rd (cc := cX0_lineSize) (maxL := 3) (ret := some .int) (ty := .int) (by decide) rfl rfl (Nat.le_of_ble_eq_true rfl) (lv := [(0, .ref (w 0)), (1, .int (ji_n (j : Int)))]) rfl (fun v h => rfl) ?_
  intro p e s m args below meth c R Q ls hx hb hts hown hml hR hB hl hend
  obtain ⟨hP, hN⟩ := hB
  have hK := hN.1
  have hinX0 : ∀ w ∈ u_ws RX0 TX0 4, w ∈ wsX0_lineSize := fun w h => List.mem_cons_of_mem _ (inX0 w h)
  have hfl12 := (hts _ (List.mem_cons_of_mem _ tm_57))
  have hfl22 := (hts _ (List.mem_cons_of_mem _ tm_61))
  have hinX1 : ∀ w ∈ u_ws RX1 TX1 4, w ∈ wsX0_lineSize := fun w h => List.mem_cons_of_mem _ (inX1 w h)
  have hgj := hg j (by omega)
  unfold sp_gd at hgj
  have hoj := ho j (by omega)
  have hfj := sp_fm_or (K j) (z j)
  have hlj := sp_lg_or (B j)
  refine lv_aload_n hx hb dX0_lineSize_0 rfl (lv_at hl 0 rfl) ?_
  refine va_get (ci := 0) (C := RX0) (T := TX0) (N := 4) hx hb hts hinX0 hown hK hP 0 rfl rfl 0 (by decide) hfl12 (fun _ h9 => h9) rfl dX0_lineSize_1 ?_
  refine va_getN (ci := 1) (C := RX1) (T := TX1) (N := 4) hx hb hts hinX1 hown hK hP 4 rfl rfl 0 (by decide) (va_Nw.use rfl (nw_6 hN)) (fun _ h9 => h9) rfl dX0_lineSize_4 ?_
  refine lv_iload_n hx hb dX0_lineSize_7 rfl (lv_at hl 1 rfl) ?_
  refine jn_iald hx hb hK hP 5 0 rfl rfl j (by omega) (by omega) (by decide) (v := K j) (hF.1 j (by omega)) dX0_lineSize_8 ?_
  refine lv_istore_n (lv' := [(2, .int (ji_n (K j))), (0, .ref (w 0)), (1, .int (ji_n (j : Int)))]) hx hb dX0_lineSize_9 rfl hl (by decide) rfl (fun ls hl => ?_)
  refine lv_iload_n hx hb dX0_lineSize_10 rfl (lv_at hl 0 rfl) ?_
  refine jn_iconst hx hb dX0_lineSize_11 ?_
  refine jn_icmp_ne hx hb dX0_lineSize_12 (tgt := 25) rfl (by unfold ji_r; omega) (by unfold ji_r; omega) (fun hc1 => ?_) (fun hc1 => ?_)
  · skip
    refine lv_iload_n hx hb dX0_lineSize_25 rfl (lv_at hl 0 rfl) ?_
    refine jn_iconst hx hb dX0_lineSize_26 ?_
    refine jn_icmp_ne hx hb dX0_lineSize_27 (tgt := 32) rfl (by unfold ji_r; omega) (by unfold ji_r; omega) (fun hc2 => ?_) (fun hc2 => ?_)
    · skip
      refine lv_aload_n hx hb dX0_lineSize_32 rfl (lv_at hl 1 rfl) ?_
      refine va_get (ci := 0) (C := RX0) (T := TX0) (N := 4) hx hb hts hinX0 hown hK hP 0 rfl rfl 2 (by decide) hfl22 (fun _ h9 => h9) rfl dX0_lineSize_33 ?_
      refine lv_iload_n hx hb dX0_lineSize_36 rfl (lv_at hl 2 rfl) ?_
      refine jn_iald hx hb hK hP 2 0 rfl rfl j (by omega) (by omega) (by decide) (v := sp_fm (K j) (z j)) (hfm j (by omega)) dX0_lineSize_37 ?_
      refine jn_iconst hx hb dX0_lineSize_38 ?_
      refine jn_icmp_ne hx hb dX0_lineSize_39 (tgt := 60) rfl (by unfold ji_r; omega) (by unfold ji_r; omega) (fun hc3 => ?_) (fun hc3 => ?_)
      · skip
        refine lv_aload_n hx hb dX0_lineSize_60 rfl (lv_at hl 1 rfl) ?_
        refine va_get (ci := 0) (C := RX0) (T := TX0) (N := 4) hx hb hts hinX0 hown hK hP 0 rfl rfl 2 (by decide) hfl22 (fun _ h9 => h9) rfl dX0_lineSize_61 ?_
        refine lv_iload_n hx hb dX0_lineSize_64 rfl (lv_at hl 2 rfl) ?_
        refine jn_iald hx hb hK hP 2 0 rfl rfl j (by omega) (by omega) (by decide) (v := sp_fm (K j) (z j)) (hfm j (by omega)) dX0_lineSize_65 ?_
        refine jn_iconst hx hb dX0_lineSize_66 ?_
        refine jn_icmp_ne hx hb dX0_lineSize_67 (tgt := 74) rfl (by unfold ji_r; omega) (by unfold ji_r; omega) (fun hc4 => ?_) (fun hc4 => ?_)
        · skip
          refine jn_iconst hx hb dX0_lineSize_74 ?_
          exact hend _ _ _ dX0_lineSize_75 (congrArg ji_n (by omega))
        · skip
          refine jn_iconst hx hb dX0_lineSize_70 ?_
          refine lv_goto hx hb dX0_lineSize_71 (tgt := 75) rfl ?_
          exact hend _ _ _ dX0_lineSize_75 (congrArg ji_n (by omega))
      · skip
        refine lv_aload_n hx hb dX0_lineSize_42 rfl (lv_at hl 1 rfl) ?_
        refine va_get (ci := 0) (C := RX0) (T := TX0) (N := 4) hx hb hts hinX0 hown hK hP 0 rfl rfl 0 (by decide) hfl12 (fun _ h9 => h9) rfl dX0_lineSize_43 ?_
        refine va_getN (ci := 1) (C := RX1) (T := TX1) (N := 4) hx hb hts hinX1 hown hK hP 4 rfl rfl 2 (by decide) (va_Nw.use rfl (nw_8 hN)) (fun _ h9 => h9) rfl dX0_lineSize_46 ?_
        refine lv_iload_n hx hb dX0_lineSize_49 rfl (lv_at hl 2 rfl) ?_
        refine jn_iald hx hb hK hP 7 0 rfl rfl j (by omega) (by omega) (by decide) (v := B j) (hF.2.2 j (by omega)) dX0_lineSize_50 ?_
        refine jn_if_ne hx hb dX0_lineSize_51 (tgt := 58) rfl (by unfold ji_r; omega) (fun hc5 => ?_) (fun hc5 => ?_)
        · skip
          refine jn_iconst hx hb dX0_lineSize_58 ?_
          exact hend _ _ _ dX0_lineSize_59 (congrArg ji_n (by omega))
        · skip
          refine jn_iconst hx hb dX0_lineSize_54 ?_
          refine lv_goto hx hb dX0_lineSize_55 (tgt := 59) rfl ?_
          exact hend _ _ _ dX0_lineSize_59 (congrArg ji_n (by omega))
    · skip
      refine jn_iconst hx hb dX0_lineSize_30 ?_
      exact hend _ _ _ dX0_lineSize_31 (congrArg ji_n (by omega))
  · skip
    refine lv_aload_n hx hb dX0_lineSize_15 rfl (lv_at hl 1 rfl) ?_
    refine va_get (ci := 0) (C := RX0) (T := TX0) (N := 4) hx hb hts hinX0 hown hK hP 0 rfl rfl 0 (by decide) hfl12 (fun _ h9 => h9) rfl dX0_lineSize_16 ?_
    refine va_getN (ci := 1) (C := RX1) (T := TX1) (N := 4) hx hb hts hinX1 hown hK hP 4 rfl rfl 1 (by decide) (va_Nw.use rfl (nw_7 hN)) (fun _ h9 => h9) rfl dX0_lineSize_19 ?_
    refine lv_iload_n hx hb dX0_lineSize_22 rfl (lv_at hl 2 rfl) ?_
    refine jn_iald hx hb hK hP 6 0 rfl rfl j (by omega) (by omega) (by decide) (v := A j) (hF.2.1 j (by omega)) dX0_lineSize_23 ?_
    exact hend _ _ _ dX0_lineSize_24 (congrArg ji_n (by omega))

set_option maxHeartbeats 4000000 in
set_option maxRecDepth 100000 in
theorem ct_distance (l : Launch) (dC : Nat → ClassId) (dI : Nat → Nat → Nat) (cI : ClassId) (w : Nat → Nat) (n : Nat) (g0 g1 g2 st fm vl : Nat → Int32) (K A B z : Nat → Int) (hF : as_F n K A B g0 g1 g2) (hAS : sp_AS n K A B z) (hst : ∀ j, j < n + 1 → st j = ji_n (sp_pz z j)) (hvl : ∀ x : Int, 0 ≤ x → x < 16 → vl x.toNat = ji_n (sp_la K A z n x)) (j : Nat) (hj : j < n) (h3 : K j ≠ 1) : Met l yX0_distance wsX0_distance { frames := 0, cells := 0, slots := 0, locals := 0 } (va_Pc [.ref (w 0), .int (ji_n (j : Int))] (fun U => va_P (dC, dI) vwCl (wo_A w cI n g0 g1 g2 st fm vl) U.heap ∧ kn_K dC dI cI U)) (vp_Si (fun r => r = ji_n (sp_ds n K A z j))) 0 0 (fun _ => False) := by
  refine st_rd (cc := cX0_distance) (maxL := 2) (ret := some .int) (ty := .int) (by decide) rfl rfl (Nat.le_of_ble_eq_true rfl) (lv := [(0, .ref (w 0)), (1, .int (ji_n (j : Int)))]) rfl (fun v h => rfl) ?_
  intro p e s m args below meth c R Q ls hx hb hts hown hml hR hB hl hend
  obtain ⟨hP, hN⟩ := hB
  have hK := hN.1
  have hinX0 : ∀ w ∈ u_ws RX0 TX0 4, w ∈ wsX0_distance := fun w h => List.mem_cons_of_mem _ (inX0 w h)
  have hfl12 := (hts _ (List.mem_cons_of_mem _ tm_57))
  have hfl18 := (hts _ (List.mem_cons_of_mem _ tm_59))
  have hfl22 := (hts _ (List.mem_cons_of_mem _ tm_61))
  have hfl25 := (hts _ (List.mem_cons_of_mem _ tm_63))
  have hinX1 : ∀ w ∈ u_ws RX1 TX1 4, w ∈ wsX0_distance := fun w h => List.mem_cons_of_mem _ (inX1 w h)
  have hn := hAS.1
  have hg := hAS.2.1
  refine lv_aload_n hx hb dX0_distance_0 rfl (lv_at hl 0 rfl) ?_
  refine va_get (ci := 0) (C := RX0) (T := TX0) (N := 4) hx hb hts hinX0 hown hK hP 0 rfl rfl 3 (by decide) hfl25 (fun _ h9 => h9) rfl dX0_distance_1 ?_
  refine lv_aload_n hx hb dX0_distance_4 rfl (lv_at hl 0 rfl) ?_
  refine va_get (ci := 0) (C := RX0) (T := TX0) (N := 4) hx hb hts hinX0 hown hK hP 0 rfl rfl 0 (by decide) hfl12 (fun _ h9 => h9) rfl dX0_distance_5 ?_
  refine va_getN (ci := 1) (C := RX1) (T := TX1) (N := 4) hx hb hts hinX1 hown hK hP 4 rfl rfl 1 (by decide) (va_Nw.use rfl (nw_7 hN)) (fun _ h9 => h9) rfl dX0_distance_8 ?_
  refine lv_iload_n hx hb dX0_distance_11 rfl (lv_at hl 1 rfl) ?_
  refine jn_iald hx hb hK hP 6 0 rfl rfl j (by omega) (by omega) (by decide) (v := A j) (hF.2.1 j (by omega)) dX0_distance_12 ?_
  have hgj := hg j hj
  unfold sp_gd at hgj
  refine jn_iald hx hb hK hP 3 0 rfl rfl ((A j).toNat) (by omega) (by omega) (by decide) (v := sp_la K A z n (A j)) (hvl (A j) (by omega) (by omega)) dX0_distance_13 ?_
  refine lv_aload_n hx hb dX0_distance_14 rfl (lv_at hl 0 rfl) ?_
  refine va_get (ci := 0) (C := RX0) (T := TX0) (N := 4) hx hb hts hinX0 hown hK hP 0 rfl rfl 1 (by decide) hfl18 (fun _ h9 => h9) rfl dX0_distance_15 ?_
  refine lv_iload_n hx hb dX0_distance_18 rfl (lv_at hl 1 rfl) ?_
  refine jn_iconst hx hb dX0_distance_19 ?_
  refine jn_iadd hx hb dX0_distance_20 (v := (j : Int) + 1) rfl ?_
  refine jn_iald hx hb hK hP 1 0 rfl rfl (j + 1) (by omega) (by omega) (by decide) (v := sp_pz z (j + 1)) (hst (j + 1) (by omega)) dX0_distance_21 ?_
  refine jn_isub hx hb dX0_distance_22 (v := (sp_la K A z n (A j)) - (sp_pz z (j + 1))) rfl ?_
  exact hend _ _ _ dX0_distance_23 rfl

set_option maxHeartbeats 4000000 in
set_option maxRecDepth 100000 in
theorem ct_countLong (l : Launch) (dC : Nat → ClassId) (dI : Nat → Nat → Nat) (cI : ClassId) (w : Nat → Nat) (n : Nat) (g0 g1 g2 st fm vl : Nat → Int32) (K A B z : Nat → Int) (hF : as_F n K A B g0 g1 g2) (hAS : sp_AS n K A B z) (hS : as_S n K A z st fm vl) : Met l yX0_countLong wsX0_countLong { frames := 0, cells := 0, slots := 0, locals := 0 } (va_Pc [.ref (w 0)] (fun U => va_P (dC, dI) vwCl (wo_A w cI n g0 g1 g2 st fm vl) U.heap ∧ kn_K dC dI cI U)) (vp_Si (fun r => r = ji_n (sp_lc K z n))) 0 0 (fun _ => False) := by
  refine st_rd (cc := cX0_countLong) (maxL := 3) (ret := some .int) (ty := .int) (by decide) rfl rfl (Nat.le_of_ble_eq_true rfl) (lv := [(0, .ref (w 0))]) rfl (fun v h => rfl) ?_
  intro p e s m args below meth c R Q ls hx hb hts hown hml hR hB hl hend
  obtain ⟨hP, hN⟩ := hB
  have hK := hN.1
  have hinX0 : ∀ w ∈ u_ws RX0 TX0 4, w ∈ wsX0_countLong := fun w h => List.mem_cons_of_mem _ (inX0 w h)
  have hfl12 := (hts _ (List.mem_cons_of_mem _ tm_57))
  have hfl22 := (hts _ (List.mem_cons_of_mem _ tm_61))
  have hinX1 : ∀ w ∈ u_ws RX1 TX1 4, w ∈ wsX0_countLong := fun w h => List.mem_cons_of_mem _ (inX1 w h)
  have hS0 := hS
  have hn := hAS.1
  have hg := hAS.2.1
  have ho := hAS.2.2.1
  obtain ⟨hst, hfm, hvl⟩ := hS
  refine jn_iconst hx hb dX0_countLong_0 ?_
  refine lv_istore_n (lv' := [(1, .int (ji_n 0)), (0, .ref (w 0))]) hx hb dX0_countLong_1 rfl hl (by decide) rfl (fun ls hl => ?_)
  refine jn_iconst hx hb dX0_countLong_2 ?_
  refine lv_istore_n (lv' := [(2, .int (ji_n 0)), (1, .int (ji_n 0)), (0, .ref (w 0))]) hx hb dX0_countLong_3 rfl hl (by decide) rfl (fun ls hl => ?_)
  have loop1 : ∀ i : Nat, i ≤ n → ∀ ls : Array Slot, lv_has ls 3 [(2, .int (ji_n (i : Int))), (1, .int (ji_n (sp_lc K z i))), (0, .ref (w 0))] → W p l e R s m args below meth c s.heap [] 0 0 Q (F0 m 4 ls []) := by
    refine lp_up n ?_
    intro i hi_i ih2 ls hl
    have hd := sp_lc_b K z i
    have hfi := sp_fm_or (K i) (z i)
    refine lv_iload_n hx hb dX0_countLong_4 rfl (lv_at hl 0 rfl) ?_
    refine lv_aload_n hx hb dX0_countLong_5 rfl (lv_at hl 2 rfl) ?_
    refine va_get (ci := 0) (C := RX0) (T := TX0) (N := 4) hx hb hts hinX0 hown hK hP 0 rfl rfl 0 (by decide) hfl12 (fun _ h9 => h9) rfl dX0_countLong_6 ?_
    refine va_getN (ci := 1) (C := RX1) (T := TX1) (N := 4) hx hb hts hinX1 hown hK hP 4 rfl rfl 3 (by decide) (va_Nw.use rfl (nw_5 hN)) (fun _ h9 => h9) rfl dX0_countLong_9 ?_
    refine jn_icmp_ge hx hb dX0_countLong_12 (tgt := 34) rfl (by unfold ji_r; omega) (by unfold ji_r; omega) (fun hc3 => ?_) (fun hc3 => ?_)
    · skip
      have he : i = n := by omega
      refine lv_iload_n hx hb dX0_countLong_34 rfl (lv_at hl 1 rfl) ?_
      exact hend _ _ _ dX0_countLong_35 (congrArg ji_n (by rw [he]))
    · skip
      refine lv_aload_n hx hb dX0_countLong_15 rfl (lv_at hl 2 rfl) ?_
      refine va_get (ci := 0) (C := RX0) (T := TX0) (N := 4) hx hb hts hinX0 hown hK hP 0 rfl rfl 2 (by decide) hfl22 (fun _ h9 => h9) rfl dX0_countLong_16 ?_
      refine lv_iload_n hx hb dX0_countLong_19 rfl (lv_at hl 0 rfl) ?_
      refine jn_iald hx hb hK hP 2 0 rfl rfl i (by omega) (by omega) (by decide) (v := sp_fm (K i) (z i)) (hfm i (by omega)) dX0_countLong_20 ?_
      refine jn_iconst hx hb dX0_countLong_21 ?_
      refine jn_icmp_ne hx hb dX0_countLong_22 (tgt := 28) rfl (by unfold ji_r; omega) (by unfold ji_r; omega) (fun hc4 => ?_) (fun hc4 => ?_)
      · skip
        refine jn_iinc (lv' := [(2, .int (ji_n ((i : Int) + 1))), (1, .int (ji_n (sp_lc K z i))), (0, .ref (w 0))]) (k := 0) (v := (i : Int) + 1) hx hb dX0_countLong_28 hl rfl rfl (by decide) rfl (fun ls hl => ?_)
        refine lv_goto hx hb dX0_countLong_31 (tgt := 4) rfl ?_
        have hl : lv_has ls 3 [(2, .int (ji_n ((i + 1 : Nat) : Int))), (1, .int (ji_n (sp_lc K z (i + 1)))), (0, .ref (w 0))] := by
          have hl2 := lv_sub hl (l' := [(2, .int (ji_n ((i : Int) + 1))), (1, .int (ji_n (sp_lc K z i))), (0, .ref (w 0))]) [0, 1, 2] rfl
          rw [show (ji_n ((i : Int) + 1)) = (ji_n ((i + 1 : Nat) : Int)) from (congrArg ji_n (by omega))] at hl2
          rw [show (ji_n (sp_lc K z i)) = (ji_n (sp_lc K z (i + 1))) from (congrArg ji_n (by rw [sp_lc_s]; split <;> omega))] at hl2
          exact hl2
        exact ih2 (by omega) ls hl 
      · skip
        refine jn_iinc (lv' := [(1, .int (ji_n ((sp_lc K z i) + 1))), (2, .int (ji_n (i : Int))), (0, .ref (w 0))]) (k := 1) (v := (sp_lc K z i) + 1) hx hb dX0_countLong_25 hl rfl rfl (by decide) rfl (fun ls hl => ?_)
        refine jn_iinc (lv' := [(2, .int (ji_n ((i : Int) + 1))), (1, .int (ji_n ((sp_lc K z i) + 1))), (0, .ref (w 0))]) (k := 1) (v := (i : Int) + 1) hx hb dX0_countLong_28 hl rfl rfl (by decide) rfl (fun ls hl => ?_)
        refine lv_goto hx hb dX0_countLong_31 (tgt := 4) rfl ?_
        have hl : lv_has ls 3 [(2, .int (ji_n ((i + 1 : Nat) : Int))), (1, .int (ji_n (sp_lc K z (i + 1)))), (0, .ref (w 0))] := by
          have hl2 := lv_sub hl (l' := [(2, .int (ji_n ((i : Int) + 1))), (1, .int (ji_n ((sp_lc K z i) + 1))), (0, .ref (w 0))]) [0, 1, 2] rfl
          rw [show (ji_n ((i : Int) + 1)) = (ji_n ((i + 1 : Nat) : Int)) from (congrArg ji_n (by omega))] at hl2
          rw [show (ji_n ((sp_lc K z i) + 1)) = (ji_n (sp_lc K z (i + 1))) from (congrArg ji_n (by rw [sp_lc_s]; split <;> omega))] at hl2
          exact hl2
        exact ih2 (by omega) ls hl 
  have hl : lv_has ls 3 [(2, .int (ji_n ((0 : Nat) : Int))), (1, .int (ji_n (sp_lc K z 0))), (0, .ref (w 0))] := lv_sub hl [0, 1, 2] rfl
  exact loop1 0 (by omega) ls hl 

set_option maxHeartbeats 4000000 in
set_option maxRecDepth 100000 in
theorem ct_opposite (l : Launch) (x : Int) (r1 : 0 ≤ x ∧ x ≤ 7) : Met l yX0_oppositeCode wsX0_oppositeCode { frames := 0, cells := 0, slots := 0, locals := 0 } (va_Pc [.int (ji_n x)] (fun U => True)) (vp_Si (fun r => r = ji_n (sp_op x))) 0 0 (fun _ => False) := by
  refine st_rd (cc := cX0_oppositeCode) (maxL := 2) (ret := some .int) (ty := .int) (by decide) rfl rfl (Nat.le_of_ble_eq_true rfl) (lv := [(0, .int (ji_n x))]) rfl (fun v h => rfl) ?_
  intro p e s m args below meth c R Q ls hx hb hts hown hml hR hB hl hend
  have hop := sp_op_or (c := x)
  refine jn_bipush hx hb dX0_oppositeCode_0 (by decide) ?_
  refine lv_iload_n hx hb dX0_oppositeCode_2 rfl (lv_at hl 0 rfl) ?_
  refine jn_iconst hx hb dX0_oppositeCode_3 ?_
  refine jn_xor4 hx hb dX0_oppositeCode_4 (by omega) ?_
  have hx4 := sp_x4_or x
  refine jn_iadd hx hb dX0_oppositeCode_5 (v := 32 + (sp_x4 x)) rfl ?_
  refine lv_istore_n (lv' := [(1, .int (ji_n (32 + (sp_x4 x)))), (0, .int (ji_n x))]) hx hb dX0_oppositeCode_6 rfl hl (by decide) rfl (fun ls hl => ?_)
  refine lv_iload_n hx hb dX0_oppositeCode_7 rfl (lv_at hl 0 rfl) ?_
  refine jn_bipush hx hb dX0_oppositeCode_8 (by decide) ?_
  refine jn_icmp_ne hx hb dX0_oppositeCode_10 (tgt := 20) rfl (by unfold ji_r; omega) (by unfold ji_r; omega) (fun hc1 => ?_) (fun hc1 => ?_)
  · skip
    refine lv_iload_n hx hb dX0_oppositeCode_20 rfl (lv_at hl 0 rfl) ?_
    exact hend _ _ _ dX0_oppositeCode_21 (congrArg ji_n (by omega))
  · skip
    refine jn_bipush hx hb dX0_oppositeCode_13 (by decide) ?_
    refine lv_iload_n hx hb dX0_oppositeCode_15 rfl (lv_at hl 1 rfl) ?_
    refine jn_iadd hx hb dX0_oppositeCode_16 (v := 40 + x) rfl ?_
    refine lv_goto hx hb dX0_oppositeCode_17 (tgt := 21) rfl ?_
    exact hend _ _ _ dX0_oppositeCode_21 (congrArg ji_n (by omega))

set_option maxHeartbeats 4000000 in
set_option maxRecDepth 100000 in
theorem ct_pairByte (l : Launch) (x o : Int) (r1 : ji_r x) (r2 : ji_r o) : Met l yX0_pairByte wsX0_pairByte { frames := 0, cells := 0, slots := 0, locals := 0 } (va_Pc [.int (ji_n x), .int (ji_n o)] (fun U => True)) (vp_Si (fun r => r = ji_n (sp_pb x o))) 0 0 (fun _ => False) := by
  refine st_rd (cc := cX0_pairByte) (maxL := 2) (ret := some .int) (ty := .int) (by decide) rfl rfl (Nat.le_of_ble_eq_true rfl) (lv := [(0, .int (ji_n x)), (1, .int (ji_n o))]) rfl (fun v h => rfl) ?_
  intro p e s m args below meth c R Q ls hx hb hts hown hml hR hB hl hend
  have hpb := sp_pb_or x o
  refine lv_iload_n hx hb dX0_pairByte_0 rfl (lv_at hl 1 rfl) ?_
  refine jn_if_ne hx hb dX0_pairByte_1 (tgt := 15) rfl r2 (fun hc1 => ?_) (fun hc1 => ?_)
  · skip
    refine lv_iload_n hx hb dX0_pairByte_15 rfl (lv_at hl 0 rfl) ?_
    refine jn_sipush hx hb dX0_pairByte_16 (by decide) ?_
    refine jn_and255 hx hb dX0_pairByte_19 ?_
    exact hend _ _ _ dX0_pairByte_20 (congrArg ji_n (by omega))
  · skip
    refine lv_iload_n hx hb dX0_pairByte_4 rfl (lv_at hl 0 rfl) ?_
    refine jn_bipush hx hb dX0_pairByte_5 (by decide) ?_
    refine jn_shr8 hx hb dX0_pairByte_7 r1 ?_
    refine jn_sipush hx hb dX0_pairByte_8 (by decide) ?_
    refine jn_and255 hx hb dX0_pairByte_11 ?_
    refine lv_goto hx hb dX0_pairByte_12 (tgt := 20) rfl ?_
    exact hend _ _ _ dX0_pairByte_20 (congrArg ji_n (by omega))

set_option maxHeartbeats 4000000 in
set_option maxRecDepth 100000 in
theorem ct_shortByte (l : Launch) (dC : Nat → ClassId) (dI : Nat → Nat → Nat) (cI : ClassId) (w : Nat → Nat) (n : Nat) (g0 g1 g2 st fm vl : Nat → Int32) (K A B z : Nat → Int) (hF : as_F n K A B g0 g1 g2) (hAS : sp_AS n K A B z) (hS : as_S n K A z st fm vl) (j : Nat) (hj : j < n) (o : Int) (h3 : K j = 3) (ho0 : 0 ≤ o) (hoz : o < z j) (hz2 : z j = 2) : Met l yX0_shortByte wsX0_shortByte { frames := 1, cells := 0, slots := 0, locals := 21 } (va_Pc [.ref (w 0), .int (ji_n (j : Int)), .int (ji_n o)] (fun U => va_P (dC, dI) vwCl (wo_A w cI n g0 g1 g2 st fm vl) U.heap ∧ kn_K dC dI cI U)) (vp_Si (fun r => r = ji_n (sp_lb n K A B z j o))) 0 0 (fun _ => False) := by
  refine st_rd (cc := cX0_shortByte) (maxL := 3) (ret := some .int) (ty := .int) (by decide) rfl rfl (Nat.le_of_ble_eq_true rfl) (lv := [(0, .ref (w 0)), (1, .int (ji_n (j : Int))), (2, .int (ji_n o))]) rfl (fun v h => rfl) ?_
  intro p e s m args below meth c R Q ls hx hb hts hown hml hR hB hl hend
  obtain ⟨hP, hN⟩ := hB
  have hK := hN.1
  have hinX0 : ∀ w ∈ u_ws RX0 TX0 4, w ∈ wsX0_shortByte := fun w h => List.mem_cons_of_mem _ (inX0 w h)
  have hfl12 := (hts _ (List.mem_cons_of_mem _ tm_57))
  have hinX1 : ∀ w ∈ u_ws RX1 TX1 4, w ∈ wsX0_shortByte := fun w h => List.mem_cons_of_mem _ (inX1 w h)
  have hS0 := hS
  have hn := hAS.1
  have hg := hAS.2.1
  have ho := hAS.2.2.1
  obtain ⟨hst, hfm, hvl⟩ := hS
  have hgj := hg j (by omega)
  unfold sp_gd at hgj
  have hoj := ho j (by omega)
  have hfj := sp_fm_or (K j) (z j)
  have hlj := sp_lg_or (B j)
  have hlb := sp_lb_or (n := n) (A := A) (B := B) (z := z) (j := j) o h3
  have hlo : sp_lo (sp_ds n K A z j) = sp_ds n K A z j % 256 := rfl
  refine lv_iload_n hx hb dX0_shortByte_0 rfl (lv_at hl 2 rfl) ?_
  refine jn_if_ne hx hb dX0_shortByte_1 (tgt := 19) rfl (by unfold ji_r; omega) (fun hc1 => ?_) (fun hc1 => ?_)
  · skip
    refine lv_aload_n hx hb dX0_shortByte_19 rfl (lv_at hl 0 rfl) ?_
    refine lv_iload_n hx hb dX0_shortByte_20 rfl (lv_at hl 1 rfl) ?_
    refine cl_rd (va_runV (As := [.int (ji_n (j : Int))]) (rest := []) ⟨hx, hb, hml, hown, hts⟩ (ct_distance l dC dI cI w n g0 g1 g2 st fm vl K A B z hF hAS hst hvl j (by omega) (by omega)) (cwV 1 hts (ub_V tm_147 tm_149 tm_s4 tm_3 tm_150) rfl rfl rfl (by decide +kernel) (by rw [hR]; exact ⟨Nat.le_of_ble_eq_true rfl, Nat.le_of_ble_eq_true rfl⟩)) (pv_rd (q0 := 0) (ci := 0) hN hP rfl rfl) rfl rfl hl.1 rfl (lv_room (Nat.le_of_ble_eq_true rfl)) dX0_shortByte_21 ⟨Nat.zero_le _, Nat.zero_le _⟩) ?_
    have hds := sp_AS_ds hAS (j := j) (by omega)
    refine jn_sipush hx hb dX0_shortByte_24 (by decide) ?_
    refine jn_and255 hx hb dX0_shortByte_27 ?_
    exact hend _ _ _ dX0_shortByte_28 (congrArg ji_n (by omega))
  · skip
    refine jn_bipush hx hb dX0_shortByte_4 (by decide) ?_
    refine lv_aload_n hx hb dX0_shortByte_6 rfl (lv_at hl 0 rfl) ?_
    refine va_get (ci := 0) (C := RX0) (T := TX0) (N := 4) hx hb hts hinX0 hown hK hP 0 rfl rfl 0 (by decide) hfl12 (fun _ h9 => h9) rfl dX0_shortByte_7 ?_
    refine va_getN (ci := 1) (C := RX1) (T := TX1) (N := 4) hx hb hts hinX1 hown hK hP 4 rfl rfl 2 (by decide) (va_Nw.use rfl (nw_8 hN)) (fun _ h9 => h9) rfl dX0_shortByte_10 ?_
    refine lv_iload_n hx hb dX0_shortByte_13 rfl (lv_at hl 1 rfl) ?_
    refine jn_iald hx hb hK hP 7 0 rfl rfl j (by omega) (by omega) (by decide) (v := B j) (hF.2.2 j (by omega)) dX0_shortByte_14 ?_
    refine jn_iadd hx hb dX0_shortByte_15 (v := 32 + (B j)) rfl ?_
    refine lv_goto hx hb dX0_shortByte_16 (tgt := 28) rfl ?_
    exact hend _ _ _ dX0_shortByte_28 (congrArg ji_n (by omega))

set_option maxHeartbeats 4000000 in
set_option maxRecDepth 100000 in
theorem ct_longByte (l : Launch) (dC : Nat → ClassId) (dI : Nat → Nat → Nat) (cI : ClassId) (w : Nat → Nat) (n : Nat) (g0 g1 g2 st fm vl : Nat → Int32) (K A B z : Nat → Int) (hF : as_F n K A B g0 g1 g2) (hAS : sp_AS n K A B z) (hS : as_S n K A z st fm vl) (j : Nat) (hj : j < n) (o : Int) (h3 : K j = 3) (ho0 : 0 ≤ o) (hoz : o < z j) (hz2 : z j ≠ 2) : Met l yX0_longByte wsX0_longByte { frames := 1, cells := 0, slots := 0, locals := 22 } (va_Pc [.ref (w 0), .int (ji_n (j : Int)), .int (ji_n o)] (fun U => va_P (dC, dI) vwCl (wo_A w cI n g0 g1 g2 st fm vl) U.heap ∧ kn_K dC dI cI U)) (vp_Si (fun r => r = ji_n (sp_lb n K A B z j o))) 0 0 (fun _ => False) := by
  refine st_rd (cc := cX0_longByte) (maxL := 4) (ret := some .int) (ty := .int) (by decide) rfl rfl (Nat.le_of_ble_eq_true rfl) (lv := [(0, .ref (w 0)), (1, .int (ji_n (j : Int))), (2, .int (ji_n o))]) rfl (fun v h => rfl) ?_
  intro p e s m args below meth c R Q ls hx hb hts hown hml hR hB hl hend
  obtain ⟨hP, hN⟩ := hB
  have hK := hN.1
  have hinX0 : ∀ w ∈ u_ws RX0 TX0 4, w ∈ wsX0_longByte := fun w h => List.mem_cons_of_mem _ (inX0 w h)
  have hfl12 := (hts _ (List.mem_cons_of_mem _ tm_57))
  have hinX1 : ∀ w ∈ u_ws RX1 TX1 4, w ∈ wsX0_longByte := fun w h => List.mem_cons_of_mem _ (inX1 w h)
  have hS0 := hS
  have hn := hAS.1
  have hg := hAS.2.1
  have ho := hAS.2.2.1
  obtain ⟨hst, hfm, hvl⟩ := hS
  have hgj := hg j (by omega)
  unfold sp_gd at hgj
  have hoj := ho j (by omega)
  have hfj := sp_fm_or (K j) (z j)
  have hlj := sp_lg_or (B j)
  have hlb := sp_lb_or (n := n) (A := A) (B := B) (z := z) (j := j) o h3
  have hlo : sp_lo (sp_ds n K A z j) = sp_ds n K A z j % 256 := rfl
  refine lv_aload_n hx hb dX0_longByte_0 rfl (lv_at hl 0 rfl) ?_
  refine lv_iload_n hx hb dX0_longByte_1 rfl (lv_at hl 1 rfl) ?_
  refine cl_rd (va_runV (As := [.int (ji_n (j : Int))]) (rest := []) ⟨hx, hb, hml, hown, hts⟩ (ct_lineSize l dC dI cI w n g0 g1 g2 st fm vl K A B z hF hn hg ho hfm j (by omega)) (cwV 1 hts (ub_V tm_140 tm_142 tm_s3 tm_3 tm_143) rfl rfl rfl (by decide +kernel) (by rw [hR]; exact ⟨Nat.le_of_ble_eq_true rfl, Nat.le_of_ble_eq_true rfl⟩)) (pv_rd (q0 := 0) (ci := 0) hN hP rfl rfl) rfl rfl hl.1 rfl (lv_room (Nat.le_of_ble_eq_true rfl)) dX0_longByte_2 ⟨Nat.zero_le _, Nat.zero_le _⟩) ?_
  refine jn_iconst hx hb dX0_longByte_5 ?_
  refine jn_isub hx hb dX0_longByte_6 (v := (z j) - 3) rfl ?_
  refine lv_istore_n (lv' := [(3, .int (ji_n ((z j) - 3))), (0, .ref (w 0)), (1, .int (ji_n (j : Int))), (2, .int (ji_n o))]) hx hb dX0_longByte_7 rfl hl (by decide) rfl (fun ls hl => ?_)
  refine lv_iload_n hx hb dX0_longByte_8 rfl (lv_at hl 3 rfl) ?_
  refine lv_iload_n hx hb dX0_longByte_9 rfl (lv_at hl 0 rfl) ?_
  refine jn_icmp_ge hx hb dX0_longByte_10 (tgt := 34) rfl (by unfold ji_r; omega) (by unfold ji_r; omega) (fun hc1 => ?_) (fun hc1 => ?_)
  · skip
    refine lv_iload_n hx hb dX0_longByte_34 rfl (lv_at hl 3 rfl) ?_
    refine lv_iload_n hx hb dX0_longByte_35 rfl (lv_at hl 0 rfl) ?_
    refine jn_icmp_ne hx hb dX0_longByte_36 (tgt := 44) rfl (by unfold ji_r; omega) (by unfold ji_r; omega) (fun hc2 => ?_) (fun hc2 => ?_)
    · skip
      refine lv_aload_n hx hb dX0_longByte_44 rfl (lv_at hl 1 rfl) ?_
      refine lv_iload_n hx hb dX0_longByte_45 rfl (lv_at hl 2 rfl) ?_
      refine cl_rd (va_runV (As := [.int (ji_n (j : Int))]) (rest := []) ⟨hx, hb, hml, hown, hts⟩ (ct_distance l dC dI cI w n g0 g1 g2 st fm vl K A B z hF hAS hst hvl j (by omega) (by omega)) (cwV 1 hts (ub_V tm_147 tm_149 tm_s4 tm_3 tm_150) rfl rfl rfl (by decide +kernel) (by rw [hR]; exact ⟨Nat.le_of_ble_eq_true rfl, Nat.le_of_ble_eq_true rfl⟩)) (pv_rd (q0 := 0) (ci := 0) hN hP rfl rfl) rfl rfl hl.1 rfl (lv_room (Nat.le_of_ble_eq_true rfl)) dX0_longByte_46 ⟨Nat.zero_le _, Nat.zero_le _⟩) ?_
      have hds := sp_AS_ds hAS (j := j) (by omega)
      refine lv_iload_n hx hb dX0_longByte_49 rfl (lv_at hl 3 rfl) ?_
      refine lv_iload_n hx hb dX0_longByte_50 rfl (lv_at hl 0 rfl) ?_
      refine jn_isub hx hb dX0_longByte_51 (v := o - ((z j) - 3)) rfl ?_
      refine jn_iconst hx hb dX0_longByte_52 ?_
      refine jn_isub hx hb dX0_longByte_53 (v := (o - ((z j) - 3)) - 1) rfl ?_
      refine cl_rd (va_runS (As := [.int (ji_n (sp_ds n K A z j)), .int (ji_n ((o - ((z j) - 3)) - 1))]) (rest := []) ⟨hx, hb, hml, hown, hts⟩ (ct_pairByte l (sp_ds n K A z j) ((o - ((z j) - 3)) - 1) (by unfold ji_r; omega) (by unfold ji_r; omega)) (va_cwS 2 hts (ub_S tm_133 tm_134 tm_3 tm_135) rfl rfl rfl (by decide +kernel) (by rw [hR]; exact ⟨Nat.le_of_ble_eq_true rfl, Nat.le_of_ble_eq_true rfl⟩)) ⟨fun _ _ _ _ q => q, fun U _ _ => ⟨rfl, trivial⟩⟩ rfl rfl hl.1 rfl (lv_room (Nat.le_of_ble_eq_true rfl)) dX0_longByte_54 ⟨Nat.zero_le _, Nat.zero_le _⟩) ?_
      exact hend _ _ _ dX0_longByte_57 (congrArg ji_n (by have hpb := sp_pb_or (sp_ds n K A z j) (o - (z j - 3) - 1); omega))
    · skip
      refine jn_bipush hx hb dX0_longByte_39 (by decide) ?_
      refine lv_goto hx hb dX0_longByte_41 (tgt := 57) rfl ?_
      exact hend _ _ _ dX0_longByte_57 (congrArg ji_n (by have hpb := sp_pb_or (sp_ds n K A z j) (o - (z j - 3) - 1); omega))
  · skip
    refine lv_iload_n hx hb dX0_longByte_13 rfl (lv_at hl 3 rfl) ?_
    refine jn_if_ne hx hb dX0_longByte_14 (tgt := 32) rfl (by unfold ji_r; omega) (fun hc3 => ?_) (fun hc3 => ?_)
    · skip
      refine jn_iconst hx hb dX0_longByte_32 ?_
      exact hend _ _ _ dX0_longByte_33 (congrArg ji_n (by have hpb := sp_pb_or (sp_ds n K A z j) (o - (z j - 3) - 1); omega))
    · skip
      refine lv_aload_n hx hb dX0_longByte_17 rfl (lv_at hl 1 rfl) ?_
      refine va_get (ci := 0) (C := RX0) (T := TX0) (N := 4) hx hb hts hinX0 hown hK hP 0 rfl rfl 0 (by decide) hfl12 (fun _ h9 => h9) rfl dX0_longByte_18 ?_
      refine va_getN (ci := 1) (C := RX1) (T := TX1) (N := 4) hx hb hts hinX1 hown hK hP 4 rfl rfl 2 (by decide) (va_Nw.use rfl (nw_8 hN)) (fun _ h9 => h9) rfl dX0_longByte_21 ?_
      refine lv_iload_n hx hb dX0_longByte_24 rfl (lv_at hl 2 rfl) ?_
      refine jn_iald hx hb hK hP 7 0 rfl rfl j (by omega) (by omega) (by decide) (v := B j) (hF.2.2 j (by omega)) dX0_longByte_25 ?_
      refine cl_rd (va_runS (As := [.int (ji_n (B j))]) (rest := []) ⟨hx, hb, hml, hown, hts⟩ (ct_opposite l (B j) (by omega)) (va_cwS 1 hts (ub_S tm_144 tm_145 tm_3 tm_146) rfl rfl rfl (by decide +kernel) (by rw [hR]; exact ⟨Nat.le_of_ble_eq_true rfl, Nat.le_of_ble_eq_true rfl⟩)) ⟨fun _ _ _ _ q => q, fun U _ _ => ⟨rfl, trivial⟩⟩ rfl rfl hl.1 rfl (lv_room (Nat.le_of_ble_eq_true rfl)) dX0_longByte_26 ⟨Nat.zero_le _, Nat.zero_le _⟩) ?_
      refine lv_goto hx hb dX0_longByte_29 (tgt := 33) rfl ?_
      exact hend _ _ _ dX0_longByte_33 (congrArg ji_n (by have hpb := sp_pb_or (sp_ds n K A z j) (o - (z j - 3) - 1); omega))

set_option maxHeartbeats 4000000 in
set_option maxRecDepth 100000 in
theorem ct_lineByte (l : Launch) (dC : Nat → ClassId) (dI : Nat → Nat → Nat) (cI : ClassId) (w : Nat → Nat) (n : Nat) (g0 g1 g2 st fm vl : Nat → Int32) (K A B z : Nat → Int) (hF : as_F n K A B g0 g1 g2) (hAS : sp_AS n K A B z) (hS : as_S n K A z st fm vl) (j : Nat) (hj : j < n) (o : Int) (ho0 : 0 ≤ o) (hoz : o < z j) : Met l yX0_lineByte wsX0_lineByte { frames := 2, cells := 0, slots := 0, locals := 45 } (va_Pc [.ref (w 0), .int (ji_n (j : Int)), .int (ji_n o)] (fun U => va_P (dC, dI) vwCl (wo_A w cI n g0 g1 g2 st fm vl) U.heap ∧ kn_K dC dI cI U)) (vp_Si (fun r => r = ji_n (sp_lb n K A B z j o))) 0 0 (fun _ => False) := by
  refine st_rd (cc := cX0_lineByte) (maxL := 4) (ret := some .int) (ty := .int) (by decide) rfl rfl (Nat.le_of_ble_eq_true rfl) (lv := [(0, .ref (w 0)), (1, .int (ji_n (j : Int))), (2, .int (ji_n o))]) rfl (fun v h => rfl) ?_
  intro p e s m args below meth c R Q ls hx hb hts hown hml hR hB hl hend
  obtain ⟨hP, hN⟩ := hB
  have hK := hN.1
  have hinX0 : ∀ w ∈ u_ws RX0 TX0 4, w ∈ wsX0_lineByte := fun w h => List.mem_cons_of_mem _ (inX0 w h)
  have hfl12 := (hts _ (List.mem_cons_of_mem _ tm_57))
  have hfl18 := (hts _ (List.mem_cons_of_mem _ tm_59))
  have hfl22 := (hts _ (List.mem_cons_of_mem _ tm_61))
  have hfl25 := (hts _ (List.mem_cons_of_mem _ tm_63))
  have hinX1 : ∀ w ∈ u_ws RX1 TX1 4, w ∈ wsX0_lineByte := fun w h => List.mem_cons_of_mem _ (inX1 w h)
  have hS0 := hS
  have hn := hAS.1
  have hg := hAS.2.1
  have ho := hAS.2.2.1
  obtain ⟨hst, hfm, hvl⟩ := hS
  have hgj := hg j (by omega)
  unfold sp_gd at hgj
  have hoj := ho j (by omega)
  have hfj := sp_fm_or (K j) (z j)
  have hlj := sp_lg_or (B j)
  have hla := sp_AS_la hAS (Nat.le_refl n) (A j)
  refine lv_aload_n hx hb dX0_lineByte_0 rfl (lv_at hl 0 rfl) ?_
  refine va_get (ci := 0) (C := RX0) (T := TX0) (N := 4) hx hb hts hinX0 hown hK hP 0 rfl rfl 0 (by decide) hfl12 (fun _ h9 => h9) rfl dX0_lineByte_1 ?_
  refine va_getN (ci := 1) (C := RX1) (T := TX1) (N := 4) hx hb hts hinX1 hown hK hP 4 rfl rfl 0 (by decide) (va_Nw.use rfl (nw_6 hN)) (fun _ h9 => h9) rfl dX0_lineByte_4 ?_
  refine lv_iload_n hx hb dX0_lineByte_7 rfl (lv_at hl 1 rfl) ?_
  refine jn_iald hx hb hK hP 5 0 rfl rfl j (by omega) (by omega) (by decide) (v := K j) (hF.1 j (by omega)) dX0_lineByte_8 ?_
  refine lv_istore_n (lv' := [(3, .int (ji_n (K j))), (0, .ref (w 0)), (1, .int (ji_n (j : Int))), (2, .int (ji_n o))]) hx hb dX0_lineByte_9 rfl hl (by decide) rfl (fun ls hl => ?_)
  refine lv_iload_n hx hb dX0_lineByte_10 rfl (lv_at hl 0 rfl) ?_
  refine jn_iconst hx hb dX0_lineByte_11 ?_
  refine jn_icmp_ne hx hb dX0_lineByte_12 (tgt := 25) rfl (by unfold ji_r; omega) (by unfold ji_r; omega) (fun hc1 => ?_) (fun hc1 => ?_)
  · skip
    refine lv_iload_n hx hb dX0_lineByte_25 rfl (lv_at hl 0 rfl) ?_
    refine jn_iconst hx hb dX0_lineByte_26 ?_
    refine jn_icmp_ne hx hb dX0_lineByte_27 (tgt := 59) rfl (by unfold ji_r; omega) (by unfold ji_r; omega) (fun hc2 => ?_) (fun hc2 => ?_)
    · skip
      refine lv_aload_n hx hb dX0_lineByte_59 rfl (lv_at hl 1 rfl) ?_
      refine va_get (ci := 0) (C := RX0) (T := TX0) (N := 4) hx hb hts hinX0 hown hK hP 0 rfl rfl 2 (by decide) hfl22 (fun _ h9 => h9) rfl dX0_lineByte_60 ?_
      refine lv_iload_n hx hb dX0_lineByte_63 rfl (lv_at hl 2 rfl) ?_
      refine jn_iald hx hb hK hP 2 0 rfl rfl j (by omega) (by omega) (by decide) (v := sp_fm (K j) (z j)) (hfm j (by omega)) dX0_lineByte_64 ?_
      refine jn_iconst hx hb dX0_lineByte_65 ?_
      refine jn_icmp_ne hx hb dX0_lineByte_66 (tgt := 78) rfl (by unfold ji_r; omega) (by unfold ji_r; omega) (fun hc3 => ?_) (fun hc3 => ?_)
      · skip
        refine lv_aload_n hx hb dX0_lineByte_78 rfl (lv_at hl 1 rfl) ?_
        refine lv_iload_n hx hb dX0_lineByte_79 rfl (lv_at hl 2 rfl) ?_
        refine lv_iload_n hx hb dX0_lineByte_80 rfl (lv_at hl 3 rfl) ?_
        refine cl_rd (va_runV (As := [.int (ji_n (j : Int)), .int (ji_n o)]) (rest := []) ⟨hx, hb, hml, hown, hts⟩ (ct_shortByte l dC dI cI w n g0 g1 g2 st fm vl K A B z hF hAS hS0 j hj o (by omega) ho0 hoz (by omega)) (cwV 2 hts (ub_V tm_151 tm_153 tm_s5 tm_3 tm_154) rfl rfl rfl (by decide +kernel) (by rw [hR]; exact ⟨Nat.le_of_ble_eq_true rfl, Nat.le_of_ble_eq_true rfl⟩)) (pv_rd (q0 := 0) (ci := 0) hN hP rfl rfl) rfl rfl hl.1 rfl (lv_room (Nat.le_of_ble_eq_true rfl)) dX0_lineByte_81 ⟨Nat.zero_le _, Nat.zero_le _⟩) ?_
        exact hend _ _ _ dX0_lineByte_84 rfl
      · skip
        refine lv_aload_n hx hb dX0_lineByte_69 rfl (lv_at hl 1 rfl) ?_
        refine lv_iload_n hx hb dX0_lineByte_70 rfl (lv_at hl 2 rfl) ?_
        refine lv_iload_n hx hb dX0_lineByte_71 rfl (lv_at hl 3 rfl) ?_
        refine cl_rd (va_runV (As := [.int (ji_n (j : Int)), .int (ji_n o)]) (rest := []) ⟨hx, hb, hml, hown, hts⟩ (ct_longByte l dC dI cI w n g0 g1 g2 st fm vl K A B z hF hAS hS0 j hj o (by omega) ho0 hoz (by omega)) (cwV 2 hts (ub_V tm_136 tm_138 tm_s2 tm_3 tm_139) rfl rfl rfl (by decide +kernel) (by rw [hR]; exact ⟨Nat.le_of_ble_eq_true rfl, Nat.le_of_ble_eq_true rfl⟩)) (pv_rd (q0 := 0) (ci := 0) hN hP rfl rfl) rfl rfl hl.1 rfl (lv_room (Nat.le_of_ble_eq_true rfl)) dX0_lineByte_72 ⟨Nat.zero_le _, Nat.zero_le _⟩) ?_
        refine lv_goto hx hb dX0_lineByte_75 (tgt := 84) rfl ?_
        exact hend _ _ _ dX0_lineByte_84 rfl
    · skip
      refine lv_aload_n hx hb dX0_lineByte_30 rfl (lv_at hl 1 rfl) ?_
      refine va_get (ci := 0) (C := RX0) (T := TX0) (N := 4) hx hb hts hinX0 hown hK hP 0 rfl rfl 3 (by decide) hfl25 (fun _ h9 => h9) rfl dX0_lineByte_31 ?_
      refine lv_aload_n hx hb dX0_lineByte_34 rfl (lv_at hl 1 rfl) ?_
      refine va_get (ci := 0) (C := RX0) (T := TX0) (N := 4) hx hb hts hinX0 hown hK hP 0 rfl rfl 0 (by decide) hfl12 (fun _ h9 => h9) rfl dX0_lineByte_35 ?_
      refine va_getN (ci := 1) (C := RX1) (T := TX1) (N := 4) hx hb hts hinX1 hown hK hP 4 rfl rfl 1 (by decide) (va_Nw.use rfl (nw_7 hN)) (fun _ h9 => h9) rfl dX0_lineByte_38 ?_
      refine lv_iload_n hx hb dX0_lineByte_41 rfl (lv_at hl 2 rfl) ?_
      refine jn_iald hx hb hK hP 6 0 rfl rfl j (by omega) (by omega) (by decide) (v := A j) (hF.2.1 j (by omega)) dX0_lineByte_42 ?_
      refine jn_iald hx hb hK hP 3 0 rfl rfl ((A j).toNat) (by omega) (by omega) (by decide) (v := sp_la K A z n (A j)) (hvl (A j) (by omega) (by omega)) dX0_lineByte_43 ?_
      refine lv_aload_n hx hb dX0_lineByte_44 rfl (lv_at hl 1 rfl) ?_
      refine va_get (ci := 0) (C := RX0) (T := TX0) (N := 4) hx hb hts hinX0 hown hK hP 0 rfl rfl 0 (by decide) hfl12 (fun _ h9 => h9) rfl dX0_lineByte_45 ?_
      refine va_getN (ci := 1) (C := RX1) (T := TX1) (N := 4) hx hb hts hinX1 hown hK hP 4 rfl rfl 2 (by decide) (va_Nw.use rfl (nw_8 hN)) (fun _ h9 => h9) rfl dX0_lineByte_48 ?_
      refine lv_iload_n hx hb dX0_lineByte_51 rfl (lv_at hl 2 rfl) ?_
      refine jn_iald hx hb hK hP 7 0 rfl rfl j (by omega) (by omega) (by decide) (v := B j) (hF.2.2 j (by omega)) dX0_lineByte_52 ?_
      refine jn_iadd hx hb dX0_lineByte_53 (v := (sp_la K A z n (A j)) + (B j)) rfl ?_
      refine lv_iload_n hx hb dX0_lineByte_54 rfl (lv_at hl 3 rfl) ?_
      refine cl_rd (va_runS (As := [.int (ji_n ((sp_la K A z n (A j)) + (B j))), .int (ji_n o)]) (rest := []) ⟨hx, hb, hml, hown, hts⟩ (ct_pairByte l ((sp_la K A z n (A j)) + (B j)) o (by unfold ji_r; omega) (by unfold ji_r; omega)) (va_cwS 2 hts (ub_S tm_133 tm_134 tm_3 tm_135) rfl rfl rfl (by decide +kernel) (by rw [hR]; exact ⟨Nat.le_of_ble_eq_true rfl, Nat.le_of_ble_eq_true rfl⟩)) ⟨fun _ _ _ _ q => q, fun U _ _ => ⟨rfl, trivial⟩⟩ rfl rfl hl.1 rfl (lv_room (Nat.le_of_ble_eq_true rfl)) dX0_lineByte_55 ⟨Nat.zero_le _, Nat.zero_le _⟩) ?_
      exact hend _ _ _ dX0_lineByte_58 (congrArg ji_n (sp_lb_2 (by omega)).symm)
  · skip
    refine lv_aload_n hx hb dX0_lineByte_15 rfl (lv_at hl 1 rfl) ?_
    refine va_get (ci := 0) (C := RX0) (T := TX0) (N := 4) hx hb hts hinX0 hown hK hP 0 rfl rfl 0 (by decide) hfl12 (fun _ h9 => h9) rfl dX0_lineByte_16 ?_
    refine va_getN (ci := 1) (C := RX1) (T := TX1) (N := 4) hx hb hts hinX1 hown hK hP 4 rfl rfl 2 (by decide) (va_Nw.use rfl (nw_8 hN)) (fun _ h9 => h9) rfl dX0_lineByte_19 ?_
    refine lv_iload_n hx hb dX0_lineByte_22 rfl (lv_at hl 2 rfl) ?_
    refine jn_iald hx hb hK hP 7 0 rfl rfl j (by omega) (by omega) (by decide) (v := B j) (hF.2.2 j (by omega)) dX0_lineByte_23 ?_
    exact hend _ _ _ dX0_lineByte_24 (congrArg ji_n (sp_lb_1 (by omega)).symm)

set_option maxHeartbeats 4000000 in
set_option maxRecDepth 100000 in
theorem ct_byteAt (l : Launch) (dC : Nat → ClassId) (dI : Nat → Nat → Nat) (cI : ClassId) (w : Nat → Nat) (n : Nat) (g0 g1 g2 st fm vl : Nat → Int32) (K A B z : Nat → Int) (hF : as_F n K A B g0 g1 g2) (hAS : sp_AS n K A B z) (hS : as_S n K A z st fm vl) (x : Int) (r1 : ji_r x) : Met l yX0_byteAt wsX0_byteAt { frames := 3, cells := 0, slots := 0, locals := 68 } (va_Pc [.ref (w 0), .int (ji_n x)] (fun U => va_P (dC, dI) vwCl (wo_A w cI n g0 g1 g2 st fm vl) U.heap ∧ kn_K dC dI cI U)) (vp_Si (fun r => r = ji_n (sp_ba n K A B z x))) 0 0 (fun _ => False) := by
  refine st_rd (cc := cX0_byteAt) (maxL := 3) (ret := some .int) (ty := .int) (by decide) rfl rfl (Nat.le_of_ble_eq_true rfl) (lv := [(0, .ref (w 0)), (1, .int (ji_n x))]) rfl (fun v h => rfl) ?_
  intro p e s m args below meth c R Q ls hx hb hts hown hml hR hB hl hend
  obtain ⟨hP, hN⟩ := hB
  have hK := hN.1
  have hinX0 : ∀ w ∈ u_ws RX0 TX0 4, w ∈ wsX0_byteAt := fun w h => List.mem_cons_of_mem _ (inX0 w h)
  have hfl12 := (hts _ (List.mem_cons_of_mem _ tm_57))
  have hfl18 := (hts _ (List.mem_cons_of_mem _ tm_59))
  have hinX1 : ∀ w ∈ u_ws RX1 TX1 4, w ∈ wsX0_byteAt := fun w h => List.mem_cons_of_mem _ (inX1 w h)
  have hS0 := hS
  have hn := hAS.1
  have hg := hAS.2.1
  have ho := hAS.2.2.1
  obtain ⟨hst, hfm, hvl⟩ := hS
  refine lv_iload_n hx hb dX0_byteAt_0 rfl (lv_at hl 1 rfl) ?_
  refine jn_if_ge hx hb dX0_byteAt_1 (tgt := 6) rfl r1 (fun hc1 => ?_) (fun hc1 => ?_)
  · skip
    refine jn_iconst hx hb dX0_byteAt_6 ?_
    refine lv_istore_n (lv' := [(2, .int (ji_n 0)), (0, .ref (w 0)), (1, .int (ji_n x))]) hx hb dX0_byteAt_7 rfl hl (by decide) rfl (fun ls hl => ?_)
    have loop2 : ∀ i : Nat, i ≤ n → ∀ ls : Array Slot, lv_has ls 3 [(2, .int (ji_n (i : Int))), (0, .ref (w 0)), (1, .int (ji_n x))] → sp_pz z i ≤ x → W p l e R s m args below meth c s.heap [] 0 0 Q (F0 m 8 ls []) := by
      refine lp_up n ?_
      intro i hi_i ih3 ls hl hq
      have hp0 := sp_AS_p hAS (i := i) (by omega)
      refine lv_iload_n hx hb dX0_byteAt_8 rfl (lv_at hl 0 rfl) ?_
      refine lv_aload_n hx hb dX0_byteAt_9 rfl (lv_at hl 1 rfl) ?_
      refine va_get (ci := 0) (C := RX0) (T := TX0) (N := 4) hx hb hts hinX0 hown hK hP 0 rfl rfl 0 (by decide) hfl12 (fun _ h9 => h9) rfl dX0_byteAt_10 ?_
      refine va_getN (ci := 1) (C := RX1) (T := TX1) (N := 4) hx hb hts hinX1 hown hK hP 4 rfl rfl 3 (by decide) (va_Nw.use rfl (nw_5 hN)) (fun _ h9 => h9) rfl dX0_byteAt_13 ?_
      refine jn_icmp_ge hx hb dX0_byteAt_16 (tgt := 51) rfl (by unfold ji_r; omega) (by unfold ji_r; omega) (fun hc4 => ?_) (fun hc4 => ?_)
      · skip
        refine jn_iconst hx hb dX0_byteAt_51 ?_
        exact hend _ _ _ dX0_byteAt_52 (congrArg ji_n (sp_ba_no hAS (by right; have he : i = n := (by omega); rw [he] at hq; omega)).symm)
      · skip
        have hp1 := sp_AS_p hAS (i := i + 1) (by omega)
        refine lv_iload_n hx hb dX0_byteAt_19 rfl (lv_at hl 2 rfl) ?_
        refine lv_aload_n hx hb dX0_byteAt_20 rfl (lv_at hl 1 rfl) ?_
        refine va_get (ci := 0) (C := RX0) (T := TX0) (N := 4) hx hb hts hinX0 hown hK hP 0 rfl rfl 1 (by decide) hfl18 (fun _ h9 => h9) rfl dX0_byteAt_21 ?_
        refine lv_iload_n hx hb dX0_byteAt_24 rfl (lv_at hl 0 rfl) ?_
        refine jn_iconst hx hb dX0_byteAt_25 ?_
        refine jn_iadd hx hb dX0_byteAt_26 (v := (i : Int) + 1) rfl ?_
        refine jn_iald hx hb hK hP 1 0 rfl rfl (i + 1) (by omega) (by omega) (by decide) (v := sp_pz z (i + 1)) (hst (i + 1) (by omega)) dX0_byteAt_27 ?_
        refine jn_icmp_ge hx hb dX0_byteAt_28 (tgt := 45) rfl r1 (by unfold ji_r; omega) (fun hc5 => ?_) (fun hc5 => ?_)
        · skip
          refine jn_iinc (lv' := [(2, .int (ji_n ((i : Int) + 1))), (0, .ref (w 0)), (1, .int (ji_n x))]) (k := 0) (v := (i : Int) + 1) hx hb dX0_byteAt_45 hl rfl rfl (by decide) rfl (fun ls hl => ?_)
          refine lv_goto hx hb dX0_byteAt_48 (tgt := 8) rfl ?_
          have hl : lv_has ls 3 [(2, .int (ji_n ((i + 1 : Nat) : Int))), (0, .ref (w 0)), (1, .int (ji_n x))] := by
            have hl2 := lv_sub hl (l' := [(2, .int (ji_n ((i : Int) + 1))), (0, .ref (w 0)), (1, .int (ji_n x))]) [0, 1, 2] rfl
            rw [show (ji_n ((i : Int) + 1)) = (ji_n ((i + 1 : Nat) : Int)) from (congrArg ji_n (by omega))] at hl2
            exact hl2
          exact ih3 (by omega) ls hl (by omega)
        · skip
          refine lv_aload_n hx hb dX0_byteAt_31 rfl (lv_at hl 1 rfl) ?_
          refine lv_iload_n hx hb dX0_byteAt_32 rfl (lv_at hl 0 rfl) ?_
          refine lv_iload_n hx hb dX0_byteAt_33 rfl (lv_at hl 2 rfl) ?_
          refine lv_aload_n hx hb dX0_byteAt_34 rfl (lv_at hl 1 rfl) ?_
          refine va_get (ci := 0) (C := RX0) (T := TX0) (N := 4) hx hb hts hinX0 hown hK hP 0 rfl rfl 1 (by decide) hfl18 (fun _ h9 => h9) rfl dX0_byteAt_35 ?_
          refine lv_iload_n hx hb dX0_byteAt_38 rfl (lv_at hl 0 rfl) ?_
          refine jn_iald hx hb hK hP 1 0 rfl rfl i (by omega) (by omega) (by decide) (v := sp_pz z i) (hst i (by omega)) dX0_byteAt_39 ?_
          refine jn_isub hx hb dX0_byteAt_40 (v := x - (sp_pz z i)) rfl ?_
          refine cl_rd (va_runV (As := [.int (ji_n (i : Int)), .int (ji_n (x - (sp_pz z i)))]) (rest := []) ⟨hx, hb, hml, hown, hts⟩ (ct_lineByte l dC dI cI w n g0 g1 g2 st fm vl K A B z hF hAS hS0 i (by omega) (x - sp_pz z i) (by omega) (by have := sp_pz_s z i; omega)) (cwV 2 hts (ub_V tm_129 tm_131 tm_s1 tm_3 tm_132) rfl rfl rfl (by decide +kernel) (by rw [hR]; exact ⟨Nat.le_of_ble_eq_true rfl, Nat.le_of_ble_eq_true rfl⟩)) (pv_rd (q0 := 0) (ci := 0) hN hP rfl rfl) rfl rfl hl.1 rfl (lv_room (Nat.le_of_ble_eq_true rfl)) dX0_byteAt_41 ⟨Nat.zero_le _, Nat.zero_le _⟩) ?_
          exact hend _ _ _ dX0_byteAt_44 (congrArg ji_n (sp_ba_at hAS (by omega) (by omega) (by omega)).symm)
    have hl : lv_has ls 3 [(2, .int (ji_n ((0 : Nat) : Int))), (0, .ref (w 0)), (1, .int (ji_n x))] := lv_sub hl [0, 1, 2] rfl
    exact loop2 0 (by omega) ls hl (by have : sp_pz z 0 = 0 := rfl; omega)
  · skip
    refine jn_iconst hx hb dX0_byteAt_4 ?_
    exact hend _ _ _ dX0_byteAt_5 (congrArg ji_n (sp_ba_no hAS (by left; omega)).symm)

set_option maxHeartbeats 4000000 in
set_option maxRecDepth 100000 in
theorem ct_opSize (l : Launch) (dC : Nat → ClassId) (dI : Nat → Nat → Nat) (cI : ClassId) (w : Nat → Nat) (n : Nat) (g0 g1 g2 st fm vl : Nat → Int32) (K A B z : Nat → Int) (hF : as_F n K A B g0 g1 g2) (hAS : sp_AS n K A B z) (hS : as_S n K A z st fm vl) (x : Int) (r1 : ji_r x) : Met l yX0_operationSize wsX0_operationSize { frames := 4, cells := 0, slots := 0, locals := 90 } (va_Pc [.ref (w 0), .int (ji_n x)] (fun U => va_P (dC, dI) vwCl (wo_A w cI n g0 g1 g2 st fm vl) U.heap ∧ kn_K dC dI cI U)) (vp_Si (fun r => r = ji_n (sp_os n K A B z x))) 0 0 (fun _ => False) := by
  refine st_rd (cc := cX0_operationSize) (maxL := 4) (ret := some .int) (ty := .int) (by decide) rfl rfl (Nat.le_of_ble_eq_true rfl) (lv := [(0, .ref (w 0)), (1, .int (ji_n x))]) rfl (fun v h => rfl) ?_
  intro p e s m args below meth c R Q ls hx hb hts hown hml hR hB hl hend
  obtain ⟨hP, hN⟩ := hB
  have hK := hN.1
  have hS0 := hS
  have hn := hAS.1
  have hg := hAS.2.1
  have ho := hAS.2.2.1
  obtain ⟨hst, hfm, hvl⟩ := hS
  have hnd := sp_nd_or (sp_ba n K A B z x)
  refine lv_aload_n hx hb dX0_operationSize_0 rfl (lv_at hl 0 rfl) ?_
  refine lv_iload_n hx hb dX0_operationSize_1 rfl (lv_at hl 1 rfl) ?_
  refine cl_rd (va_runV (As := [.int (ji_n x)]) (rest := []) ⟨hx, hb, hml, hown, hts⟩ (ct_byteAt l dC dI cI w n g0 g1 g2 st fm vl K A B z hF hAS hS0 x r1) (cwV 1 hts (ub_V tm_184 tm_126 tm_127 tm_3 tm_128) rfl rfl rfl (by decide +kernel) (by rw [hR]; exact ⟨Nat.le_of_ble_eq_true rfl, Nat.le_of_ble_eq_true rfl⟩)) (pv_rd (q0 := 0) (ci := 0) hN hP rfl rfl) rfl rfl hl.1 rfl (lv_room (Nat.le_of_ble_eq_true rfl)) dX0_operationSize_2 ⟨Nat.zero_le _, Nat.zero_le _⟩) ?_
  have hb2 := sp_ba_b hAS x
  refine lv_istore_n (lv' := [(2, .int (ji_n (sp_ba n K A B z x))), (0, .ref (w 0)), (1, .int (ji_n x))]) hx hb dX0_operationSize_5 rfl hl (by decide) rfl (fun ls hl => ?_)
  refine lv_iload_n hx hb dX0_operationSize_6 rfl (lv_at hl 0 rfl) ?_
  refine jn_iconst hx hb dX0_operationSize_7 ?_
  refine jn_icmp_ne hx hb dX0_operationSize_8 (tgt := 13) rfl (by unfold ji_r; omega) (by unfold ji_r; omega) (fun hc1 => ?_) (fun hc1 => ?_)
  · skip
    refine jn_iconst hx hb dX0_operationSize_13 ?_
    refine lv_istore_n (lv' := [(3, .int (ji_n 1)), (2, .int (ji_n (sp_ba n K A B z x))), (0, .ref (w 0)), (1, .int (ji_n x))]) hx hb dX0_operationSize_14 rfl hl (by decide) rfl (fun ls hl => ?_)
    refine lv_iload_n hx hb dX0_operationSize_15 rfl (lv_at hl 1 rfl) ?_
    refine jn_bipush hx hb dX0_operationSize_16 (by decide) ?_
    refine jn_bipush hx hb dX0_operationSize_18 (by decide) ?_
    refine cl_rd (va_runSN (As := [.int (ji_n (sp_ba n K A B z x)), .int (ji_n 32), .int (ji_n 47)]) (rest := []) ⟨hx, hb, hml, hown, hts⟩ (ct_isWithin l (sp_ba n K A B z x) 32 47 (by unfold ji_r; omega) (by unfold ji_r; omega) (by unfold ji_r; omega)) ⟨(va_cnB 3 hts (ub_I tm_93) rfl rfl rfl (nw_9 hN) (hts _ (List.mem_cons_of_mem _ tm_1)) (by decide +kernel) (by rw [hR]; exact ⟨Nat.le_of_ble_eq_true rfl, Nat.le_of_ble_eq_true rfl⟩)), (hts _ (List.mem_cons_of_mem _ tm_92)), trivial⟩ ⟨fun _ _ _ _ q => q, fun U _ _ => ⟨rfl, trivial⟩⟩ rfl rfl hl.1 rfl (lv_room (Nat.le_of_ble_eq_true rfl)) dX0_operationSize_20 ⟨Nat.zero_le _, Nat.zero_le _⟩) ?_
    have hw20 := sp_wi_or (sp_ba n K A B z x) 32 47
    refine jn_if_eq hx hb dX0_operationSize_23 (tgt := 31) rfl (by unfold ji_r; omega) (fun hc2 => ?_) (fun hc2 => ?_)
    · skip
      refine lv_iload_n hx hb dX0_operationSize_31 rfl (lv_at hl 1 rfl) ?_
      refine jn_bipush hx hb dX0_operationSize_32 (by decide) ?_
      refine jn_icmp_ne hx hb dX0_operationSize_34 (tgt := 39) rfl (by unfold ji_r; omega) (by unfold ji_r; omega) (fun hc3 => ?_) (fun hc3 => ?_)
      · skip
        refine lv_iload_n hx hb dX0_operationSize_39 rfl (lv_at hl 0 rfl) ?_
        refine lv_aload_n hx hb dX0_operationSize_40 rfl (lv_at hl 2 rfl) ?_
        refine cl_rd (va_runV (As := []) (rest := [.int (ji_n 1)]) ⟨hx, hb, hml, hown, hts⟩ (ct_size l dC dI cI w n g0 g1 g2 st fm vl K A B z hF hAS hS0) (cwV 0 hts (ub_V tm_186 tm_187 tm_188 tm_3 tm_189) rfl rfl rfl (by decide +kernel) (by rw [hR]; exact ⟨Nat.le_of_ble_eq_true rfl, Nat.le_of_ble_eq_true rfl⟩)) (pv_rd (q0 := 0) (ci := 0) hN hP rfl rfl) rfl rfl hl.1 rfl (lv_room (Nat.le_of_ble_eq_true rfl)) dX0_operationSize_41 ⟨Nat.zero_le _, Nat.zero_le _⟩) ?_
        have hpn := sp_AS_p hAS (Nat.le_refl n)
        refine lv_iload_n hx hb dX0_operationSize_44 rfl (lv_at hl 3 rfl) ?_
        refine jn_isub hx hb dX0_operationSize_45 (v := (sp_pz z n) - x) rfl ?_
        refine jn_icmp_gt hx hb dX0_operationSize_46 (tgt := 53) rfl (by unfold ji_r; omega) (by unfold ji_r; omega) (fun hc4 => ?_) (fun hc4 => ?_)
        · skip
          refine jn_iconst hx hb dX0_operationSize_53 ?_
          exact hend _ _ _ dX0_operationSize_54 (congrArg ji_n (by unfold sp_os; (repeat' split) <;> omega))
        · skip
          refine lv_iload_n hx hb dX0_operationSize_49 rfl (lv_at hl 0 rfl) ?_
          refine lv_goto hx hb dX0_operationSize_50 (tgt := 54) rfl ?_
          exact hend _ _ _ dX0_operationSize_54 (congrArg ji_n (by unfold sp_os; (repeat' split) <;> omega))
      · skip
        refine jn_iconst hx hb dX0_operationSize_37 ?_
        refine lv_istore_n (lv' := [(3, .int (ji_n 3)), (2, .int (ji_n (sp_ba n K A B z x))), (0, .ref (w 0)), (1, .int (ji_n x))]) hx hb dX0_operationSize_38 rfl hl (by decide) rfl (fun ls hl => ?_)
        refine lv_iload_n hx hb dX0_operationSize_39 rfl (lv_at hl 0 rfl) ?_
        refine lv_aload_n hx hb dX0_operationSize_40 rfl (lv_at hl 2 rfl) ?_
        refine cl_rd (va_runV (As := []) (rest := [.int (ji_n 3)]) ⟨hx, hb, hml, hown, hts⟩ (ct_size l dC dI cI w n g0 g1 g2 st fm vl K A B z hF hAS hS0) (cwV 0 hts (ub_V tm_186 tm_187 tm_188 tm_3 tm_189) rfl rfl rfl (by decide +kernel) (by rw [hR]; exact ⟨Nat.le_of_ble_eq_true rfl, Nat.le_of_ble_eq_true rfl⟩)) (pv_rd (q0 := 0) (ci := 0) hN hP rfl rfl) rfl rfl hl.1 rfl (lv_room (Nat.le_of_ble_eq_true rfl)) dX0_operationSize_41 ⟨Nat.zero_le _, Nat.zero_le _⟩) ?_
        have hpn := sp_AS_p hAS (Nat.le_refl n)
        refine lv_iload_n hx hb dX0_operationSize_44 rfl (lv_at hl 3 rfl) ?_
        refine jn_isub hx hb dX0_operationSize_45 (v := (sp_pz z n) - x) rfl ?_
        refine jn_icmp_gt hx hb dX0_operationSize_46 (tgt := 53) rfl (by unfold ji_r; omega) (by unfold ji_r; omega) (fun hc5 => ?_) (fun hc5 => ?_)
        · skip
          refine jn_iconst hx hb dX0_operationSize_53 ?_
          exact hend _ _ _ dX0_operationSize_54 (congrArg ji_n (by unfold sp_os; (repeat' split) <;> omega))
        · skip
          refine lv_iload_n hx hb dX0_operationSize_49 rfl (lv_at hl 0 rfl) ?_
          refine lv_goto hx hb dX0_operationSize_50 (tgt := 54) rfl ?_
          exact hend _ _ _ dX0_operationSize_54 (congrArg ji_n (by unfold sp_os; (repeat' split) <;> omega))
    · skip
      refine jn_iconst hx hb dX0_operationSize_26 ?_
      refine lv_istore_n (lv' := [(3, .int (ji_n 2)), (2, .int (ji_n (sp_ba n K A B z x))), (0, .ref (w 0)), (1, .int (ji_n x))]) hx hb dX0_operationSize_27 rfl hl (by decide) rfl (fun ls hl => ?_)
      refine lv_goto hx hb dX0_operationSize_28 (tgt := 39) rfl ?_
      refine lv_iload_n hx hb dX0_operationSize_39 rfl (lv_at hl 0 rfl) ?_
      refine lv_aload_n hx hb dX0_operationSize_40 rfl (lv_at hl 2 rfl) ?_
      refine cl_rd (va_runV (As := []) (rest := [.int (ji_n 2)]) ⟨hx, hb, hml, hown, hts⟩ (ct_size l dC dI cI w n g0 g1 g2 st fm vl K A B z hF hAS hS0) (cwV 0 hts (ub_V tm_186 tm_187 tm_188 tm_3 tm_189) rfl rfl rfl (by decide +kernel) (by rw [hR]; exact ⟨Nat.le_of_ble_eq_true rfl, Nat.le_of_ble_eq_true rfl⟩)) (pv_rd (q0 := 0) (ci := 0) hN hP rfl rfl) rfl rfl hl.1 rfl (lv_room (Nat.le_of_ble_eq_true rfl)) dX0_operationSize_41 ⟨Nat.zero_le _, Nat.zero_le _⟩) ?_
      have hpn := sp_AS_p hAS (Nat.le_refl n)
      refine lv_iload_n hx hb dX0_operationSize_44 rfl (lv_at hl 3 rfl) ?_
      refine jn_isub hx hb dX0_operationSize_45 (v := (sp_pz z n) - x) rfl ?_
      refine jn_icmp_gt hx hb dX0_operationSize_46 (tgt := 53) rfl (by unfold ji_r; omega) (by unfold ji_r; omega) (fun hc6 => ?_) (fun hc6 => ?_)
      · skip
        refine jn_iconst hx hb dX0_operationSize_53 ?_
        exact hend _ _ _ dX0_operationSize_54 (congrArg ji_n (by unfold sp_os; (repeat' split) <;> omega))
      · skip
        refine lv_iload_n hx hb dX0_operationSize_49 rfl (lv_at hl 0 rfl) ?_
        refine lv_goto hx hb dX0_operationSize_50 (tgt := 54) rfl ?_
        exact hend _ _ _ dX0_operationSize_54 (congrArg ji_n (by unfold sp_os; (repeat' split) <;> omega))
  · skip
    refine jn_iconst hx hb dX0_operationSize_11 ?_
    exact hend _ _ _ dX0_operationSize_12 (congrArg ji_n (by unfold sp_os; (repeat' split) <;> omega))

set_option maxHeartbeats 4000000 in
set_option maxRecDepth 100000 in
theorem ct_always (l : Launch) (dC : Nat → ClassId) (dI : Nat → Nat → Nat) (cI : ClassId) (w : Nat → Nat) (n : Nat) (g0 g1 g2 st fm vl : Nat → Int32) (K A B z : Nat → Int) (hF : as_F n K A B g0 g1 g2) (hAS : sp_AS n K A B z) (hS : as_S n K A z st fm vl) (x : Int) (r1 : ji_r x) : Met l yX0_goesAlways wsX0_goesAlways { frames := 4, cells := 0, slots := 0, locals := 90 } (va_Pc [.ref (w 0), .int (ji_n x)] (fun U => va_P (dC, dI) vwCl (wo_A w cI n g0 g1 g2 st fm vl) U.heap ∧ kn_K dC dI cI U)) (vp_Si (fun r => r = ji_n (sp_ai n K A B z x))) 0 0 (fun _ => False) := by
  refine st_rd (cc := cX0_goesAlways) (maxL := 3) (ret := some .boolean) (ty := .boolean) (by decide) rfl rfl (Nat.le_of_ble_eq_true rfl) (lv := [(0, .ref (w 0)), (1, .int (ji_n x))]) rfl (fun v h => by rw [h]; exact nb_b (sp_ai_b _ _ _ _ _ _)) ?_
  intro p e s m args below meth c R Q ls hx hb hts hown hml hR hB hl hend
  obtain ⟨hP, hN⟩ := hB
  have hK := hN.1
  have hS0 := hS
  have hn := hAS.1
  have hg := hAS.2.1
  have ho := hAS.2.2.1
  obtain ⟨hst, hfm, hvl⟩ := hS
  refine lv_aload_n hx hb dX0_goesAlways_0 rfl (lv_at hl 0 rfl) ?_
  refine lv_iload_n hx hb dX0_goesAlways_1 rfl (lv_at hl 1 rfl) ?_
  refine cl_rd (va_runV (As := [.int (ji_n x)]) (rest := []) ⟨hx, hb, hml, hown, hts⟩ (ct_byteAt l dC dI cI w n g0 g1 g2 st fm vl K A B z hF hAS hS0 x r1) (cwV 1 hts (ub_V tm_184 tm_126 tm_127 tm_3 tm_128) rfl rfl rfl (by decide +kernel) (by rw [hR]; exact ⟨Nat.le_of_ble_eq_true rfl, Nat.le_of_ble_eq_true rfl⟩)) (pv_rd (q0 := 0) (ci := 0) hN hP rfl rfl) rfl rfl hl.1 rfl (lv_room (Nat.le_of_ble_eq_true rfl)) dX0_goesAlways_2 ⟨Nat.zero_le _, Nat.zero_le _⟩) ?_
  have hb2 := sp_ba_b hAS x
  refine lv_istore_n (lv' := [(2, .int (ji_n (sp_ba n K A B z x))), (0, .ref (w 0)), (1, .int (ji_n x))]) hx hb dX0_goesAlways_5 rfl hl (by decide) rfl (fun ls hl => ?_)
  refine lv_iload_n hx hb dX0_goesAlways_6 rfl (lv_at hl 0 rfl) ?_
  refine jn_bipush hx hb dX0_goesAlways_7 (by decide) ?_
  refine jn_icmp_eq hx hb dX0_goesAlways_9 (tgt := 18) rfl (by unfold ji_r; omega) (by unfold ji_r; omega) (fun hc1 => ?_) (fun hc1 => ?_)
  · skip
    refine jn_iconst hx hb dX0_goesAlways_18 ?_
    refine lv_goto hx hb dX0_goesAlways_19 (tgt := 23) rfl ?_
    exact hend _ _ _ dX0_goesAlways_23 (congrArg ji_n (by unfold sp_ai; split <;> omega))
  · skip
    refine lv_iload_n hx hb dX0_goesAlways_12 rfl (lv_at hl 0 rfl) ?_
    refine jn_bipush hx hb dX0_goesAlways_13 (by decide) ?_
    refine jn_icmp_ne hx hb dX0_goesAlways_15 (tgt := 22) rfl (by unfold ji_r; omega) (by unfold ji_r; omega) (fun hc2 => ?_) (fun hc2 => ?_)
    · skip
      refine jn_iconst hx hb dX0_goesAlways_22 ?_
      exact hend _ _ _ dX0_goesAlways_23 (congrArg ji_n (by unfold sp_ai; split <;> omega))
    · skip
      refine jn_iconst hx hb dX0_goesAlways_18 ?_
      refine lv_goto hx hb dX0_goesAlways_19 (tgt := 23) rfl ?_
      exact hend _ _ _ dX0_goesAlways_23 (congrArg ji_n (by unfold sp_ai; split <;> omega))

set_option maxHeartbeats 4000000 in
set_option maxRecDepth 100000 in
theorem ct_target (l : Launch) (dC : Nat → ClassId) (dI : Nat → Nat → Nat) (cI : ClassId) (w : Nat → Nat) (n : Nat) (g0 g1 g2 st fm vl : Nat → Int32) (K A B z : Nat → Int) (hF : as_F n K A B g0 g1 g2) (hAS : sp_AS n K A B z) (hS : as_S n K A z st fm vl) (x y : Int) (hos : y = sp_os n K A B z x) (h0 : y ≠ 0) : Met l yX0_target wsX0_target { frames := 4, cells := 0, slots := 0, locals := 90 } (va_Pc [.ref (w 0), .int (ji_n x), .int (ji_n y)] (fun U => va_P (dC, dI) vwCl (wo_A w cI n g0 g1 g2 st fm vl) U.heap ∧ kn_K dC dI cI U)) (vp_Si (fun r => r = ji_n (sp_tg n K A B z x y))) 0 0 (fun _ => False) := by
  refine st_rd (cc := cX0_target) (maxL := 4) (ret := some .int) (ty := .int) (by decide) rfl rfl (Nat.le_of_ble_eq_true rfl) (lv := [(0, .ref (w 0)), (1, .int (ji_n x)), (2, .int (ji_n y))]) rfl (fun v h => rfl) ?_
  intro p e s m args below meth c R Q ls hx hb hts hown hml hR hB hl hend
  obtain ⟨hP, hN⟩ := hB
  have hK := hN.1
  have hS0 := hS
  have hn := hAS.1
  have hg := hAS.2.1
  have ho := hAS.2.2.1
  obtain ⟨hst, hfm, hvl⟩ := hS
  have hob := sp_os_b hAS x
  have hpn := sp_AS_p hAS (Nat.le_refl n)
  have hsb1 := sp_sb_or (sp_ba n K A B z (x + 1))
  refine lv_iload_n hx hb dX0_target_0 rfl (lv_at hl 1 rfl) ?_
  refine lv_iload_n hx hb dX0_target_1 rfl (lv_at hl 2 rfl) ?_
  refine jn_iadd hx hb dX0_target_2 (v := x + y) rfl ?_
  refine lv_istore_n (lv' := [(3, .int (ji_n (x + y))), (0, .ref (w 0)), (1, .int (ji_n x)), (2, .int (ji_n y))]) hx hb dX0_target_3 rfl hl (by decide) rfl (fun ls hl => ?_)
  refine lv_iload_n hx hb dX0_target_4 rfl (lv_at hl 3 rfl) ?_
  refine jn_iconst hx hb dX0_target_5 ?_
  refine jn_icmp_ne hx hb dX0_target_6 (tgt := 20) rfl (by unfold ji_r; omega) (by unfold ji_r; omega) (fun hc1 => ?_) (fun hc1 => ?_)
  · skip
    refine lv_iload_n hx hb dX0_target_20 rfl (lv_at hl 3 rfl) ?_
    refine jn_iconst hx hb dX0_target_21 ?_
    refine jn_icmp_ne hx hb dX0_target_22 (tgt := 48) rfl (by unfold ji_r; omega) (by unfold ji_r; omega) (fun hc2 => ?_) (fun hc2 => ?_)
    · skip
      refine lv_iload_n hx hb dX0_target_48 rfl (lv_at hl 0 rfl) ?_
      exact hend _ _ _ dX0_target_49 (congrArg ji_n (by unfold sp_tg; (repeat' split) <;> omega))
    · skip
      refine lv_iload_n hx hb dX0_target_25 rfl (lv_at hl 0 rfl) ?_
      refine lv_aload_n hx hb dX0_target_26 rfl (lv_at hl 1 rfl) ?_
      refine lv_iload_n hx hb dX0_target_27 rfl (lv_at hl 2 rfl) ?_
      refine jn_iconst hx hb dX0_target_28 ?_
      refine jn_iadd hx hb dX0_target_29 (v := x + 1) rfl ?_
      refine cl_rd (va_runV (As := [.int (ji_n (x + 1))]) (rest := [.int (ji_n (x + y))]) ⟨hx, hb, hml, hown, hts⟩ (ct_byteAt l dC dI cI w n g0 g1 g2 st fm vl K A B z hF hAS hS0 (x + 1) (by unfold ji_r; omega)) (cwV 1 hts (ub_V tm_184 tm_126 tm_127 tm_3 tm_128) rfl rfl rfl (by decide +kernel) (by rw [hR]; exact ⟨Nat.le_of_ble_eq_true rfl, Nat.le_of_ble_eq_true rfl⟩)) (pv_rd (q0 := 0) (ci := 0) hN hP rfl rfl) rfl rfl hl.1 rfl (lv_room (Nat.le_of_ble_eq_true rfl)) dX0_target_30 ⟨Nat.zero_le _, Nat.zero_le _⟩) ?_
      have hb30 := sp_ba_b hAS (x + 1)
      refine jn_sipush hx hb dX0_target_33 (by decide) ?_
      refine jn_imul hx hb dX0_target_36 (v := (sp_ba n K A B z (x + 1)) * 256) rfl ?_
      refine lv_aload_n hx hb dX0_target_37 rfl (lv_at hl 1 rfl) ?_
      refine lv_iload_n hx hb dX0_target_38 rfl (lv_at hl 2 rfl) ?_
      refine jn_iconst hx hb dX0_target_39 ?_
      refine jn_iadd hx hb dX0_target_40 (v := x + 2) rfl ?_
      refine cl_rd (va_runV (As := [.int (ji_n (x + 2))]) (rest := [.int (ji_n ((sp_ba n K A B z (x + 1)) * 256)), .int (ji_n (x + y))]) ⟨hx, hb, hml, hown, hts⟩ (ct_byteAt l dC dI cI w n g0 g1 g2 st fm vl K A B z hF hAS hS0 (x + 2) (by unfold ji_r; omega)) (cwV 1 hts (ub_V tm_184 tm_126 tm_127 tm_3 tm_128) rfl rfl rfl (by decide +kernel) (by rw [hR]; exact ⟨Nat.le_of_ble_eq_true rfl, Nat.le_of_ble_eq_true rfl⟩)) (pv_rd (q0 := 0) (ci := 0) hN hP rfl rfl) rfl rfl hl.1 rfl (lv_room (Nat.le_of_ble_eq_true rfl)) dX0_target_41 ⟨Nat.zero_le _, Nat.zero_le _⟩) ?_
      have hb41 := sp_ba_b hAS (x + 2)
      refine jn_iadd hx hb dX0_target_44 (v := ((sp_ba n K A B z (x + 1)) * 256) + (sp_ba n K A B z (x + 2))) rfl ?_
      refine jn_i2s hx hb dX0_target_45 (by omega) ?_
      have hsh := sp_sh_or (((sp_ba n K A B z (x + 1)) * 256) + (sp_ba n K A B z (x + 2)))
      refine jn_iadd hx hb dX0_target_46 (v := (x + y) + (sp_sh (((sp_ba n K A B z (x + 1)) * 256) + (sp_ba n K A B z (x + 2))))) rfl ?_
      exact hend _ _ _ dX0_target_47 (congrArg ji_n (by unfold sp_tg; (repeat' split) <;> omega))
  · skip
    refine lv_iload_n hx hb dX0_target_9 rfl (lv_at hl 0 rfl) ?_
    refine lv_aload_n hx hb dX0_target_10 rfl (lv_at hl 1 rfl) ?_
    refine lv_iload_n hx hb dX0_target_11 rfl (lv_at hl 2 rfl) ?_
    refine jn_iconst hx hb dX0_target_12 ?_
    refine jn_iadd hx hb dX0_target_13 (v := x + 1) rfl ?_
    refine cl_rd (va_runV (As := [.int (ji_n (x + 1))]) (rest := [.int (ji_n (x + y))]) ⟨hx, hb, hml, hown, hts⟩ (ct_byteAt l dC dI cI w n g0 g1 g2 st fm vl K A B z hF hAS hS0 (x + 1) (by unfold ji_r; omega)) (cwV 1 hts (ub_V tm_184 tm_126 tm_127 tm_3 tm_128) rfl rfl rfl (by decide +kernel) (by rw [hR]; exact ⟨Nat.le_of_ble_eq_true rfl, Nat.le_of_ble_eq_true rfl⟩)) (pv_rd (q0 := 0) (ci := 0) hN hP rfl rfl) rfl rfl hl.1 rfl (lv_room (Nat.le_of_ble_eq_true rfl)) dX0_target_14 ⟨Nat.zero_le _, Nat.zero_le _⟩) ?_
    have hb14 := sp_ba_b hAS (x + 1)
    refine jn_i2b hx hb dX0_target_17 (by omega) ?_
    have hsb := sp_sb_or (sp_ba n K A B z (x + 1))
    refine jn_iadd hx hb dX0_target_18 (v := (x + y) + (sp_sb (sp_ba n K A B z (x + 1)))) rfl ?_
    exact hend _ _ _ dX0_target_19 (congrArg ji_n (by unfold sp_tg; (repeat' split) <;> omega))
end
section
set_option maxHeartbeats 4000000 in
set_option maxRecDepth 100000 in
theorem ct_shift (l : Launch) (size_ : Nat) (dC : Nat → ClassId) (dI : Nat → Nat → Nat) (cI : ClassId) (v : Nat → Nat) (n : Nat) (f0 f1 f2 : Nat → Int32) (x y k : Nat) (h4 : x + k ≤ 50) (h5 : y + k ≤ 50) : Met l yX1_shift wsX1_shift { frames := 1, cells := 0, slots := 0, locals := 18 } (va_Pc [.ref (v 0), .int (ji_n (x : Int)), .int (ji_n (y : Int)), .int (ji_n (k : Int))] (wr_B (dC, dI) vwCl (wo_P v cI n f0 f1 f2) size_ (kn_K dC dI cI))) (wr_Qv (fun H => va_P (dC, dI) vwCl (wo_P v cI n (va_cpy f0 f0 x y k) (va_cpy f1 f1 x y k) (va_cpy f2 f2 x y k)) H) (va_A (wo_P v cI n f0 f1 f2) size_)) 0 0 (va_A (wo_P v cI n f0 f1 f2) size_) := by
  refine st_wv (cc := cX1_shift) (maxL := 4) (by decide) rfl (Nat.le_of_ble_eq_true rfl) (lv := [(0, .ref (v 0)), (1, .int (ji_n (x : Int))), (2, .int (ji_n (y : Int))), (3, .int (ji_n (k : Int)))]) rfl ?_
  intro p e s m args below meth c R Q ls A9 hx hb hts hown hml hR hP hD hA hS hN hl hend
  have hK := hN.1
  have hinX1 : ∀ w ∈ u_ws RX1 TX1 4, w ∈ wsX1_shift := fun w h => List.mem_cons_of_mem _ (inX1 w h)
  have hfl9 := (hts _ (List.mem_cons_of_mem _ tm_27))
  have hfl15 := (hts _ (List.mem_cons_of_mem _ tm_29))
  have hfl18 := (hts _ (List.mem_cons_of_mem _ tm_31))
  have hlink := (hts _ (List.mem_cons_of_mem _ tm_102))
  have hnat := (hts _ (List.mem_cons_of_mem _ tm_104))
  have hstat := (hts _ (List.mem_cons_of_mem _ tm_103))
  have hini := (hts _ (List.mem_cons_of_mem _ tm_6))
  refine lv_aload_n hx hb dX1_shift_0 rfl (lv_at hl 0 rfl) ?_
  refine va_get (ci := 1) (C := RX1) (T := TX1) (N := 4) hx hb hts hinX1 hown hK hP 0 rfl rfl 0 (by decide) hfl9 (fun _ h9 => h9) rfl dX1_shift_1 ?_
  refine lv_iload_n hx hb dX1_shift_4 rfl (lv_at hl 1 rfl) ?_
  refine lv_aload_n hx hb dX1_shift_5 rfl (lv_at hl 0 rfl) ?_
  refine va_get (ci := 1) (C := RX1) (T := TX1) (N := 4) hx hb hts hinX1 hown hK hP 0 rfl rfl 0 (by decide) hfl9 (fun _ h9 => h9) rfl dX1_shift_6 ?_
  refine lv_iload_n hx hb dX1_shift_9 rfl (lv_at hl 2 rfl) ?_
  refine lv_iload_n hx hb dX1_shift_10 rfl (lv_at hl 3 rfl) ?_
  refine jn_copy hx hb (hml.trans hl.1.symm) hown hlink hnat hstat hini hK hP hD hS 1 1 0 rfl rfl rfl x y k (by omega) (by omega) (by omega) (by omega) (by omega) (by decide) (by decide) (by rw [hR]; exact Nat.le_of_ble_eq_true rfl) (by rw [hR]; exact Nat.le_of_ble_eq_true rfl) dX1_shift_11 (fun H locs hP hD hS => ?_)
  have hP : va_P (dC, dI) vwCl (wo_P v cI n (va_cpy f0 f0 x y k) f1 f2) H := hP
  have hD : va_D A9 (wo_P v cI n (va_cpy f0 f0 x y k) f1 f2) := hD
  refine lv_aload_n hx hb dX1_shift_14 rfl (lv_at hl 0 rfl) ?_
  refine va_get (ci := 1) (C := RX1) (T := TX1) (N := 4) hx hb hts hinX1 hown hK hP 0 rfl rfl 1 (by decide) hfl15 (fun _ h9 => h9) rfl dX1_shift_15 ?_
  refine lv_iload_n hx hb dX1_shift_18 rfl (lv_at hl 1 rfl) ?_
  refine lv_aload_n hx hb dX1_shift_19 rfl (lv_at hl 0 rfl) ?_
  refine va_get (ci := 1) (C := RX1) (T := TX1) (N := 4) hx hb hts hinX1 hown hK hP 0 rfl rfl 1 (by decide) hfl15 (fun _ h9 => h9) rfl dX1_shift_20 ?_
  refine lv_iload_n hx hb dX1_shift_23 rfl (lv_at hl 2 rfl) ?_
  refine lv_iload_n hx hb dX1_shift_24 rfl (lv_at hl 3 rfl) ?_
  refine jn_copy hx hb (hml.trans hl.1.symm) hown hlink hnat hstat hini hK hP hD hS 2 2 0 rfl rfl rfl x y k (by omega) (by omega) (by omega) (by omega) (by omega) (by decide) (by decide) (by rw [hR]; exact Nat.le_of_ble_eq_true rfl) (by rw [hR]; exact Nat.le_of_ble_eq_true rfl) dX1_shift_25 (fun H locs hP hD hS => ?_)
  have hP : va_P (dC, dI) vwCl (wo_P v cI n (va_cpy f0 f0 x y k) (va_cpy f1 f1 x y k) f2) H := hP
  have hD : va_D A9 (wo_P v cI n (va_cpy f0 f0 x y k) (va_cpy f1 f1 x y k) f2) := hD
  refine lv_aload_n hx hb dX1_shift_28 rfl (lv_at hl 0 rfl) ?_
  refine va_get (ci := 1) (C := RX1) (T := TX1) (N := 4) hx hb hts hinX1 hown hK hP 0 rfl rfl 2 (by decide) hfl18 (fun _ h9 => h9) rfl dX1_shift_29 ?_
  refine lv_iload_n hx hb dX1_shift_32 rfl (lv_at hl 1 rfl) ?_
  refine lv_aload_n hx hb dX1_shift_33 rfl (lv_at hl 0 rfl) ?_
  refine va_get (ci := 1) (C := RX1) (T := TX1) (N := 4) hx hb hts hinX1 hown hK hP 0 rfl rfl 2 (by decide) hfl18 (fun _ h9 => h9) rfl dX1_shift_34 ?_
  refine lv_iload_n hx hb dX1_shift_37 rfl (lv_at hl 2 rfl) ?_
  refine lv_iload_n hx hb dX1_shift_38 rfl (lv_at hl 3 rfl) ?_
  refine jn_copy hx hb (hml.trans hl.1.symm) hown hlink hnat hstat hini hK hP hD hS 3 3 0 rfl rfl rfl x y k (by omega) (by omega) (by omega) (by omega) (by omega) (by decide) (by decide) (by rw [hR]; exact Nat.le_of_ble_eq_true rfl) (by rw [hR]; exact Nat.le_of_ble_eq_true rfl) dX1_shift_39 (fun H locs hP hD hS => ?_)
  have hP : va_P (dC, dI) vwCl (wo_P v cI n (va_cpy f0 f0 x y k) (va_cpy f1 f1 x y k) (va_cpy f2 f2 x y k)) H := hP
  have hD : va_D A9 (wo_P v cI n (va_cpy f0 f0 x y k) (va_cpy f1 f1 x y k) (va_cpy f2 f2 x y k)) := hD
  exact hend _ _ _ _ dX1_shift_42 hP hS

set_option maxHeartbeats 4000000 in
set_option maxRecDepth 100000 in
theorem ct_open (l : Launch) (size_ : Nat) (dC : Nat → ClassId) (dI : Nat → Nat → Nat) (cI : ClassId) (v : Nat → Nat) (n : Nat) (f0 f1 f2 : Nat → Int32) (K A B : Nat → Int) (hn : n ≤ 50) (hF : as_F n K A B f0 f1 f2) (y k a b : Int) (r1 : ji_r y) (r2 : ji_r k) (r3 : ji_r a) (r4 : ji_r b) : Met l yX1_open wsX1_open { frames := 2, cells := 0, slots := 0, locals := 41 } (va_Pc [.ref (v 0), .int (ji_n y), .int (ji_n k), .int (ji_n a), .int (ji_n b)] (wr_B (dC, dI) vwCl (wo_P v cI n f0 f1 f2) size_ (kn_K dC dI cI))) (wr_Qi (fun r H => (r = ji_n 1 ∧ n < 50 ∧ ∃ i : Nat, y = (i : Int) ∧ i ≤ n ∧ ∃ q0 q1 q2 : Nat → Int32, va_P (dC, dI) vwCl (wo_P v cI (n + 1) q0 q1 q2) H ∧ as_F (n + 1) (sp_in K i k) (sp_in A i a) (sp_in B i b) q0 q1 q2) ∨ (r = ji_n 0 ∧ ¬ (n < 50 ∧ 0 ≤ y ∧ y ≤ (n : Int)) ∧ va_P (dC, dI) vwCl (wo_P v cI n f0 f1 f2) H)) (va_A (wo_P v cI n f0 f1 f2) size_)) 0 0 (va_A (wo_P v cI n f0 f1 f2) size_) := by
  refine st_wi (cc := cX1_open) (maxL := 5) (ret := some .boolean) (ty := .boolean) (by decide) rfl rfl (Nat.le_of_ble_eq_true rfl) (lv := [(0, .ref (v 0)), (1, .int (ji_n y)), (2, .int (ji_n k)), (3, .int (ji_n a)), (4, .int (ji_n b))]) rfl (fun v H h => by rcases h with ⟨h, -⟩ | ⟨h, -⟩ <;> rw [h] <;> rfl) ?_
  intro p e s m args below meth c R Q ls A9 hx hb hts hown hml hR hP hD hA hS hN hl hend
  have hK := hN.1
  have hinX1 : ∀ w ∈ u_ws RX1 TX1 4, w ∈ wsX1_open := fun w h => List.mem_cons_of_mem _ (inX1 w h)
  have hfl9 := (hts _ (List.mem_cons_of_mem _ tm_27))
  have hfl15 := (hts _ (List.mem_cons_of_mem _ tm_29))
  have hfl18 := (hts _ (List.mem_cons_of_mem _ tm_31))
  have hfl21 := (hts _ (List.mem_cons_of_mem _ tm_33))
  refine lv_aload_n hx hb dX1_open_0 rfl (lv_at hl 0 rfl) ?_
  refine va_get (ci := 1) (C := RX1) (T := TX1) (N := 4) hx hb hts hinX1 hown hK hP 0 rfl rfl 3 (by decide) hfl21 (fun _ h9 => h9) rfl dX1_open_1 ?_
  refine jn_bipush hx hb dX1_open_4 (by decide) ?_
  refine jn_icmp_ge hx hb dX1_open_6 (tgt := 21) rfl (by unfold ji_r; omega) (by unfold ji_r; omega) (fun hc1 => ?_) (fun hc1 => ?_)
  · skip
    refine jn_iconst hx hb dX1_open_21 ?_
    exact hend _ _ _ _ _ dX1_open_22 (Or.inr ⟨rfl, by omega, hP⟩) hS
  · skip
    refine lv_iload_n hx hb dX1_open_9 rfl (lv_at hl 1 rfl) ?_
    refine jn_if_lt hx hb dX1_open_10 (tgt := 21) rfl r1 (fun hc2 => ?_) (fun hc2 => ?_)
    · skip
      refine jn_iconst hx hb dX1_open_21 ?_
      exact hend _ _ _ _ _ dX1_open_22 (Or.inr ⟨rfl, by omega, hP⟩) hS
    · skip
      refine lv_iload_n hx hb dX1_open_13 rfl (lv_at hl 1 rfl) ?_
      refine lv_aload_n hx hb dX1_open_14 rfl (lv_at hl 0 rfl) ?_
      refine va_get (ci := 1) (C := RX1) (T := TX1) (N := 4) hx hb hts hinX1 hown hK hP 0 rfl rfl 3 (by decide) hfl21 (fun _ h9 => h9) rfl dX1_open_15 ?_
      refine jn_icmp_le hx hb dX1_open_18 (tgt := 23) rfl r1 (by unfold ji_r; omega) (fun hc3 => ?_) (fun hc3 => ?_)
      · skip
        obtain ⟨i, rfl⟩ : ∃ i : Nat, y = (i : Int) := ⟨y.toNat, by omega⟩
        refine lv_aload_n hx hb dX1_open_23 rfl (lv_at hl 0 rfl) ?_
        refine lv_iload_n hx hb dX1_open_24 rfl (lv_at hl 1 rfl) ?_
        refine lv_iload_n hx hb dX1_open_25 rfl (lv_at hl 1 rfl) ?_
        refine jn_iconst hx hb dX1_open_26 ?_
        refine jn_iadd hx hb dX1_open_27 (v := (i : Int) + 1) rfl ?_
        refine lv_aload_n hx hb dX1_open_28 rfl (lv_at hl 0 rfl) ?_
        refine va_get (ci := 1) (C := RX1) (T := TX1) (N := 4) hx hb hts hinX1 hown hK hP 0 rfl rfl 3 (by decide) hfl21 (fun _ h9 => h9) rfl dX1_open_29 ?_
        refine lv_iload_n hx hb dX1_open_32 rfl (lv_at hl 1 rfl) ?_
        refine jn_isub hx hb dX1_open_33 (v := (n : Int) - (i : Int)) rfl ?_
        refine jn_top (v := ((n - i : Nat) : Int)) (congrArg ji_n (by omega)) ?_
        refine jn_top2 (v := ((i + 1 : Nat) : Int)) (congrArg ji_n (by omega)) ?_
        refine cl_wv (wc := wo_P v cI n f0 f1 f2) (wr := []) [0, 1, 2, 3] [] rfl rfl (by decide) (by decide) (by decide) hP hD hS hA (va_runV (As := [.int (ji_n (i : Int)), .int (ji_n ((i + 1 : Nat) : Int)), .int (ji_n ((n - i : Nat) : Int))]) (rest := []) ⟨hx, hb, hml, hown, hts⟩ (ct_shift l s.heap.size dC dI cI v n f0 f1 f2 i (i + 1) (n - i) (by omega) (by omega)) (cwV 3 hts (ub_V tm_98 tm_100 tm_s0 tm_2 tm_101) rfl rfl rfl (by decide +kernel) (by rw [hR]; exact ⟨Nat.le_of_ble_eq_true rfl, Nat.le_of_ble_eq_true rfl⟩)) (pv_wr (q0 := 0) (ci := 1) hN hP hD rfl rfl) rfl rfl hl.1 rfl (lv_room (Nat.le_of_ble_eq_true rfl)) dX1_open_34 ⟨Nat.zero_le _, Nat.zero_le _⟩) (fun H locs hPs hj hS => ?_)
        obtain ⟨hP, hD⟩ := hj (wo_P v cI n (va_cpy f0 f0 i (i + 1) (n - i)) (va_cpy f1 f1 i (i + 1) (n - i)) (va_cpy f2 f2 i (i + 1) (n - i))) rfl hPs
        have hP : va_P (dC, dI) vwCl (wo_P v cI n (va_cpy f0 f0 i (i + 1) (n - i)) (va_cpy f1 f1 i (i + 1) (n - i)) (va_cpy f2 f2 i (i + 1) (n - i))) H := hP
        have hD : va_D A9 (wo_P v cI n (va_cpy f0 f0 i (i + 1) (n - i)) (va_cpy f1 f1 i (i + 1) (n - i)) (va_cpy f2 f2 i (i + 1) (n - i))) := hD
        refine lv_aload_n hx hb dX1_open_37 rfl (lv_at hl 0 rfl) ?_
        refine va_get (ci := 1) (C := RX1) (T := TX1) (N := 4) hx hb hts hinX1 hown hK hP 0 rfl rfl 0 (by decide) hfl9 (fun _ h9 => h9) rfl dX1_open_38 ?_
        refine lv_iload_n hx hb dX1_open_41 rfl (lv_at hl 1 rfl) ?_
        refine lv_iload_n hx hb dX1_open_42 rfl (lv_at hl 2 rfl) ?_
        refine jn_iast hx hb hK hP hD hS 1 0 rfl rfl i (by omega) (by omega) (by decide) dX1_open_43 (fun H locs hP hD hS => ?_)
        have hP : va_P (dC, dI) vwCl (wo_P v cI n (upd (va_cpy f0 f0 i (i + 1) (n - i)) i (ji_n k)) (va_cpy f1 f1 i (i + 1) (n - i)) (va_cpy f2 f2 i (i + 1) (n - i))) H := hP
        have hD : va_D A9 (wo_P v cI n (upd (va_cpy f0 f0 i (i + 1) (n - i)) i (ji_n k)) (va_cpy f1 f1 i (i + 1) (n - i)) (va_cpy f2 f2 i (i + 1) (n - i))) := hD
        refine lv_aload_n hx hb dX1_open_44 rfl (lv_at hl 0 rfl) ?_
        refine va_get (ci := 1) (C := RX1) (T := TX1) (N := 4) hx hb hts hinX1 hown hK hP 0 rfl rfl 1 (by decide) hfl15 (fun _ h9 => h9) rfl dX1_open_45 ?_
        refine lv_iload_n hx hb dX1_open_48 rfl (lv_at hl 1 rfl) ?_
        refine lv_iload_n hx hb dX1_open_49 rfl (lv_at hl 3 rfl) ?_
        refine jn_iast hx hb hK hP hD hS 2 0 rfl rfl i (by omega) (by omega) (by decide) dX1_open_50 (fun H locs hP hD hS => ?_)
        have hP : va_P (dC, dI) vwCl (wo_P v cI n (upd (va_cpy f0 f0 i (i + 1) (n - i)) i (ji_n k)) (upd (va_cpy f1 f1 i (i + 1) (n - i)) i (ji_n a)) (va_cpy f2 f2 i (i + 1) (n - i))) H := hP
        have hD : va_D A9 (wo_P v cI n (upd (va_cpy f0 f0 i (i + 1) (n - i)) i (ji_n k)) (upd (va_cpy f1 f1 i (i + 1) (n - i)) i (ji_n a)) (va_cpy f2 f2 i (i + 1) (n - i))) := hD
        refine lv_aload_n hx hb dX1_open_51 rfl (lv_at hl 0 rfl) ?_
        refine va_get (ci := 1) (C := RX1) (T := TX1) (N := 4) hx hb hts hinX1 hown hK hP 0 rfl rfl 2 (by decide) hfl18 (fun _ h9 => h9) rfl dX1_open_52 ?_
        refine lv_iload_n hx hb dX1_open_55 rfl (lv_at hl 1 rfl) ?_
        refine lv_iload hx hb dX1_open_56 (lv_at hl 4 rfl) ?_
        refine jn_iast hx hb hK hP hD hS 3 0 rfl rfl i (by omega) (by omega) (by decide) dX1_open_58 (fun H locs hP hD hS => ?_)
        have hP : va_P (dC, dI) vwCl (wo_P v cI n (upd (va_cpy f0 f0 i (i + 1) (n - i)) i (ji_n k)) (upd (va_cpy f1 f1 i (i + 1) (n - i)) i (ji_n a)) (upd (va_cpy f2 f2 i (i + 1) (n - i)) i (ji_n b))) H := hP
        have hD : va_D A9 (wo_P v cI n (upd (va_cpy f0 f0 i (i + 1) (n - i)) i (ji_n k)) (upd (va_cpy f1 f1 i (i + 1) (n - i)) i (ji_n a)) (upd (va_cpy f2 f2 i (i + 1) (n - i)) i (ji_n b))) := hD
        refine lv_aload_n hx hb dX1_open_59 rfl (lv_at hl 0 rfl) ?_
        refine lv_dup hx hb dX1_open_60 rfl ?_
        refine va_get (ci := 1) (C := RX1) (T := TX1) (N := 4) hx hb hts hinX1 hown hK hP 0 rfl rfl 3 (by decide) hfl21 (fun _ h9 => h9) rfl dX1_open_61 ?_
        refine jn_iconst hx hb dX1_open_64 ?_
        refine jn_iadd hx hb dX1_open_65 (v := (n : Int) + 1) rfl ?_
        refine jn_top (v := ((n + 1 : Nat) : Int)) (congrArg ji_n (by omega)) ?_
        refine va_put (ci := 1) (C := RX1) (T := TX1) (N := 4) (ty := .int) hx hb hts hinX1 tyX1 tyX1_ok nmX1 hown hK hP hD hS 0 rfl rfl 3 (by decide) hfl21 (fun _ h9 => h9) rfl (by decide +kernel) rfl rfl (Nat.le_of_ble_eq_true rfl) dX1_open_66 (fun H locs hP hD hS => ?_)
        have hP : va_P (dC, dI) vwCl (wo_P v cI (n + 1) (upd (va_cpy f0 f0 i (i + 1) (n - i)) i (ji_n k)) (upd (va_cpy f1 f1 i (i + 1) (n - i)) i (ji_n a)) (upd (va_cpy f2 f2 i (i + 1) (n - i)) i (ji_n b))) H := hP
        have hD : va_D A9 (wo_P v cI (n + 1) (upd (va_cpy f0 f0 i (i + 1) (n - i)) i (ji_n k)) (upd (va_cpy f1 f1 i (i + 1) (n - i)) i (ji_n a)) (upd (va_cpy f2 f2 i (i + 1) (n - i)) i (ji_n b))) := hD
        refine jn_iconst hx hb dX1_open_69 ?_
        exact hend _ _ _ _ _ dX1_open_70 (Or.inl ⟨rfl, by omega, i, rfl, by omega, _, _, _, hP, as_in hF.1 (by omega), as_in hF.2.1 (by omega), as_in hF.2.2 (by omega)⟩) hS
      · skip
        refine jn_iconst hx hb dX1_open_21 ?_
        exact hend _ _ _ _ _ dX1_open_22 (Or.inr ⟨rfl, by omega, hP⟩) hS

set_option maxHeartbeats 4000000 in
set_option maxRecDepth 100000 in
theorem ct_close (l : Launch) (size_ : Nat) (dC : Nat → ClassId) (dI : Nat → Nat → Nat) (cI : ClassId) (v : Nat → Nat) (n : Nat) (f0 f1 f2 : Nat → Int32) (K A B : Nat → Int) (hn : n ≤ 50) (hF : as_F n K A B f0 f1 f2) (y : Int) (r1 : ji_r y) : Met l yX1_close wsX1_close { frames := 2, cells := 0, slots := 0, locals := 41 } (va_Pc [.ref (v 0), .int (ji_n y)] (wr_B (dC, dI) vwCl (wo_P v cI n f0 f1 f2) size_ (kn_K dC dI cI))) (wr_Qi (fun r H => (r = ji_n 1 ∧ ∃ i m : Nat, y = (i : Int) ∧ n = m + 1 ∧ i < n ∧ ∃ q0 q1 q2 : Nat → Int32, va_P (dC, dI) vwCl (wo_P v cI m q0 q1 q2) H ∧ as_F m (sp_rm K i) (sp_rm A i) (sp_rm B i) q0 q1 q2) ∨ (r = ji_n 0 ∧ ¬ (0 ≤ y ∧ y < (n : Int)) ∧ va_P (dC, dI) vwCl (wo_P v cI n f0 f1 f2) H)) (va_A (wo_P v cI n f0 f1 f2) size_)) 0 0 (va_A (wo_P v cI n f0 f1 f2) size_) := by
  refine st_wi (cc := cX1_close) (maxL := 2) (ret := some .boolean) (ty := .boolean) (by decide) rfl rfl (Nat.le_of_ble_eq_true rfl) (lv := [(0, .ref (v 0)), (1, .int (ji_n y))]) rfl (fun v H h => by rcases h with ⟨h, -⟩ | ⟨h, -⟩ <;> rw [h] <;> rfl) ?_
  intro p e s m args below meth c R Q ls A9 hx hb hts hown hml hR hP hD hA hS hN hl hend
  have hK := hN.1
  have hinX1 : ∀ w ∈ u_ws RX1 TX1 4, w ∈ wsX1_close := fun w h => List.mem_cons_of_mem _ (inX1 w h)
  have hfl21 := (hts _ (List.mem_cons_of_mem _ tm_33))
  refine lv_aload_n hx hb dX1_close_0 rfl (lv_at hl 0 rfl) ?_
  refine lv_iload_n hx hb dX1_close_1 rfl (lv_at hl 1 rfl) ?_
  refine cl_rd (va_runV (As := [.int (ji_n y)]) (rest := []) ⟨hx, hb, hml, hown, hts⟩ (ct_has l dC dI cI v n f0 f1 f2 y r1 hn) (cwV 1 hts (ub_V tm_113 tm_114 tm_115 tm_2 tm_116) rfl rfl rfl (by decide +kernel) (by rw [hR]; exact ⟨Nat.le_of_ble_eq_true rfl, Nat.le_of_ble_eq_true rfl⟩)) (pv_rd (q0 := 0) (ci := 1) hN hP rfl rfl) rfl rfl hl.1 rfl (lv_room (Nat.le_of_ble_eq_true rfl)) dX1_close_2 ⟨Nat.zero_le _, Nat.zero_le _⟩) ?_
  have hw := sp_wi_or y 0 ((n : Int) - 1)
  refine jn_if_ne hx hb dX1_close_5 (tgt := 10) rfl (by unfold ji_r; omega) (fun hc1 => ?_) (fun hc1 => ?_)
  · skip
    obtain ⟨i, rfl⟩ : ∃ i : Nat, y = (i : Int) := ⟨y.toNat, by omega⟩
    obtain ⟨n, rfl⟩ : ∃ n9 : Nat, n = n9 + 1 := ⟨n - 1, by omega⟩
    refine lv_aload_n hx hb dX1_close_10 rfl (lv_at hl 0 rfl) ?_
    refine lv_iload_n hx hb dX1_close_11 rfl (lv_at hl 1 rfl) ?_
    refine jn_iconst hx hb dX1_close_12 ?_
    refine jn_iadd hx hb dX1_close_13 (v := (i : Int) + 1) rfl ?_
    refine lv_iload_n hx hb dX1_close_14 rfl (lv_at hl 1 rfl) ?_
    refine lv_aload_n hx hb dX1_close_15 rfl (lv_at hl 0 rfl) ?_
    refine va_get (ci := 1) (C := RX1) (T := TX1) (N := 4) hx hb hts hinX1 hown hK hP 0 rfl rfl 3 (by decide) hfl21 (fun _ h9 => h9) rfl dX1_close_16 ?_
    refine lv_iload_n hx hb dX1_close_19 rfl (lv_at hl 1 rfl) ?_
    refine jn_isub hx hb dX1_close_20 (v := ((n + 1 : Nat) : Int) - (i : Int)) rfl ?_
    refine jn_iconst hx hb dX1_close_21 ?_
    refine jn_isub hx hb dX1_close_22 (v := (((n + 1 : Nat) : Int) - (i : Int)) - 1) rfl ?_
    refine jn_top (v := ((n - i : Nat) : Int)) (congrArg ji_n (by omega)) ?_
    refine jn_top3 (v := ((i + 1 : Nat) : Int)) (congrArg ji_n (by omega)) ?_
    refine cl_wv (wc := wo_P v cI (n + 1) f0 f1 f2) (wr := []) [0, 1, 2, 3] [] rfl rfl (by decide) (by decide) (by decide) hP hD hS hA (va_runV (As := [.int (ji_n ((i + 1 : Nat) : Int)), .int (ji_n (i : Int)), .int (ji_n ((n - i : Nat) : Int))]) (rest := []) ⟨hx, hb, hml, hown, hts⟩ (ct_shift l s.heap.size dC dI cI v (n + 1) f0 f1 f2 (i + 1) i (n - i) (by omega) (by omega)) (cwV 3 hts (ub_V tm_98 tm_100 tm_s0 tm_2 tm_101) rfl rfl rfl (by decide +kernel) (by rw [hR]; exact ⟨Nat.le_of_ble_eq_true rfl, Nat.le_of_ble_eq_true rfl⟩)) (pv_wr (q0 := 0) (ci := 1) hN hP hD rfl rfl) rfl rfl hl.1 rfl (lv_room (Nat.le_of_ble_eq_true rfl)) dX1_close_23 ⟨Nat.zero_le _, Nat.zero_le _⟩) (fun H locs hPs hj hS => ?_)
    obtain ⟨hP, hD⟩ := hj (wo_P v cI (n + 1) (va_cpy f0 f0 (i + 1) i (n - i)) (va_cpy f1 f1 (i + 1) i (n - i)) (va_cpy f2 f2 (i + 1) i (n - i))) rfl hPs
    have hP : va_P (dC, dI) vwCl (wo_P v cI (n + 1) (va_cpy f0 f0 (i + 1) i (n - i)) (va_cpy f1 f1 (i + 1) i (n - i)) (va_cpy f2 f2 (i + 1) i (n - i))) H := hP
    have hD : va_D A9 (wo_P v cI (n + 1) (va_cpy f0 f0 (i + 1) i (n - i)) (va_cpy f1 f1 (i + 1) i (n - i)) (va_cpy f2 f2 (i + 1) i (n - i))) := hD
    refine lv_aload_n hx hb dX1_close_26 rfl (lv_at hl 0 rfl) ?_
    refine lv_dup hx hb dX1_close_27 rfl ?_
    refine va_get (ci := 1) (C := RX1) (T := TX1) (N := 4) hx hb hts hinX1 hown hK hP 0 rfl rfl 3 (by decide) hfl21 (fun _ h9 => h9) rfl dX1_close_28 ?_
    refine jn_iconst hx hb dX1_close_31 ?_
    refine jn_isub hx hb dX1_close_32 (v := ((n + 1 : Nat) : Int) - 1) rfl ?_
    refine jn_top (v := (n : Int)) (congrArg ji_n (by omega)) ?_
    refine va_put (ci := 1) (C := RX1) (T := TX1) (N := 4) (ty := .int) hx hb hts hinX1 tyX1 tyX1_ok nmX1 hown hK hP hD hS 0 rfl rfl 3 (by decide) hfl21 (fun _ h9 => h9) rfl (by decide +kernel) rfl rfl (Nat.le_of_ble_eq_true rfl) dX1_close_33 (fun H locs hP hD hS => ?_)
    have hP : va_P (dC, dI) vwCl (wo_P v cI n (va_cpy f0 f0 (i + 1) i (n - i)) (va_cpy f1 f1 (i + 1) i (n - i)) (va_cpy f2 f2 (i + 1) i (n - i))) H := hP
    have hD : va_D A9 (wo_P v cI n (va_cpy f0 f0 (i + 1) i (n - i)) (va_cpy f1 f1 (i + 1) i (n - i)) (va_cpy f2 f2 (i + 1) i (n - i))) := hD
    refine jn_iconst hx hb dX1_close_36 ?_
    exact hend _ _ _ _ _ dX1_close_37 (Or.inl ⟨rfl, i, n, rfl, rfl, by omega, _, _, _, hP, as_rm hF.1 (by omega), as_rm hF.2.1 (by omega), as_rm hF.2.2 (by omega)⟩) hS
  · skip
    refine jn_iconst hx hb dX1_close_8 ?_
    exact hend _ _ _ _ _ dX1_close_9 (Or.inr ⟨rfl, by omega, hP⟩) hS

set_option maxHeartbeats 4000000 in
set_option maxRecDepth 100000 in
theorem ct_copyFrom (l : Launch) (size_ : Nat) (dC : Nat → ClassId) (dI : Nat → Nat → Nat) (cI : ClassId) (v : Nat → Nat) (n : Nat) (f0 f1 f2 : Nat → Int32) (u : Nat → Nat) (k : Nat) (g0 g1 g2 : Nat → Int32) (hk : k ≤ 50) : Met l yX1_copyFrom wsX1_copyFrom { frames := 1, cells := 0, slots := 0, locals := 18 } (va_Pc [.ref (v 0), .ref (u 0)] (wr_B (dC, dI) vwCl (wo_P v cI n f0 f1 f2 ++ wo_P u cI k g0 g1 g2) size_ (kn_K dC dI cI))) (wr_Qv (fun H => va_P (dC, dI) vwCl (wo_P v cI k (va_cpy g0 f0 0 0 k) (va_cpy g1 f1 0 0 k) (va_cpy g2 f2 0 0 k) ++ wo_P u cI k g0 g1 g2) H) (va_A (wo_P v cI n f0 f1 f2 ++ wo_P u cI k g0 g1 g2) size_)) 0 0 (va_A (wo_P v cI n f0 f1 f2 ++ wo_P u cI k g0 g1 g2) size_) := by
  refine st_wv (cc := cX1_copyFrom) (maxL := 2) (by decide) rfl (Nat.le_of_ble_eq_true rfl) (lv := [(0, .ref (v 0)), (1, .ref (u 0))]) rfl ?_
  intro p e s m args below meth c R Q ls A9 hx hb hts hown hml hR hP hD hA hS hN hl hend
  have hK := hN.1
  have hinX1 : ∀ w ∈ u_ws RX1 TX1 4, w ∈ wsX1_copyFrom := fun w h => List.mem_cons_of_mem _ (inX1 w h)
  have hfl9 := (hts _ (List.mem_cons_of_mem _ tm_27))
  have hfl15 := (hts _ (List.mem_cons_of_mem _ tm_29))
  have hfl18 := (hts _ (List.mem_cons_of_mem _ tm_31))
  have hfl21 := (hts _ (List.mem_cons_of_mem _ tm_33))
  have hlink := (hts _ (List.mem_cons_of_mem _ tm_102))
  have hnat := (hts _ (List.mem_cons_of_mem _ tm_104))
  have hstat := (hts _ (List.mem_cons_of_mem _ tm_103))
  have hini := (hts _ (List.mem_cons_of_mem _ tm_6))
  refine lv_aload_n hx hb dX1_copyFrom_0 rfl (lv_at hl 1 rfl) ?_
  refine va_get (ci := 1) (C := RX1) (T := TX1) (N := 4) hx hb hts hinX1 hown hK hP 4 rfl rfl 0 (by decide) hfl9 (fun _ h9 => h9) rfl dX1_copyFrom_1 ?_
  refine jn_iconst hx hb dX1_copyFrom_4 ?_
  refine lv_aload_n hx hb dX1_copyFrom_5 rfl (lv_at hl 0 rfl) ?_
  refine va_get (ci := 1) (C := RX1) (T := TX1) (N := 4) hx hb hts hinX1 hown hK hP 0 rfl rfl 0 (by decide) hfl9 (fun _ h9 => h9) rfl dX1_copyFrom_6 ?_
  refine jn_iconst hx hb dX1_copyFrom_9 ?_
  refine lv_aload_n hx hb dX1_copyFrom_10 rfl (lv_at hl 1 rfl) ?_
  refine va_get (ci := 1) (C := RX1) (T := TX1) (N := 4) hx hb hts hinX1 hown hK hP 4 rfl rfl 3 (by decide) hfl21 (fun _ h9 => h9) rfl dX1_copyFrom_11 ?_
  refine jn_copy hx hb (hml.trans hl.1.symm) hown hlink hnat hstat hini hK hP hD hS 5 1 0 rfl rfl rfl 0 0 k (by omega) (by omega) (by omega) (by omega) (by omega) (by decide) (by decide) (by rw [hR]; exact Nat.le_of_ble_eq_true rfl) (by rw [hR]; exact Nat.le_of_ble_eq_true rfl) dX1_copyFrom_14 (fun H locs hP hD hS => ?_)
  have hP : va_P (dC, dI) vwCl (wo_P v cI n (va_cpy g0 f0 0 0 k) f1 f2 ++ wo_P u cI k g0 g1 g2) H := hP
  have hD : va_D A9 (wo_P v cI n (va_cpy g0 f0 0 0 k) f1 f2 ++ wo_P u cI k g0 g1 g2) := hD
  refine lv_aload_n hx hb dX1_copyFrom_17 rfl (lv_at hl 1 rfl) ?_
  refine va_get (ci := 1) (C := RX1) (T := TX1) (N := 4) hx hb hts hinX1 hown hK hP 4 rfl rfl 1 (by decide) hfl15 (fun _ h9 => h9) rfl dX1_copyFrom_18 ?_
  refine jn_iconst hx hb dX1_copyFrom_21 ?_
  refine lv_aload_n hx hb dX1_copyFrom_22 rfl (lv_at hl 0 rfl) ?_
  refine va_get (ci := 1) (C := RX1) (T := TX1) (N := 4) hx hb hts hinX1 hown hK hP 0 rfl rfl 1 (by decide) hfl15 (fun _ h9 => h9) rfl dX1_copyFrom_23 ?_
  refine jn_iconst hx hb dX1_copyFrom_26 ?_
  refine lv_aload_n hx hb dX1_copyFrom_27 rfl (lv_at hl 1 rfl) ?_
  refine va_get (ci := 1) (C := RX1) (T := TX1) (N := 4) hx hb hts hinX1 hown hK hP 4 rfl rfl 3 (by decide) hfl21 (fun _ h9 => h9) rfl dX1_copyFrom_28 ?_
  refine jn_copy hx hb (hml.trans hl.1.symm) hown hlink hnat hstat hini hK hP hD hS 6 2 0 rfl rfl rfl 0 0 k (by omega) (by omega) (by omega) (by omega) (by omega) (by decide) (by decide) (by rw [hR]; exact Nat.le_of_ble_eq_true rfl) (by rw [hR]; exact Nat.le_of_ble_eq_true rfl) dX1_copyFrom_31 (fun H locs hP hD hS => ?_)
  have hP : va_P (dC, dI) vwCl (wo_P v cI n (va_cpy g0 f0 0 0 k) (va_cpy g1 f1 0 0 k) f2 ++ wo_P u cI k g0 g1 g2) H := hP
  have hD : va_D A9 (wo_P v cI n (va_cpy g0 f0 0 0 k) (va_cpy g1 f1 0 0 k) f2 ++ wo_P u cI k g0 g1 g2) := hD
  refine lv_aload_n hx hb dX1_copyFrom_34 rfl (lv_at hl 1 rfl) ?_
  refine va_get (ci := 1) (C := RX1) (T := TX1) (N := 4) hx hb hts hinX1 hown hK hP 4 rfl rfl 2 (by decide) hfl18 (fun _ h9 => h9) rfl dX1_copyFrom_35 ?_
  refine jn_iconst hx hb dX1_copyFrom_38 ?_
  refine lv_aload_n hx hb dX1_copyFrom_39 rfl (lv_at hl 0 rfl) ?_
  refine va_get (ci := 1) (C := RX1) (T := TX1) (N := 4) hx hb hts hinX1 hown hK hP 0 rfl rfl 2 (by decide) hfl18 (fun _ h9 => h9) rfl dX1_copyFrom_40 ?_
  refine jn_iconst hx hb dX1_copyFrom_43 ?_
  refine lv_aload_n hx hb dX1_copyFrom_44 rfl (lv_at hl 1 rfl) ?_
  refine va_get (ci := 1) (C := RX1) (T := TX1) (N := 4) hx hb hts hinX1 hown hK hP 4 rfl rfl 3 (by decide) hfl21 (fun _ h9 => h9) rfl dX1_copyFrom_45 ?_
  refine jn_copy hx hb (hml.trans hl.1.symm) hown hlink hnat hstat hini hK hP hD hS 7 3 0 rfl rfl rfl 0 0 k (by omega) (by omega) (by omega) (by omega) (by omega) (by decide) (by decide) (by rw [hR]; exact Nat.le_of_ble_eq_true rfl) (by rw [hR]; exact Nat.le_of_ble_eq_true rfl) dX1_copyFrom_48 (fun H locs hP hD hS => ?_)
  have hP : va_P (dC, dI) vwCl (wo_P v cI n (va_cpy g0 f0 0 0 k) (va_cpy g1 f1 0 0 k) (va_cpy g2 f2 0 0 k) ++ wo_P u cI k g0 g1 g2) H := hP
  have hD : va_D A9 (wo_P v cI n (va_cpy g0 f0 0 0 k) (va_cpy g1 f1 0 0 k) (va_cpy g2 f2 0 0 k) ++ wo_P u cI k g0 g1 g2) := hD
  refine lv_aload_n hx hb dX1_copyFrom_51 rfl (lv_at hl 0 rfl) ?_
  refine lv_aload_n hx hb dX1_copyFrom_52 rfl (lv_at hl 1 rfl) ?_
  refine va_get (ci := 1) (C := RX1) (T := TX1) (N := 4) hx hb hts hinX1 hown hK hP 4 rfl rfl 3 (by decide) hfl21 (fun _ h9 => h9) rfl dX1_copyFrom_53 ?_
  refine va_put (ci := 1) (C := RX1) (T := TX1) (N := 4) (ty := .int) hx hb hts hinX1 tyX1 tyX1_ok nmX1 hown hK hP hD hS 0 rfl rfl 3 (by decide) hfl21 (fun _ h9 => h9) rfl (by decide +kernel) rfl rfl (Nat.le_of_ble_eq_true rfl) dX1_copyFrom_56 (fun H locs hP hD hS => ?_)
  have hP : va_P (dC, dI) vwCl (wo_P v cI k (va_cpy g0 f0 0 0 k) (va_cpy g1 f1 0 0 k) (va_cpy g2 f2 0 0 k) ++ wo_P u cI k g0 g1 g2) H := hP
  have hD : va_D A9 (wo_P v cI k (va_cpy g0 f0 0 0 k) (va_cpy g1 f1 0 0 k) (va_cpy g2 f2 0 0 k) ++ wo_P u cI k g0 g1 g2) := hD
  exact hend _ _ _ _ dX1_copyFrom_59 hP hS
end
section
set_option maxHeartbeats 4000000 in
set_option maxRecDepth 100000 in
theorem ct_fill (l : Launch) (size_ : Nat) (dC : Nat → ClassId) (dI : Nat → Nat → Nat) (cI : ClassId) (b N : Nat) (f : Nat → Int32) (x : Int) (hN9 : N < 2147483648) : Met l yJ7_fill wsJ7_fill { frames := 0, cells := 0, slots := 0, locals := 0 } (va_Pc [.ref b, .int (ji_n x)] (wr_B (dC, dI) vwCl ([(b, .inl (cI, N, .inl f))]) size_ (kn_K dC dI cI))) (wr_Qv (fun H => ∃ q : Nat → Int32, va_P (dC, dI) vwCl [(b, .inl (cI, N, .inl q))] H ∧ ∀ j, j < N → q j = ji_n x) (va_A ([(b, .inl (cI, N, .inl f))]) size_)) 0 0 (va_A ([(b, .inl (cI, N, .inl f))]) size_) := by
  refine st_wv (cc := cJ7_fill) (maxL := 4) (by decide) rfl (Nat.le_of_ble_eq_true rfl) (lv := [(0, .ref b), (1, .int (ji_n x))]) rfl ?_
  intro p e s m args below meth c R Q ls A9 hx hb hts hown hml hR hP hD hA hS hN hl hend
  have hK := hN.1
  refine jn_iconst hx hb dJ7_fill_0 ?_
  refine lv_istore_n (lv' := [(2, .int (ji_n 0)), (0, .ref b), (1, .int (ji_n x))]) hx hb dJ7_fill_1 rfl hl (by decide) rfl (fun ls hl => ?_)
  refine lv_aload_n hx hb dJ7_fill_2 rfl (lv_at hl 1 rfl) ?_
  refine va_alen hx hb hK hP 0 0 rfl rfl (v := ji_n (N : Int)) rfl dJ7_fill_3 ?_
  refine lv_istore_n (lv' := [(3, .int (ji_n (N : Int))), (2, .int (ji_n 0)), (0, .ref b), (1, .int (ji_n x))]) hx hb dJ7_fill_4 rfl hl (by decide) rfl (fun ls hl => ?_)
  have loop1 : ∀ i : Nat, i ≤ N → ∀ (ls : Array Slot), lv_has ls 4 [(2, .int (ji_n (i : Int))), (3, .int (ji_n (N : Int))), (0, .ref b), (1, .int (ji_n x))] → ∀ (H : Heap) (locs : List Loc) (f_ : Nat → Int32), va_P (dC, dI) vwCl ([(b, .inl (cI, N, .inl f_))]) H → va_D A9 ([(b, .inl (cI, N, .inl f_))]) → va_S A9 s.heap H locs → (∀ j, j < i → f_ j = ji_n x) → W p l e R s m args below meth c H locs 0 0 Q (F0 m 5 ls []) := by
    refine lp_up N ?_
    intro i hi_i ih2 ls hl H locs f_ hP hD hS hq
    refine lv_iload_n hx hb dJ7_fill_5 rfl (lv_at hl 0 rfl) ?_
    refine lv_iload_n hx hb dJ7_fill_6 rfl (lv_at hl 1 rfl) ?_
    refine jn_icmp_ge hx hb dJ7_fill_7 (tgt := 20) rfl (by unfold ji_r; omega) (by unfold ji_r; omega) (fun hc3 => ?_) (fun hc3 => ?_)
    · skip
      exact hend _ _ _ _ dJ7_fill_20 ⟨_, hP, fun j hj => hq j (by omega)⟩ hS
    · skip
      refine lv_aload_n hx hb dJ7_fill_10 rfl (lv_at hl 2 rfl) ?_
      refine lv_iload_n hx hb dJ7_fill_11 rfl (lv_at hl 0 rfl) ?_
      refine lv_iload_n hx hb dJ7_fill_12 rfl (lv_at hl 3 rfl) ?_
      refine jn_iast hx hb hK hP hD hS 0 0 rfl rfl i (by omega) (by omega) hN9 dJ7_fill_13 (fun H locs hP hD hS => ?_)
      have hP : va_P (dC, dI) vwCl ([(b, .inl (cI, N, .inl (upd f_ i (ji_n x))))]) H := hP
      have hD : va_D A9 ([(b, .inl (cI, N, .inl (upd f_ i (ji_n x))))]) := hD
      refine jn_iinc (lv' := [(2, .int (ji_n ((i : Int) + 1))), (3, .int (ji_n (N : Int))), (0, .ref b), (1, .int (ji_n x))]) (k := 0) (v := (i : Int) + 1) hx hb dJ7_fill_14 hl rfl rfl (by decide) rfl (fun ls hl => ?_)
      refine lv_goto hx hb dJ7_fill_17 (tgt := 5) rfl ?_
      have hl : lv_has ls 4 [(2, .int (ji_n ((i + 1 : Nat) : Int))), (3, .int (ji_n (N : Int))), (0, .ref b), (1, .int (ji_n x))] := by
        have hl2 := lv_sub hl (l' := [(2, .int (ji_n ((i : Int) + 1))), (3, .int (ji_n (N : Int))), (0, .ref b), (1, .int (ji_n x))]) [0, 1, 2, 3] rfl
        rw [show (ji_n ((i : Int) + 1)) = (ji_n ((i + 1 : Nat) : Int)) from (congrArg ji_n (by omega))] at hl2
        exact hl2
      exact ih2 (by omega) ls hl H locs (upd f_ i (ji_n x)) hP hD hS (fun j h => by rcases Nat.lt_succ_iff_lt_or_eq.mp h with h | h; rw [pk_un (by omega)]; exact hq j h; rw [h, pk_us])
  have hl : lv_has ls 4 [(2, .int (ji_n ((0 : Nat) : Int))), (3, .int (ji_n (N : Int))), (0, .ref b), (1, .int (ji_n x))] := lv_sub hl [1, 0, 2, 3] rfl
  exact loop1 0 (by omega) ls hl s.heap [] f hP hD hS (fun j h => absurd h (Nat.not_lt_zero j))

set_option maxHeartbeats 4000000 in
set_option maxRecDepth 100000 in
theorem ct_allShort (l : Launch) (size_ : Nat) (dC : Nat → ClassId) (dI : Nat → Nat → Nat) (cI : ClassId) (w : Nat → Nat) (n : Nat) (g0 g1 g2 st fm vl : Nat → Int32) (K A B : Nat → Int) (hn : n ≤ 50) (hg : sp_gp K A B n) (hF : as_F n K A B g0 g1 g2) : Met l yX0_makeAllShort wsX0_makeAllShort { frames := 0, cells := 0, slots := 0, locals := 0 } (va_Pc [.ref (w 0)] (wr_B (dC, dI) vwCl (wo_A w cI n g0 g1 g2 st fm vl) size_ (kn_K dC dI cI))) (wr_Qv (fun H => ∃ q : Nat → Int32, va_P (dC, dI) vwCl (wo_A w cI n g0 g1 g2 st q vl) H ∧ ∀ j, j < n → q j = ji_n (sp_fm (K j) (sp_z0 K A j))) (va_A (wo_A w cI n g0 g1 g2 st fm vl) size_)) 0 0 (va_A (wo_A w cI n g0 g1 g2 st fm vl) size_) := by
  refine st_wv (cc := cX0_makeAllShort) (maxL := 2) (by decide) rfl (Nat.le_of_ble_eq_true rfl) (lv := [(0, .ref (w 0))]) rfl ?_
  intro p e s m args below meth c R Q ls A9 hx hb hts hown hml hR hP hD hA hS hN hl hend
  have hK := hN.1
  have hinX0 : ∀ w ∈ u_ws RX0 TX0 4, w ∈ wsX0_makeAllShort := fun w h => List.mem_cons_of_mem _ (inX0 w h)
  have hfl12 := (hts _ (List.mem_cons_of_mem _ tm_57))
  have hfl22 := (hts _ (List.mem_cons_of_mem _ tm_61))
  have hinX1 : ∀ w ∈ u_ws RX1 TX1 4, w ∈ wsX0_makeAllShort := fun w h => List.mem_cons_of_mem _ (inX1 w h)
  refine jn_iconst hx hb dX0_makeAllShort_0 ?_
  refine lv_istore_n (lv' := [(1, .int (ji_n 0)), (0, .ref (w 0))]) hx hb dX0_makeAllShort_1 rfl hl (by decide) rfl (fun ls hl => ?_)
  have loop1 : ∀ i : Nat, i ≤ n → ∀ (ls : Array Slot), lv_has ls 2 [(1, .int (ji_n (i : Int))), (0, .ref (w 0))] → ∀ (H : Heap) (locs : List Loc) (fm_ : Nat → Int32), va_P (dC, dI) vwCl (wo_A w cI n g0 g1 g2 st fm_ vl) H → va_D A9 (wo_A w cI n g0 g1 g2 st fm_ vl) → va_S A9 s.heap H locs → (∀ j, j < i → fm_ j = ji_n (sp_fm (K j) (sp_z0 K A j))) → W p l e R s m args below meth c H locs 0 0 Q (F0 m 2 ls []) := by
    refine lp_up n ?_
    intro i hi_i ih2 ls hl H locs fm_ hP hD hS hq
    refine lv_iload_n hx hb dX0_makeAllShort_2 rfl (lv_at hl 0 rfl) ?_
    refine lv_aload_n hx hb dX0_makeAllShort_3 rfl (lv_at hl 1 rfl) ?_
    refine va_get (ci := 0) (C := RX0) (T := TX0) (N := 4) hx hb hts hinX0 hown hK hP 0 rfl rfl 0 (by decide) hfl12 (fun _ h9 => h9) rfl dX0_makeAllShort_4 ?_
    refine va_getN (ci := 1) (C := RX1) (T := TX1) (N := 4) hx hb hts hinX1 hown hK hP 4 rfl rfl 3 (by decide) (va_Nw.use rfl (nw_5 hN)) (fun _ h9 => h9) rfl dX0_makeAllShort_7 ?_
    refine jn_icmp_ge hx hb dX0_makeAllShort_10 (tgt := 43) rfl (by unfold ji_r; omega) (by unfold ji_r; omega) (fun hc3 => ?_) (fun hc3 => ?_)
    · skip
      exact hend _ _ _ _ dX0_makeAllShort_43 ⟨_, hP, fun j hj => hq j (by omega)⟩ hS
    · skip
      have hgi := hg i (by omega)
      unfold sp_gd at hgi
      refine lv_aload_n hx hb dX0_makeAllShort_13 rfl (lv_at hl 1 rfl) ?_
      refine va_get (ci := 0) (C := RX0) (T := TX0) (N := 4) hx hb hts hinX0 hown hK hP 0 rfl rfl 2 (by decide) hfl22 (fun _ h9 => h9) rfl dX0_makeAllShort_14 ?_
      refine lv_iload_n hx hb dX0_makeAllShort_17 rfl (lv_at hl 0 rfl) ?_
      refine lv_aload_n hx hb dX0_makeAllShort_18 rfl (lv_at hl 1 rfl) ?_
      refine va_get (ci := 0) (C := RX0) (T := TX0) (N := 4) hx hb hts hinX0 hown hK hP 0 rfl rfl 0 (by decide) hfl12 (fun _ h9 => h9) rfl dX0_makeAllShort_19 ?_
      refine va_getN (ci := 1) (C := RX1) (T := TX1) (N := 4) hx hb hts hinX1 hown hK hP 4 rfl rfl 0 (by decide) (va_Nw.use rfl (nw_6 hN)) (fun _ h9 => h9) rfl dX0_makeAllShort_22 ?_
      refine lv_iload_n hx hb dX0_makeAllShort_25 rfl (lv_at hl 0 rfl) ?_
      refine jn_iald hx hb hK hP 5 0 rfl rfl i (by omega) (by omega) (by decide) (v := K i) (hF.1 i (by omega)) dX0_makeAllShort_26 ?_
      refine jn_iconst hx hb dX0_makeAllShort_27 ?_
      refine jn_icmp_ne hx hb dX0_makeAllShort_28 (tgt := 35) rfl (by unfold ji_r; omega) (by unfold ji_r; omega) (fun hc4 => ?_) (fun hc4 => ?_)
      · skip
        refine jn_iconst hx hb dX0_makeAllShort_35 ?_
        refine jn_iast hx hb hK hP hD hS 2 0 rfl rfl i (by omega) (by omega) (by decide) dX0_makeAllShort_36 (fun H locs hP hD hS => ?_)
        have hP : va_P (dC, dI) vwCl (wo_A w cI n g0 g1 g2 st (upd fm_ i (ji_n 0)) vl) H := hP
        have hD : va_D A9 (wo_A w cI n g0 g1 g2 st (upd fm_ i (ji_n 0)) vl) := hD
        refine jn_iinc (lv' := [(1, .int (ji_n ((i : Int) + 1))), (0, .ref (w 0))]) (k := 0) (v := (i : Int) + 1) hx hb dX0_makeAllShort_37 hl rfl rfl (by decide) rfl (fun ls hl => ?_)
        refine lv_goto hx hb dX0_makeAllShort_40 (tgt := 2) rfl ?_
        have hl : lv_has ls 2 [(1, .int (ji_n ((i + 1 : Nat) : Int))), (0, .ref (w 0))] := by
          have hl2 := lv_sub hl (l' := [(1, .int (ji_n ((i : Int) + 1))), (0, .ref (w 0))]) [0, 1] rfl
          rw [show (ji_n ((i : Int) + 1)) = (ji_n ((i + 1 : Nat) : Int)) from (congrArg ji_n (by omega))] at hl2
          exact hl2
        exact ih2 (by omega) ls hl H locs (upd fm_ i (ji_n 0)) hP hD hS (fun j h => by rcases Nat.lt_succ_iff_lt_or_eq.mp h with h | h; rw [pk_un (by omega)]; exact hq j h; rw [h, pk_us]; exact congrArg ji_n (by have h8 := sp_z0_or K A i; have h9 := sp_fm_or (K i) (sp_z0 K A i); omega))
      · skip
        refine jn_iconst hx hb dX0_makeAllShort_31 ?_
        refine lv_goto hx hb dX0_makeAllShort_32 (tgt := 36) rfl ?_
        refine jn_iast hx hb hK hP hD hS 2 0 rfl rfl i (by omega) (by omega) (by decide) dX0_makeAllShort_36 (fun H locs hP hD hS => ?_)
        have hP : va_P (dC, dI) vwCl (wo_A w cI n g0 g1 g2 st (upd fm_ i (ji_n 1)) vl) H := hP
        have hD : va_D A9 (wo_A w cI n g0 g1 g2 st (upd fm_ i (ji_n 1)) vl) := hD
        refine jn_iinc (lv' := [(1, .int (ji_n ((i : Int) + 1))), (0, .ref (w 0))]) (k := 0) (v := (i : Int) + 1) hx hb dX0_makeAllShort_37 hl rfl rfl (by decide) rfl (fun ls hl => ?_)
        refine lv_goto hx hb dX0_makeAllShort_40 (tgt := 2) rfl ?_
        have hl : lv_has ls 2 [(1, .int (ji_n ((i + 1 : Nat) : Int))), (0, .ref (w 0))] := by
          have hl2 := lv_sub hl (l' := [(1, .int (ji_n ((i : Int) + 1))), (0, .ref (w 0))]) [0, 1] rfl
          rw [show (ji_n ((i : Int) + 1)) = (ji_n ((i + 1 : Nat) : Int)) from (congrArg ji_n (by omega))] at hl2
          exact hl2
        exact ih2 (by omega) ls hl H locs (upd fm_ i (ji_n 1)) hP hD hS (fun j h => by rcases Nat.lt_succ_iff_lt_or_eq.mp h with h | h; rw [pk_un (by omega)]; exact hq j h; rw [h, pk_us]; exact congrArg ji_n (by have h8 := sp_z0_or K A i; have h9 := sp_fm_or (K i) (sp_z0 K A i); omega))
  have hl : lv_has ls 2 [(1, .int (ji_n ((0 : Nat) : Int))), (0, .ref (w 0))] := lv_sub hl [0, 1] rfl
  exact loop1 0 (by omega) ls hl s.heap [] fm hP hD hS (fun j h => absurd h (Nat.not_lt_zero j))

set_option maxHeartbeats 4000000 in
set_option maxRecDepth 100000 in
theorem ct_place (l : Launch) (size_ : Nat) (dC : Nat → ClassId) (dI : Nat → Nat → Nat) (cI : ClassId) (w : Nat → Nat) (n : Nat) (g0 g1 g2 st fm vl : Nat → Int32) (K A B z : Nat → Int) (hn : n ≤ 50) (hg : sp_gp K A B n) (ho : sp_ok K A B z n) (hF : as_F n K A B g0 g1 g2) (hfm : ∀ j, j < n → fm j = ji_n (sp_fm (K j) (z j))) : Met l yX0_place wsX0_place { frames := 1, cells := 0, slots := 0, locals := 23 } (va_Pc [.ref (w 0)] (wr_B (dC, dI) vwCl (wo_A w cI n g0 g1 g2 st fm vl) size_ (kn_K dC dI cI))) (wr_Qv (fun H => ∃ q1 q2 : Nat → Int32, va_P (dC, dI) vwCl (wo_A w cI n g0 g1 g2 q1 fm q2) H ∧ as_S n K A z q1 fm q2) (va_A (wo_A w cI n g0 g1 g2 st fm vl) size_)) 0 0 (va_A (wo_A w cI n g0 g1 g2 st fm vl) size_) := by
  refine st_wv (cc := cX0_place) (maxL := 3) (by decide) rfl (Nat.le_of_ble_eq_true rfl) (lv := [(0, .ref (w 0))]) rfl ?_
  intro p e s m args below meth c R Q ls A9 hx hb hts hown hml hR hP hD hA hS hN hl hend
  have hK := hN.1
  have hinX0 : ∀ w ∈ u_ws RX0 TX0 4, w ∈ wsX0_place := fun w h => List.mem_cons_of_mem _ (inX0 w h)
  have hfl12 := (hts _ (List.mem_cons_of_mem _ tm_57))
  have hfl18 := (hts _ (List.mem_cons_of_mem _ tm_59))
  have hfl22 := (hts _ (List.mem_cons_of_mem _ tm_61))
  have hfl25 := (hts _ (List.mem_cons_of_mem _ tm_63))
  have hinX1 : ∀ w ∈ u_ws RX1 TX1 4, w ∈ wsX0_place := fun w h => List.mem_cons_of_mem _ (inX1 w h)
  refine lv_aload_n hx hb dX0_place_0 rfl (lv_at hl 0 rfl) ?_
  refine va_get (ci := 0) (C := RX0) (T := TX0) (N := 4) hx hb hts hinX0 hown hK hP 0 rfl rfl 3 (by decide) hfl25 (fun _ h9 => h9) rfl dX0_place_1 ?_
  refine jn_iconst hx hb dX0_place_4 ?_
  refine cl_wv (wc := [(w 3, .inl (cI, 16, .inl vl))]) (wr := [0, 1, 2, 4, 5, 6, 7].filterMap (fun i => (wo_A w cI n g0 g1 g2 st fm vl)[i]?)) [3] [0, 1, 2, 4, 5, 6, 7] rfl rfl (by decide) (by decide) (by decide) hP hD hS hA (va_runS (As := [.ref (w 3), .int (ji_n (-1))]) (rest := []) ⟨hx, hb, hml, hown, hts⟩ (ct_fill l s.heap.size dC dI cI (w 3) 16 vl (-1) (by decide)) (va_cwS 2 hts (ub_S tm_54 tm_55 tm_4 tm_56) rfl rfl rfl (by decide +kernel) (by rw [hR]; exact ⟨Nat.le_of_ble_eq_true rfl, Nat.le_of_ble_eq_true rfl⟩)) (ps_wr hN (hP.sub [3] rfl) (hD.sub [3] (by decide) rfl)) rfl rfl hl.1 rfl (lv_room (Nat.le_of_ble_eq_true rfl)) dX0_place_5 ⟨Nat.zero_le _, Nat.zero_le _⟩) (fun H locs hPs hj hS => ?_)
  obtain ⟨vl1, hPs, hv1⟩ := hPs
  obtain ⟨hP, hD⟩ := hj ([(w 3, .inl (cI, 16, .inl vl1))]) rfl hPs
  have hP := hP.sub (ws' := wo_A w cI n g0 g1 g2 st fm vl1) [0, 1, 2, 7, 3, 4, 5, 6] rfl
  have hD := hD.sub (ws' := wo_A w cI n g0 g1 g2 st fm vl1) [0, 1, 2, 7, 3, 4, 5, 6] (by decide) rfl
  have hP : va_P (dC, dI) vwCl (wo_A w cI n g0 g1 g2 st fm vl1) H := hP
  have hD : va_D A9 (wo_A w cI n g0 g1 g2 st fm vl1) := hD
  refine jn_iconst hx hb dX0_place_8 ?_
  refine lv_istore_n (lv' := [(1, .int (ji_n 0)), (0, .ref (w 0))]) hx hb dX0_place_9 rfl hl (by decide) rfl (fun ls hl => ?_)
  refine jn_iconst hx hb dX0_place_10 ?_
  refine lv_istore_n (lv' := [(2, .int (ji_n 0)), (1, .int (ji_n 0)), (0, .ref (w 0))]) hx hb dX0_place_11 rfl hl (by decide) rfl (fun ls hl => ?_)
  have loop1 : ∀ i : Nat, i ≤ n → ∀ (ls : Array Slot), lv_has ls 3 [(2, .int (ji_n (i : Int))), (1, .int (ji_n (sp_pz z i))), (0, .ref (w 0))] → ∀ (H : Heap) (locs : List Loc) (st_ : Nat → Int32) (vl_ : Nat → Int32), va_P (dC, dI) vwCl (wo_A w cI n g0 g1 g2 st_ fm vl_) H → va_D A9 (wo_A w cI n g0 g1 g2 st_ fm vl_) → va_S A9 s.heap H locs → (∀ j, j < i → st_ j = ji_n (sp_pz z j)) → (∀ x : Int, 0 ≤ x → x < 16 → vl_ x.toNat = ji_n (sp_la K A z i x)) → W p l e R s m args below meth c H locs 0 0 Q (F0 m 12 ls []) := by
    refine lp_up n ?_
    intro i hi_i ih2 ls hl H locs st_ vl_ hP hD hS hq1 hq2
    refine lv_iload_n hx hb dX0_place_12 rfl (lv_at hl 0 rfl) ?_
    refine lv_aload_n hx hb dX0_place_13 rfl (lv_at hl 2 rfl) ?_
    refine va_get (ci := 0) (C := RX0) (T := TX0) (N := 4) hx hb hts hinX0 hown hK hP 0 rfl rfl 0 (by decide) hfl12 (fun _ h9 => h9) rfl dX0_place_14 ?_
    refine va_getN (ci := 1) (C := RX1) (T := TX1) (N := 4) hx hb hts hinX1 hown hK hP 4 rfl rfl 3 (by decide) (va_Nw.use rfl (nw_5 hN)) (fun _ h9 => h9) rfl dX0_place_17 ?_
    refine jn_icmp_ge hx hb dX0_place_20 (tgt := 71) rfl (by unfold ji_r; omega) (by unfold ji_r; omega) (fun hc3 => ?_) (fun hc3 => ?_)
    · skip
      have he : i = n := by omega
      refine lv_aload_n hx hb dX0_place_71 rfl (lv_at hl 2 rfl) ?_
      refine va_get (ci := 0) (C := RX0) (T := TX0) (N := 4) hx hb hts hinX0 hown hK hP 0 rfl rfl 1 (by decide) hfl18 (fun _ h9 => h9) rfl dX0_place_72 ?_
      refine lv_aload_n hx hb dX0_place_75 rfl (lv_at hl 2 rfl) ?_
      refine va_get (ci := 0) (C := RX0) (T := TX0) (N := 4) hx hb hts hinX0 hown hK hP 0 rfl rfl 0 (by decide) hfl12 (fun _ h9 => h9) rfl dX0_place_76 ?_
      refine va_getN (ci := 1) (C := RX1) (T := TX1) (N := 4) hx hb hts hinX1 hown hK hP 4 rfl rfl 3 (by decide) (va_Nw.use rfl (nw_5 hN)) (fun _ h9 => h9) rfl dX0_place_79 ?_
      refine lv_iload_n hx hb dX0_place_82 rfl (lv_at hl 1 rfl) ?_
      refine jn_iast hx hb hK hP hD hS 1 0 rfl rfl n (by omega) (by omega) (by decide) dX0_place_83 (fun H locs hP hD hS => ?_)
      have hP : va_P (dC, dI) vwCl (wo_A w cI n g0 g1 g2 (upd st_ n (ji_n (sp_pz z i))) fm vl_) H := hP
      have hD : va_D A9 (wo_A w cI n g0 g1 g2 (upd st_ n (ji_n (sp_pz z i))) fm vl_) := hD
      exact hend _ _ _ _ dX0_place_84 ⟨_, _, hP, fun j hj => by rcases Nat.lt_succ_iff_lt_or_eq.mp hj with h | h; rw [pk_un (by omega)]; exact hq1 j (by omega); rw [h, pk_us, he], hfm, by rw [← he]; exact hq2⟩ hS
    · skip
      have hgi := hg i (by omega)
      unfold sp_gd at hgi
      refine lv_aload_n hx hb dX0_place_23 rfl (lv_at hl 2 rfl) ?_
      refine va_get (ci := 0) (C := RX0) (T := TX0) (N := 4) hx hb hts hinX0 hown hK hP 0 rfl rfl 1 (by decide) hfl18 (fun _ h9 => h9) rfl dX0_place_24 ?_
      refine lv_iload_n hx hb dX0_place_27 rfl (lv_at hl 0 rfl) ?_
      refine lv_iload_n hx hb dX0_place_28 rfl (lv_at hl 1 rfl) ?_
      refine jn_iast hx hb hK hP hD hS 1 0 rfl rfl i (by omega) (by omega) (by decide) dX0_place_29 (fun H locs hP hD hS => ?_)
      have hP : va_P (dC, dI) vwCl (wo_A w cI n g0 g1 g2 (upd st_ i (ji_n (sp_pz z i))) fm vl_) H := hP
      have hD : va_D A9 (wo_A w cI n g0 g1 g2 (upd st_ i (ji_n (sp_pz z i))) fm vl_) := hD
      refine lv_aload_n hx hb dX0_place_30 rfl (lv_at hl 2 rfl) ?_
      refine va_get (ci := 0) (C := RX0) (T := TX0) (N := 4) hx hb hts hinX0 hown hK hP 0 rfl rfl 0 (by decide) hfl12 (fun _ h9 => h9) rfl dX0_place_31 ?_
      refine va_getN (ci := 1) (C := RX1) (T := TX1) (N := 4) hx hb hts hinX1 hown hK hP 4 rfl rfl 0 (by decide) (va_Nw.use rfl (nw_6 hN)) (fun _ h9 => h9) rfl dX0_place_34 ?_
      refine lv_iload_n hx hb dX0_place_37 rfl (lv_at hl 0 rfl) ?_
      refine jn_iald hx hb hK hP 5 0 rfl rfl i (by omega) (by omega) (by decide) (v := K i) (hF.1 i (by omega)) dX0_place_38 ?_
      refine jn_if_ne hx hb dX0_place_39 (tgt := 57) rfl (by unfold ji_r; omega) (fun hc4 => ?_) (fun hc4 => ?_)
      · skip
        refine lv_iload_n hx hb dX0_place_57 rfl (lv_at hl 1 rfl) ?_
        refine lv_aload_n hx hb dX0_place_58 rfl (lv_at hl 2 rfl) ?_
        refine lv_iload_n hx hb dX0_place_59 rfl (lv_at hl 0 rfl) ?_
        refine cl_rd (va_runV (As := [.int (ji_n (i : Int))]) (rest := [.int (ji_n (sp_pz z i))]) ⟨hx, hb, hml, hown, hts⟩ (ct_lineSize l dC dI cI w n g0 g1 g2 (upd st_ i (ji_n (sp_pz z i))) fm vl_ K A B z hF hn hg ho hfm i (by omega)) (cwV 1 hts (ub_V tm_140 tm_142 tm_s3 tm_3 tm_143) rfl rfl rfl (by decide +kernel) (by rw [hR]; exact ⟨Nat.le_of_ble_eq_true rfl, Nat.le_of_ble_eq_true rfl⟩)) (pv_rd (q0 := 0) (ci := 0) hN hP rfl rfl) rfl rfl hl.1 rfl (lv_room (Nat.le_of_ble_eq_true rfl)) dX0_place_60 ⟨Nat.zero_le _, Nat.zero_le _⟩) ?_
        have hzi := sp_z_r hg ho i (by omega)
        refine jn_iadd hx hb dX0_place_63 (v := (sp_pz z i) + (z i)) rfl ?_
        refine lv_istore_n (lv' := [(1, .int (ji_n ((sp_pz z i) + (z i)))), (2, .int (ji_n (i : Int))), (0, .ref (w 0))]) hx hb dX0_place_64 rfl hl (by decide) rfl (fun ls hl => ?_)
        refine jn_iinc (lv' := [(2, .int (ji_n ((i : Int) + 1))), (1, .int (ji_n ((sp_pz z i) + (z i)))), (0, .ref (w 0))]) (k := 1) (v := (i : Int) + 1) hx hb dX0_place_65 hl rfl rfl (by decide) rfl (fun ls hl => ?_)
        refine lv_goto hx hb dX0_place_68 (tgt := 12) rfl ?_
        have hl : lv_has ls 3 [(2, .int (ji_n ((i + 1 : Nat) : Int))), (1, .int (ji_n (sp_pz z (i + 1)))), (0, .ref (w 0))] := by
          have hl2 := lv_sub hl (l' := [(2, .int (ji_n ((i : Int) + 1))), (1, .int (ji_n ((sp_pz z i) + (z i)))), (0, .ref (w 0))]) [0, 1, 2] rfl
          rw [show (ji_n ((i : Int) + 1)) = (ji_n ((i + 1 : Nat) : Int)) from (congrArg ji_n (by omega))] at hl2
          rw [show (ji_n ((sp_pz z i) + (z i))) = (ji_n (sp_pz z (i + 1))) from (congrArg ji_n (by rfl))] at hl2
          exact hl2
        exact ih2 (by omega) ls hl H locs (upd st_ i (ji_n (sp_pz z i))) vl_ hP hD hS (fun j h => by rcases Nat.lt_succ_iff_lt_or_eq.mp h with h | h; rw [pk_un (by omega)]; exact hq1 j h; rw [h, pk_us]) (fun x h8 h9 => by rw [sp_la_s, if_neg (by omega)]; exact hq2 x h8 h9)
      · skip
        refine lv_aload_n hx hb dX0_place_42 rfl (lv_at hl 2 rfl) ?_
        refine va_get (ci := 0) (C := RX0) (T := TX0) (N := 4) hx hb hts hinX0 hown hK hP 0 rfl rfl 3 (by decide) hfl25 (fun _ h9 => h9) rfl dX0_place_43 ?_
        refine lv_aload_n hx hb dX0_place_46 rfl (lv_at hl 2 rfl) ?_
        refine va_get (ci := 0) (C := RX0) (T := TX0) (N := 4) hx hb hts hinX0 hown hK hP 0 rfl rfl 0 (by decide) hfl12 (fun _ h9 => h9) rfl dX0_place_47 ?_
        refine va_getN (ci := 1) (C := RX1) (T := TX1) (N := 4) hx hb hts hinX1 hown hK hP 4 rfl rfl 1 (by decide) (va_Nw.use rfl (nw_7 hN)) (fun _ h9 => h9) rfl dX0_place_50 ?_
        refine lv_iload_n hx hb dX0_place_53 rfl (lv_at hl 0 rfl) ?_
        refine jn_iald hx hb hK hP 6 0 rfl rfl i (by omega) (by omega) (by decide) (v := A i) (hF.2.1 i (by omega)) dX0_place_54 ?_
        refine lv_iload_n hx hb dX0_place_55 rfl (lv_at hl 1 rfl) ?_
        refine jn_iast hx hb hK hP hD hS 3 0 rfl rfl ((A i).toNat) (by omega) (by omega) (by decide) dX0_place_56 (fun H locs hP hD hS => ?_)
        have hP : va_P (dC, dI) vwCl (wo_A w cI n g0 g1 g2 (upd st_ i (ji_n (sp_pz z i))) fm (upd vl_ ((A i).toNat) (ji_n (sp_pz z i)))) H := hP
        have hD : va_D A9 (wo_A w cI n g0 g1 g2 (upd st_ i (ji_n (sp_pz z i))) fm (upd vl_ ((A i).toNat) (ji_n (sp_pz z i)))) := hD
        refine lv_iload_n hx hb dX0_place_57 rfl (lv_at hl 1 rfl) ?_
        refine lv_aload_n hx hb dX0_place_58 rfl (lv_at hl 2 rfl) ?_
        refine lv_iload_n hx hb dX0_place_59 rfl (lv_at hl 0 rfl) ?_
        refine cl_rd (va_runV (As := [.int (ji_n (i : Int))]) (rest := [.int (ji_n (sp_pz z i))]) ⟨hx, hb, hml, hown, hts⟩ (ct_lineSize l dC dI cI w n g0 g1 g2 (upd st_ i (ji_n (sp_pz z i))) fm (upd vl_ ((A i).toNat) (ji_n (sp_pz z i))) K A B z hF hn hg ho hfm i (by omega)) (cwV 1 hts (ub_V tm_140 tm_142 tm_s3 tm_3 tm_143) rfl rfl rfl (by decide +kernel) (by rw [hR]; exact ⟨Nat.le_of_ble_eq_true rfl, Nat.le_of_ble_eq_true rfl⟩)) (pv_rd (q0 := 0) (ci := 0) hN hP rfl rfl) rfl rfl hl.1 rfl (lv_room (Nat.le_of_ble_eq_true rfl)) dX0_place_60 ⟨Nat.zero_le _, Nat.zero_le _⟩) ?_
        have hzi := sp_z_r hg ho i (by omega)
        refine jn_iadd hx hb dX0_place_63 (v := (sp_pz z i) + (z i)) rfl ?_
        refine lv_istore_n (lv' := [(1, .int (ji_n ((sp_pz z i) + (z i)))), (2, .int (ji_n (i : Int))), (0, .ref (w 0))]) hx hb dX0_place_64 rfl hl (by decide) rfl (fun ls hl => ?_)
        refine jn_iinc (lv' := [(2, .int (ji_n ((i : Int) + 1))), (1, .int (ji_n ((sp_pz z i) + (z i)))), (0, .ref (w 0))]) (k := 1) (v := (i : Int) + 1) hx hb dX0_place_65 hl rfl rfl (by decide) rfl (fun ls hl => ?_)
        refine lv_goto hx hb dX0_place_68 (tgt := 12) rfl ?_
        have hl : lv_has ls 3 [(2, .int (ji_n ((i + 1 : Nat) : Int))), (1, .int (ji_n (sp_pz z (i + 1)))), (0, .ref (w 0))] := by
          have hl2 := lv_sub hl (l' := [(2, .int (ji_n ((i : Int) + 1))), (1, .int (ji_n ((sp_pz z i) + (z i)))), (0, .ref (w 0))]) [0, 1, 2] rfl
          rw [show (ji_n ((i : Int) + 1)) = (ji_n ((i + 1 : Nat) : Int)) from (congrArg ji_n (by omega))] at hl2
          rw [show (ji_n ((sp_pz z i) + (z i))) = (ji_n (sp_pz z (i + 1))) from (congrArg ji_n (by rfl))] at hl2
          exact hl2
        exact ih2 (by omega) ls hl H locs (upd st_ i (ji_n (sp_pz z i))) (upd vl_ ((A i).toNat) (ji_n (sp_pz z i))) hP hD hS (fun j h => by rcases Nat.lt_succ_iff_lt_or_eq.mp h with h | h; rw [pk_un (by omega)]; exact hq1 j h; rw [h, pk_us]) (fun x h8 h9 => by
                    rw [sp_la_s]
                    by_cases hx9 : A i = x
                    · rw [if_pos ⟨by omega, hx9⟩, ← hx9, pk_us]
                    · rw [if_neg (fun q => hx9 q.2), pk_un (by omega)]; exact hq2 x h8 h9)
  have hl : lv_has ls 3 [(2, .int (ji_n ((0 : Nat) : Int))), (1, .int (ji_n (sp_pz z 0))), (0, .ref (w 0))] := lv_sub hl [0, 1, 2] rfl
  exact loop1 0 (by omega) ls hl H locs st vl1 hP hD hS (fun j h => absurd h (Nat.not_lt_zero j)) (fun x h8 h9 => hv1 x.toNat (by omega))

set_option maxHeartbeats 4000000 in
set_option maxRecDepth 100000 in
theorem ct_lengthen (l : Launch) (size_ : Nat) (dC : Nat → ClassId) (dI : Nat → Nat → Nat) (cI : ClassId) (w : Nat → Nat) (n : Nat) (g0 g1 g2 st fm vl : Nat → Int32) (K A B z : Nat → Int) (hF : as_F n K A B g0 g1 g2) (hAS : sp_AS n K A B z) (hSS : as_S n K A z st fm vl) : Met l yX0_lengthen wsX0_lengthen { frames := 1, cells := 0, slots := 0, locals := 22 } (va_Pc [.ref (w 0)] (wr_B (dC, dI) vwCl (wo_A w cI n g0 g1 g2 st fm vl) size_ (kn_K dC dI cI))) (wr_Qi (fun r H => r = ji_n (sp_cg n K A z n) ∧ ∃ q : Nat → Int32, va_P (dC, dI) vwCl (wo_A w cI n g0 g1 g2 st q vl) H ∧ ∀ j, j < n → q j = ji_n (sp_fm (K j) (sp_lz n K A B z j))) (va_A (wo_A w cI n g0 g1 g2 st fm vl) size_)) 0 0 (va_A (wo_A w cI n g0 g1 g2 st fm vl) size_) := by
  refine st_wi (cc := cX0_lengthen) (maxL := 3) (ret := some .boolean) (ty := .boolean) (by decide) rfl rfl (Nat.le_of_ble_eq_true rfl) (lv := [(0, .ref (w 0))]) rfl (fun v H h => by rw [h.1]; exact nb_b (by rcases sp_cg_or n K A z n with h | h <;> omega)) ?_
  intro p e s m args below meth c R Q ls A9 hx hb hts hown hml hR hP hD hA hS hN hl hend
  have hK := hN.1
  have hinX0 : ∀ w ∈ u_ws RX0 TX0 4, w ∈ wsX0_lengthen := fun w h => List.mem_cons_of_mem _ (inX0 w h)
  have hfl12 := (hts _ (List.mem_cons_of_mem _ tm_57))
  have hfl22 := (hts _ (List.mem_cons_of_mem _ tm_61))
  have hinX1 : ∀ w ∈ u_ws RX1 TX1 4, w ∈ wsX0_lengthen := fun w h => List.mem_cons_of_mem _ (inX1 w h)
  have hn := hAS.1
  have hg := hAS.2.1
  have ho := hAS.2.2.1
  obtain ⟨hst, hfm, hvl⟩ := hSS
  refine jn_iconst hx hb dX0_lengthen_0 ?_
  refine lv_istore_n (lv' := [(1, .int (ji_n 0)), (0, .ref (w 0))]) hx hb dX0_lengthen_1 rfl hl (by decide) rfl (fun ls hl => ?_)
  refine jn_iconst hx hb dX0_lengthen_2 ?_
  refine lv_istore_n (lv' := [(2, .int (ji_n 0)), (1, .int (ji_n 0)), (0, .ref (w 0))]) hx hb dX0_lengthen_3 rfl hl (by decide) rfl (fun ls hl => ?_)
  have loop1 : ∀ i : Nat, i ≤ n → ∀ (ls : Array Slot), lv_has ls 3 [(2, .int (ji_n (i : Int))), (1, .int (ji_n (sp_cg n K A z i))), (0, .ref (w 0))] → ∀ (H : Heap) (locs : List Loc) (fm_ : Nat → Int32), va_P (dC, dI) vwCl (wo_A w cI n g0 g1 g2 st fm_ vl) H → va_D A9 (wo_A w cI n g0 g1 g2 st fm_ vl) → va_S A9 s.heap H locs → (∀ j, j < n → fm_ j = ji_n (if j < i then sp_fm (K j) (sp_lz n K A B z j) else sp_fm (K j) (z j))) → W p l e R s m args below meth c H locs 0 0 Q (F0 m 4 ls []) := by
    refine lp_up n ?_
    intro i hi_i ih2 ls hl H locs fm_ hP hD hS hq
    refine lv_iload_n hx hb dX0_lengthen_4 rfl (lv_at hl 0 rfl) ?_
    refine lv_aload_n hx hb dX0_lengthen_5 rfl (lv_at hl 2 rfl) ?_
    refine va_get (ci := 0) (C := RX0) (T := TX0) (N := 4) hx hb hts hinX0 hown hK hP 0 rfl rfl 0 (by decide) hfl12 (fun _ h9 => h9) rfl dX0_lengthen_6 ?_
    refine va_getN (ci := 1) (C := RX1) (T := TX1) (N := 4) hx hb hts hinX1 hown hK hP 4 rfl rfl 3 (by decide) (va_Nw.use rfl (nw_5 hN)) (fun _ h9 => h9) rfl dX0_lengthen_9 ?_
    refine jn_icmp_ge hx hb dX0_lengthen_12 (tgt := 55) rfl (by unfold ji_r; omega) (by unfold ji_r; omega) (fun hc3 => ?_) (fun hc3 => ?_)
    · skip
      have he : i = n := by omega
      refine lv_iload_n hx hb dX0_lengthen_55 rfl (lv_at hl 1 rfl) ?_
      exact hend _ _ _ _ _ dX0_lengthen_56 ⟨by rw [he], _, hP, fun j hj => by rw [hq j hj, if_pos (by omega)]⟩ hS
    · skip
      have hgj := hg i (by omega)
      unfold sp_gd at hgj
      have hoj := ho i (by omega)
      have hfj := sp_fm_or (K i) (z i)
      have hlj := sp_lg_or (B i)
      refine lv_aload_n hx hb dX0_lengthen_15 rfl (lv_at hl 2 rfl) ?_
      refine va_get (ci := 0) (C := RX0) (T := TX0) (N := 4) hx hb hts hinX0 hown hK hP 0 rfl rfl 2 (by decide) hfl22 (fun _ h9 => h9) rfl dX0_lengthen_16 ?_
      refine lv_iload_n hx hb dX0_lengthen_19 rfl (lv_at hl 0 rfl) ?_
      refine jn_iald hx hb hK hP 2 0 rfl rfl i (by omega) (by omega) (by decide) (v := sp_fm (K i) (z i)) (by rw [hq i (by omega), if_neg (by omega)]) dX0_lengthen_20 ?_
      refine jn_iconst hx hb dX0_lengthen_21 ?_
      refine jn_icmp_ne hx hb dX0_lengthen_22 (tgt := 49) rfl (by unfold ji_r; omega) (by unfold ji_r; omega) (fun hc4 => ?_) (fun hc4 => ?_)
      · skip
        refine jn_iinc (lv' := [(2, .int (ji_n ((i : Int) + 1))), (1, .int (ji_n (sp_cg n K A z i))), (0, .ref (w 0))]) (k := 0) (v := (i : Int) + 1) hx hb dX0_lengthen_49 hl rfl rfl (by decide) rfl (fun ls hl => ?_)
        refine lv_goto hx hb dX0_lengthen_52 (tgt := 4) rfl ?_
        have hl : lv_has ls 3 [(2, .int (ji_n ((i + 1 : Nat) : Int))), (1, .int (ji_n (sp_cg n K A z (i + 1)))), (0, .ref (w 0))] := by
          have hl2 := lv_sub hl (l' := [(2, .int (ji_n ((i : Int) + 1))), (1, .int (ji_n (sp_cg n K A z i))), (0, .ref (w 0))]) [0, 1, 2] rfl
          rw [show (ji_n ((i : Int) + 1)) = (ji_n ((i + 1 : Nat) : Int)) from (congrArg ji_n (by omega))] at hl2
          rw [show (ji_n (sp_cg n K A z i)) = (ji_n (sp_cg n K A z (i + 1))) from (congrArg ji_n (by rw [sp_cg_s]; split <;> omega))] at hl2
          exact hl2
        exact ih2 (by omega) ls hl H locs fm_ hP hD hS (fun j h => by
                    have h8 := sp_lz_or n K A B z i; have h10 := sp_fm_or (K i) (sp_lz n K A B z i); have h11 := sp_lg_or (B i)
                    by_cases hj : j = i
                    · rw [hj, hq i (by omega), if_neg (by omega), if_pos (by omega)]; exact congrArg ji_n (by omega)
                    · rw [hq j h]; by_cases hji : j < i
                      · rw [if_pos hji, if_pos (by omega)]
                      · rw [if_neg hji, if_neg (by omega)])
      · skip
        refine lv_aload_n hx hb dX0_lengthen_25 rfl (lv_at hl 2 rfl) ?_
        refine lv_iload_n hx hb dX0_lengthen_26 rfl (lv_at hl 0 rfl) ?_
        refine cl_rd (va_runV (As := [.int (ji_n (i : Int))]) (rest := []) ⟨hx, hb, hml, hown, hts⟩ (ct_distance l dC dI cI w n g0 g1 g2 st fm_ vl K A B z hF hAS hst hvl i (by omega) (by omega)) (cwV 1 hts (ub_V tm_147 tm_149 tm_s4 tm_3 tm_150) rfl rfl rfl (by decide +kernel) (by rw [hR]; exact ⟨Nat.le_of_ble_eq_true rfl, Nat.le_of_ble_eq_true rfl⟩)) (pv_rd (q0 := 0) (ci := 0) hN hP rfl rfl) rfl rfl hl.1 rfl (lv_room (Nat.le_of_ble_eq_true rfl)) dX0_lengthen_27 ⟨Nat.zero_le _, Nat.zero_le _⟩) ?_
        have hds := sp_AS_ds hAS (j := i) (by omega)
        refine jn_bipush hx hb dX0_lengthen_30 (by decide) ?_
        refine jn_bipush hx hb dX0_lengthen_32 (by decide) ?_
        refine cl_rd (va_runSN (As := [.int (ji_n (sp_ds n K A z i)), .int (ji_n (-128)), .int (ji_n 127)]) (rest := []) ⟨hx, hb, hml, hown, hts⟩ (ct_isWithin l (sp_ds n K A z i) (-128) 127 (by unfold ji_r; omega) (by unfold ji_r; omega) (by unfold ji_r; omega)) ⟨(va_cnB 3 hts (ub_I tm_93) rfl rfl rfl (nw_9 hN) (hts _ (List.mem_cons_of_mem _ tm_1)) (by decide +kernel) (by rw [hR]; exact ⟨Nat.le_of_ble_eq_true rfl, Nat.le_of_ble_eq_true rfl⟩)), (hts _ (List.mem_cons_of_mem _ tm_92)), trivial⟩ ⟨fun _ _ _ _ q => q, fun U _ _ => ⟨rfl, trivial⟩⟩ rfl rfl hl.1 rfl (lv_room (Nat.le_of_ble_eq_true rfl)) dX0_lengthen_34 ⟨Nat.zero_le _, Nat.zero_le _⟩) ?_
        have hw34 := sp_wi_or (sp_ds n K A z i) (-128) 127
        refine jn_if_ne hx hb dX0_lengthen_37 (tgt := 49) rfl (by unfold ji_r; omega) (fun hc5 => ?_) (fun hc5 => ?_)
        · skip
          refine jn_iinc (lv' := [(2, .int (ji_n ((i : Int) + 1))), (1, .int (ji_n (sp_cg n K A z i))), (0, .ref (w 0))]) (k := 0) (v := (i : Int) + 1) hx hb dX0_lengthen_49 hl rfl rfl (by decide) rfl (fun ls hl => ?_)
          refine lv_goto hx hb dX0_lengthen_52 (tgt := 4) rfl ?_
          have hl : lv_has ls 3 [(2, .int (ji_n ((i + 1 : Nat) : Int))), (1, .int (ji_n (sp_cg n K A z (i + 1)))), (0, .ref (w 0))] := by
            have hl2 := lv_sub hl (l' := [(2, .int (ji_n ((i : Int) + 1))), (1, .int (ji_n (sp_cg n K A z i))), (0, .ref (w 0))]) [0, 1, 2] rfl
            rw [show (ji_n ((i : Int) + 1)) = (ji_n ((i + 1 : Nat) : Int)) from (congrArg ji_n (by omega))] at hl2
            rw [show (ji_n (sp_cg n K A z i)) = (ji_n (sp_cg n K A z (i + 1))) from (congrArg ji_n (by rw [sp_cg_s]; split <;> omega))] at hl2
            exact hl2
          exact ih2 (by omega) ls hl H locs fm_ hP hD hS (fun j h => by
                        have h8 := sp_lz_or n K A B z i; have h10 := sp_fm_or (K i) (sp_lz n K A B z i); have h11 := sp_lg_or (B i)
                        by_cases hj : j = i
                        · rw [hj, hq i (by omega), if_neg (by omega), if_pos (by omega)]; exact congrArg ji_n (by omega)
                        · rw [hq j h]; by_cases hji : j < i
                          · rw [if_pos hji, if_pos (by omega)]
                          · rw [if_neg hji, if_neg (by omega)])
        · skip
          refine lv_aload_n hx hb dX0_lengthen_40 rfl (lv_at hl 2 rfl) ?_
          refine va_get (ci := 0) (C := RX0) (T := TX0) (N := 4) hx hb hts hinX0 hown hK hP 0 rfl rfl 2 (by decide) hfl22 (fun _ h9 => h9) rfl dX0_lengthen_41 ?_
          refine lv_iload_n hx hb dX0_lengthen_44 rfl (lv_at hl 0 rfl) ?_
          refine jn_iconst hx hb dX0_lengthen_45 ?_
          refine jn_iast hx hb hK hP hD hS 2 0 rfl rfl i (by omega) (by omega) (by decide) dX0_lengthen_46 (fun H locs hP hD hS => ?_)
          have hP : va_P (dC, dI) vwCl (wo_A w cI n g0 g1 g2 st (upd fm_ i (ji_n 2)) vl) H := hP
          have hD : va_D A9 (wo_A w cI n g0 g1 g2 st (upd fm_ i (ji_n 2)) vl) := hD
          refine jn_iconst hx hb dX0_lengthen_47 ?_
          refine lv_istore_n (lv' := [(1, .int (ji_n 1)), (2, .int (ji_n (i : Int))), (0, .ref (w 0))]) hx hb dX0_lengthen_48 rfl hl (by decide) rfl (fun ls hl => ?_)
          refine jn_iinc (lv' := [(2, .int (ji_n ((i : Int) + 1))), (1, .int (ji_n 1)), (0, .ref (w 0))]) (k := 1) (v := (i : Int) + 1) hx hb dX0_lengthen_49 hl rfl rfl (by decide) rfl (fun ls hl => ?_)
          refine lv_goto hx hb dX0_lengthen_52 (tgt := 4) rfl ?_
          have hl : lv_has ls 3 [(2, .int (ji_n ((i + 1 : Nat) : Int))), (1, .int (ji_n (sp_cg n K A z (i + 1)))), (0, .ref (w 0))] := by
            have hl2 := lv_sub hl (l' := [(2, .int (ji_n ((i : Int) + 1))), (1, .int (ji_n 1)), (0, .ref (w 0))]) [0, 1, 2] rfl
            rw [show (ji_n ((i : Int) + 1)) = (ji_n ((i + 1 : Nat) : Int)) from (congrArg ji_n (by omega))] at hl2
            rw [show (ji_n 1) = (ji_n (sp_cg n K A z (i + 1))) from (congrArg ji_n (by rw [sp_cg_s]; split <;> omega))] at hl2
            exact hl2
          exact ih2 (by omega) ls hl H locs (upd fm_ i (ji_n 2)) hP hD hS (fun j h => by
                        have h8 := sp_lz_or n K A B z i; have h10 := sp_fm_or (K i) (sp_lz n K A B z i); have h11 := sp_lg_or (B i)
                        by_cases hj : j = i
                        · rw [hj, pk_us, if_pos (by omega)]; exact congrArg ji_n (by omega)
                        · rw [pk_un hj, hq j h]; by_cases hji : j < i
                          · rw [if_pos hji, if_pos (by omega)]
                          · rw [if_neg hji, if_neg (by omega)])
  have hl : lv_has ls 3 [(2, .int (ji_n ((0 : Nat) : Int))), (1, .int (ji_n (sp_cg n K A z 0))), (0, .ref (w 0))] := lv_sub hl [0, 1, 2] rfl
  exact loop1 0 (by omega) ls hl s.heap [] fm hP hD hS (fun j h => by rw [if_neg (by omega)]; exact hfm j h)

set_option maxHeartbeats 4000000 in
set_option maxRecDepth 100000 in
theorem ct_make (l : Launch) (size_ : Nat) (dC : Nat → ClassId) (dI : Nat → Nat → Nat) (cI : ClassId) (w : Nat → Nat) (n : Nat) (g0 g1 g2 st fm vl : Nat → Int32) (v : Nat → Nat) (k : Nat) (f0 f1 f2 : Nat → Int32) (K A B : Nat → Int) (hk : k ≤ 50) (hg : sp_gp K A B k) (hu : sp_uq K A k) (hd : sp_df k K A) (hF : as_F k K A B f0 f1 f2) : Met l yX0_make wsX0_make { frames := 2, cells := 0, slots := 0, locals := 45 } (va_Pc [.ref (w 0), .ref (v 0)] (wr_B (dC, dI) vwCl (wo_A w cI n g0 g1 g2 st fm vl ++ wo_P v cI k f0 f1 f2) size_ (kn_K dC dI cI))) (wr_Qv (fun H => ∃ (z : Nat → Int) (q0 q1 q2 q3 q4 q5 : Nat → Int32), va_P (dC, dI) vwCl (wo_A w cI k q0 q1 q2 q3 q4 q5 ++ wo_P v cI k f0 f1 f2) H ∧ sp_LC k K A B z ∧ as_F k K A B q0 q1 q2 ∧ as_S k K A z q3 q4 q5) (va_A (wo_A w cI n g0 g1 g2 st fm vl ++ wo_P v cI k f0 f1 f2) size_)) 0 0 (va_A (wo_A w cI n g0 g1 g2 st fm vl ++ wo_P v cI k f0 f1 f2) size_) := by
  refine st_wv (cc := cX0_make) (maxL := 3) (by decide) rfl (Nat.le_of_ble_eq_true rfl) (lv := [(0, .ref (w 0)), (1, .ref (v 0))]) rfl ?_
  intro p e s m args below meth c R Q ls A9 hx hb hts hown hml hR hP hD hA hS hN hl hend
  have hK := hN.1
  have hinX0 : ∀ w ∈ u_ws RX0 TX0 4, w ∈ wsX0_make := fun w h => List.mem_cons_of_mem _ (inX0 w h)
  have hfl12 := (hts _ (List.mem_cons_of_mem _ tm_57))
  refine lv_aload_n hx hb dX0_make_0 rfl (lv_at hl 0 rfl) ?_
  refine va_get (ci := 0) (C := RX0) (T := TX0) (N := 4) hx hb hts hinX0 hown hK hP 0 rfl rfl 0 (by decide) hfl12 (fun _ h9 => h9) rfl dX0_make_1 ?_
  refine lv_aload_n hx hb dX0_make_4 rfl (lv_at hl 1 rfl) ?_
  refine cl_wv (wc := wo_P (fun i => w (i + 4)) cI n g0 g1 g2 ++ wo_P v cI k f0 f1 f2) (wr := [0, 1, 2, 3].filterMap (fun i => (wo_A w cI n g0 g1 g2 st fm vl ++ wo_P v cI k f0 f1 f2)[i]?)) [4, 5, 6, 7, 8, 9, 10, 11] [0, 1, 2, 3] rfl rfl (by decide) (by decide) (by decide) hP hD hS hA (va_runV (As := [.ref (v 0)]) (rest := []) ⟨hx, hb, hml, hown, hts⟩ (ct_copyFrom l s.heap.size dC dI cI (fun i => w (i + 4)) n g0 g1 g2 v k f0 f1 f2 hk) (cwV 1 hts (ub_V tm_311 tm_312 tm_313 tm_2 tm_314) rfl rfl rfl (by decide +kernel) (by rw [hR]; exact ⟨Nat.le_of_ble_eq_true rfl, Nat.le_of_ble_eq_true rfl⟩)) (pv_wr (q0 := 0) (ci := 1) hN (hP.sub [4, 5, 6, 7, 8, 9, 10, 11] rfl) (hD.sub [4, 5, 6, 7, 8, 9, 10, 11] (by decide) rfl) rfl rfl) rfl rfl hl.1 rfl (lv_room (Nat.le_of_ble_eq_true rfl)) dX0_make_5 ⟨Nat.zero_le _, Nat.zero_le _⟩) (fun H locs hPs hj hS => ?_)
  obtain ⟨hP, hD⟩ := hj (wo_P (fun i => w (i + 4)) cI k (va_cpy f0 g0 0 0 k) (va_cpy f1 g1 0 0 k) (va_cpy f2 g2 0 0 k) ++ wo_P v cI k f0 f1 f2) rfl hPs
  have hP : va_P (dC, dI) vwCl (wo_A w cI k (va_cpy f0 g0 0 0 k) (va_cpy f1 g1 0 0 k) (va_cpy f2 g2 0 0 k) st fm vl ++ wo_P v cI k f0 f1 f2) H := hP
  have hD : va_D A9 (wo_A w cI k (va_cpy f0 g0 0 0 k) (va_cpy f1 g1 0 0 k) (va_cpy f2 g2 0 0 k) st fm vl ++ wo_P v cI k f0 f1 f2) := hD
  have hF2 : as_F k K A B (va_cpy f0 g0 0 0 k) (va_cpy f1 g1 0 0 k) (va_cpy f2 g2 0 0 k) := ⟨as_cp hF.1, as_cp hF.2.1, as_cp hF.2.2⟩
  generalize va_cpy f0 g0 0 0 k = c0 at hP hD hF2
  generalize va_cpy f1 g1 0 0 k = c1 at hP hD hF2
  generalize va_cpy f2 g2 0 0 k = c2 at hP hD hF2
  refine lv_aload_n hx hb dX0_make_8 rfl (lv_at hl 0 rfl) ?_
  refine cl_wv (wc := wo_A w cI k c0 c1 c2 st fm vl) (wr := [8, 9, 10, 11].filterMap (fun i => (wo_A w cI k c0 c1 c2 st fm vl ++ wo_P v cI k f0 f1 f2)[i]?)) [0, 1, 2, 3, 4, 5, 6, 7] [8, 9, 10, 11] rfl rfl (by decide) (by decide) (by decide) hP hD hS hA (va_runV (As := []) (rest := []) ⟨hx, hb, hml, hown, hts⟩ (ct_allShort l H.size dC dI cI w k c0 c1 c2 st fm vl K A B hk hg hF2) (cwV 0 hts (ub_V tm_315 tm_317 tm_s8 tm_3 tm_318) rfl rfl rfl (by decide +kernel) (by rw [hR]; exact ⟨Nat.le_of_ble_eq_true rfl, Nat.le_of_ble_eq_true rfl⟩)) (pv_wr (q0 := 0) (ci := 0) hN (hP.sub [0, 1, 2, 3, 4, 5, 6, 7] rfl) (hD.sub [0, 1, 2, 3, 4, 5, 6, 7] (by decide) rfl) rfl rfl) rfl rfl hl.1 rfl (lv_room (Nat.le_of_ble_eq_true rfl)) dX0_make_9 ⟨Nat.zero_le _, Nat.zero_le _⟩) (fun H locs hPs hj hS => ?_)
  obtain ⟨fm1, hPs, hm1⟩ := hPs
  obtain ⟨hP, hD⟩ := hj (wo_A w cI k c0 c1 c2 st fm1 vl) rfl hPs
  have hP := hP.sub (ws' := wo_A w cI k c0 c1 c2 st fm1 vl ++ wo_P v cI k f0 f1 f2) [4, 5, 6, 7, 8, 9, 10, 11, 0, 1, 2, 3] rfl
  have hD := hD.sub (ws' := wo_A w cI k c0 c1 c2 st fm1 vl ++ wo_P v cI k f0 f1 f2) [4, 5, 6, 7, 8, 9, 10, 11, 0, 1, 2, 3] (by decide) rfl
  have hP : va_P (dC, dI) vwCl (wo_A w cI k c0 c1 c2 st fm1 vl ++ wo_P v cI k f0 f1 f2) H := hP
  have hD : va_D A9 (wo_A w cI k c0 c1 c2 st fm1 vl ++ wo_P v cI k f0 f1 f2) := hD
  refine lv_aload_n hx hb dX0_make_12 rfl (lv_at hl 0 rfl) ?_
  refine cl_wv (wc := wo_A w cI k c0 c1 c2 st fm1 vl) (wr := [8, 9, 10, 11].filterMap (fun i => (wo_A w cI k c0 c1 c2 st fm1 vl ++ wo_P v cI k f0 f1 f2)[i]?)) [0, 1, 2, 3, 4, 5, 6, 7] [8, 9, 10, 11] rfl rfl (by decide) (by decide) (by decide) hP hD hS hA (va_runV (As := []) (rest := []) ⟨hx, hb, hml, hown, hts⟩ (ct_place l H.size dC dI cI w k c0 c1 c2 st fm1 vl K A B (sp_z0 K A) hk hg (sp_z0_ok hg) hF2 hm1) (cwV 0 hts (ub_V tm_319 tm_321 tm_s9 tm_3 tm_322) rfl rfl rfl (by decide +kernel) (by rw [hR]; exact ⟨Nat.le_of_ble_eq_true rfl, Nat.le_of_ble_eq_true rfl⟩)) (pv_wr (q0 := 0) (ci := 0) hN (hP.sub [0, 1, 2, 3, 4, 5, 6, 7] rfl) (hD.sub [0, 1, 2, 3, 4, 5, 6, 7] (by decide) rfl) rfl rfl) rfl rfl hl.1 rfl (lv_room (Nat.le_of_ble_eq_true rfl)) dX0_make_13 ⟨Nat.zero_le _, Nat.zero_le _⟩) (fun H locs hPs hj hS => ?_)
  obtain ⟨st1, vl1, hPs, hS1⟩ := hPs
  obtain ⟨hP, hD⟩ := hj (wo_A w cI k c0 c1 c2 st1 fm1 vl1) rfl hPs
  have hP := hP.sub (ws' := wo_A w cI k c0 c1 c2 st1 fm1 vl1 ++ wo_P v cI k f0 f1 f2) [4, 5, 6, 7, 8, 9, 10, 11, 0, 1, 2, 3] rfl
  have hD := hD.sub (ws' := wo_A w cI k c0 c1 c2 st1 fm1 vl1 ++ wo_P v cI k f0 f1 f2) [4, 5, 6, 7, 8, 9, 10, 11, 0, 1, 2, 3] (by decide) rfl
  have hP : va_P (dC, dI) vwCl (wo_A w cI k c0 c1 c2 st1 fm1 vl1 ++ wo_P v cI k f0 f1 f2) H := hP
  have hD : va_D A9 (wo_A w cI k c0 c1 c2 st1 fm1 vl1 ++ wo_P v cI k f0 f1 f2) := hD
  refine jn_iconst hx hb dX0_make_16 ?_
  refine lv_istore_n (lv' := [(2, .int (ji_n 0)), (0, .ref (w 0)), (1, .ref (v 0))]) hx hb dX0_make_17 rfl hl (by decide) rfl (fun ls hl => ?_)
  have loop1 : ∀ r : Nat, r ≤ 50 → ∀ (ls : Array Slot), lv_has ls 3 [(2, .int (ji_n (r : Int))), (0, .ref (w 0)), (1, .ref (v 0))] → ∀ (H : Heap) (locs : List Loc) (st_ : Nat → Int32) (fm_ : Nat → Int32) (vl_ : Nat → Int32), va_P (dC, dI) vwCl (wo_A w cI k c0 c1 c2 st_ fm_ vl_ ++ wo_P v cI k f0 f1 f2) H → va_D A9 (wo_A w cI k c0 c1 c2 st_ fm_ vl_ ++ wo_P v cI k f0 f1 f2) → va_S A9 s.heap H locs → (∃ z : Nat → Int, sp_AS k K A B z ∧ sp_lw k K A B z ∧ r ≤ sp_ct K z k ∧ as_S k K A z st_ fm_ vl_) → W p l e R s m args below meth c H locs 0 0 Q (F0 m 18 ls []) := by
    refine lp_up 50 ?_
    intro r hi_r ih2 ls hl H locs st_ fm_ vl_ hP hD hS hz
    obtain ⟨z, hAS, hlw, hct, hS9⟩ := hz
    refine lv_iload_n hx hb dX0_make_18 rfl (lv_at hl 0 rfl) ?_
    refine jn_bipush hx hb dX0_make_19 (by decide) ?_
    refine jn_icmp_ge hx hb dX0_make_21 (tgt := 41) rfl (by unfold ji_r; omega) (by unfold ji_r; omega) (fun hc3 => ?_) (fun hc3 => ?_)
    · skip
      exact hend _ _ _ _ dX0_make_41 ⟨z, c0, c1, c2, _, _, _, hP, ⟨hAS.2.2.1, sp_ct_cs (by have := sp_ct_le K z k; omega), hlw⟩, hF2, hS9⟩ hS
    · skip
      refine lv_aload_n hx hb dX0_make_24 rfl (lv_at hl 1 rfl) ?_
      refine cl_wi (wc := wo_A w cI k c0 c1 c2 st_ fm_ vl_) (wr := [8, 9, 10, 11].filterMap (fun i => (wo_A w cI k c0 c1 c2 st_ fm_ vl_ ++ wo_P v cI k f0 f1 f2)[i]?)) [0, 1, 2, 3, 4, 5, 6, 7] [8, 9, 10, 11] rfl rfl (by decide) (by decide) (by decide) hP hD hS hA (va_runV (As := []) (rest := []) ⟨hx, hb, hml, hown, hts⟩ (ct_lengthen l H.size dC dI cI w k c0 c1 c2 st_ fm_ vl_ K A B z hF2 hAS hS9) (cwV 0 hts (ub_V tm_323 tm_325 tm_s10 tm_3 tm_326) rfl rfl rfl (by decide +kernel) (by rw [hR]; exact ⟨Nat.le_of_ble_eq_true rfl, Nat.le_of_ble_eq_true rfl⟩)) (pv_wr (q0 := 0) (ci := 0) hN (hP.sub [0, 1, 2, 3, 4, 5, 6, 7] rfl) (hD.sub [0, 1, 2, 3, 4, 5, 6, 7] (by decide) rfl) rfl rfl) rfl rfl hl.1 rfl (lv_room (Nat.le_of_ble_eq_true rfl)) dX0_make_25 ⟨Nat.zero_le _, Nat.zero_le _⟩) (fun r9 H locs hPs hj hS => ?_)
      obtain ⟨hr9, fm2, hPs, hm2⟩ := hPs
      obtain ⟨hP, hD⟩ := hj (wo_A w cI k c0 c1 c2 st_ fm2 vl_) rfl hPs
      have hP := hP.sub (ws' := wo_A w cI k c0 c1 c2 st_ fm2 vl_ ++ wo_P v cI k f0 f1 f2) [4, 5, 6, 7, 8, 9, 10, 11, 0, 1, 2, 3] rfl
      have hD := hD.sub (ws' := wo_A w cI k c0 c1 c2 st_ fm2 vl_ ++ wo_P v cI k f0 f1 f2) [4, 5, 6, 7, 8, 9, 10, 11, 0, 1, 2, 3] (by decide) rfl
      have hP : va_P (dC, dI) vwCl (wo_A w cI k c0 c1 c2 st_ fm2 vl_ ++ wo_P v cI k f0 f1 f2) H := hP
      have hD : va_D A9 (wo_A w cI k c0 c1 c2 st_ fm2 vl_ ++ wo_P v cI k f0 f1 f2) := hD
      subst hr9
      have hcg := sp_cg_or k K A z k
      refine jn_if_eq hx hb dX0_make_28 (tgt := 41) rfl (by unfold ji_r; rcases hcg with h | h <;> omega) (fun hc4 => ?_) (fun hc4 => ?_)
      · skip
        have hz2 : ∀ j, j < k → sp_lz k K A B z j = z j := by
          intro j hj
          rcases sp_lz_or k K A B z j with ⟨q1, q2, q3, -⟩ | ⟨-, q⟩
          · rcases hcg with h | h
            · omega
            · exact absurd ⟨q1, q2, q3⟩ (h.2 j hj)
          · exact q
        exact hend _ _ _ _ dX0_make_41 ⟨z, c0, c1, c2, _, _, _, hP, ⟨hAS.2.2.1, sp_cg_cs (by rcases hcg with h | h <;> omega), hlw⟩, hF2, hS9.1, (fun j hj => by rw [hm2 j hj, hz2 j hj]), hS9.2.2⟩ hS
      · skip
        refine lv_aload_n hx hb dX0_make_31 rfl (lv_at hl 1 rfl) ?_
        refine cl_wv (wc := wo_A w cI k c0 c1 c2 st_ fm2 vl_) (wr := [8, 9, 10, 11].filterMap (fun i => (wo_A w cI k c0 c1 c2 st_ fm2 vl_ ++ wo_P v cI k f0 f1 f2)[i]?)) [0, 1, 2, 3, 4, 5, 6, 7] [8, 9, 10, 11] rfl rfl (by decide) (by decide) (by decide) hP hD hS hA (va_runV (As := []) (rest := []) ⟨hx, hb, hml, hown, hts⟩ (ct_place l H.size dC dI cI w k c0 c1 c2 st_ fm2 vl_ K A B (sp_lz k K A B z) hk hg (sp_lz_AS hAS).2.2.1 hF2 hm2) (cwV 0 hts (ub_V tm_319 tm_321 tm_s9 tm_3 tm_322) rfl rfl rfl (by decide +kernel) (by rw [hR]; exact ⟨Nat.le_of_ble_eq_true rfl, Nat.le_of_ble_eq_true rfl⟩)) (pv_wr (q0 := 0) (ci := 0) hN (hP.sub [0, 1, 2, 3, 4, 5, 6, 7] rfl) (hD.sub [0, 1, 2, 3, 4, 5, 6, 7] (by decide) rfl) rfl rfl) rfl rfl hl.1 rfl (lv_room (Nat.le_of_ble_eq_true rfl)) dX0_make_32 ⟨Nat.zero_le _, Nat.zero_le _⟩) (fun H locs hPs hj hS => ?_)
        obtain ⟨st3, vl3, hPs, hS3⟩ := hPs
        obtain ⟨hP, hD⟩ := hj (wo_A w cI k c0 c1 c2 st3 fm2 vl3) rfl hPs
        have hP := hP.sub (ws' := wo_A w cI k c0 c1 c2 st3 fm2 vl3 ++ wo_P v cI k f0 f1 f2) [4, 5, 6, 7, 8, 9, 10, 11, 0, 1, 2, 3] rfl
        have hD := hD.sub (ws' := wo_A w cI k c0 c1 c2 st3 fm2 vl3 ++ wo_P v cI k f0 f1 f2) [4, 5, 6, 7, 8, 9, 10, 11, 0, 1, 2, 3] (by decide) rfl
        have hP : va_P (dC, dI) vwCl (wo_A w cI k c0 c1 c2 st3 fm2 vl3 ++ wo_P v cI k f0 f1 f2) H := hP
        have hD : va_D A9 (wo_A w cI k c0 c1 c2 st3 fm2 vl3 ++ wo_P v cI k f0 f1 f2) := hD
        refine jn_iinc (lv' := [(2, .int (ji_n ((r : Int) + 1))), (0, .ref (w 0)), (1, .ref (v 0))]) (k := 0) (v := (r : Int) + 1) hx hb dX0_make_35 hl rfl rfl (by decide) rfl (fun ls hl => ?_)
        refine lv_goto hx hb dX0_make_38 (tgt := 18) rfl ?_
        have hl : lv_has ls 3 [(2, .int (ji_n ((r + 1 : Nat) : Int))), (0, .ref (w 0)), (1, .ref (v 0))] := by
          have hl2 := lv_sub hl (l' := [(2, .int (ji_n ((r : Int) + 1))), (0, .ref (w 0)), (1, .ref (v 0))]) [0, 1, 2] rfl
          rw [show (ji_n ((r : Int) + 1)) = (ji_n ((r + 1 : Nat) : Int)) from (congrArg ji_n (by omega))] at hl2
          exact hl2
        exact ih2 (by omega) ls hl H locs st3 fm2 vl3 hP hD hS ⟨sp_lz k K A B z, sp_lz_AS hAS, sp_lz_lw hAS hd hlw, Nat.le_trans (by omega) (sp_lz_ct (B := B) (by rcases hcg with h | h <;> omega)), hS3⟩
  have hl : lv_has ls 3 [(2, .int (ji_n ((0 : Nat) : Int))), (0, .ref (w 0)), (1, .ref (v 0))] := lv_sub hl [0, 1, 2] rfl
  exact loop1 0 (by omega) ls hl H locs st1 fm1 vl1 hP hD hS ⟨sp_z0 K A, ⟨hk, hg, sp_z0_ok hg, hu⟩, sp_z0_lw hg, Nat.zero_le _, hS1⟩
end
section
set_option maxHeartbeats 4000000 in
set_option maxRecDepth 100000 in
theorem cd_lines (l : Launch) (dC : Nat → ClassId) (dI : Nat → Nat → Nat) (cI : ClassId) (u v w : Nat → Nat) (nP : Nat) (f0 f1 f2 : Nat → Int32) (n : Nat) (g0 g1 g2 st fm vl : Nat → Int32) : Met l yX2_lines wsX2_lines { frames := 0, cells := 0, slots := 0, locals := 0 } (va_Pc [.ref (u 0)] (fun U => va_P (dC, dI) vwCl (wo_D u v w cI nP f0 f1 f2 n g0 g1 g2 st fm vl) U.heap ∧ kn_K dC dI cI U)) (vp_Si (fun r => r = ji_n (nP : Int))) 0 0 (fun _ => False) := by
  refine st_rd (cc := cX2_lines) (maxL := 1) (ret := some .int) (ty := .int) (by decide) rfl rfl (Nat.le_of_ble_eq_true rfl) (lv := [(0, .ref (u 0))]) rfl (fun v h => rfl) ?_
  intro p e s m args below meth c R Q ls hx hb hts hown hml hR hB hl hend
  obtain ⟨hP, hN⟩ := hB
  have hK := hN.1
  have hinX2 : ∀ w ∈ u_ws RX2 TX2 2, w ∈ wsX2_lines := fun w h => List.mem_cons_of_mem _ (inX2 w h)
  have hfl10 := (hts _ (List.mem_cons_of_mem _ tm_74))
  have hinX1 : ∀ w ∈ u_ws RX1 TX1 4, w ∈ wsX2_lines := fun w h => List.mem_cons_of_mem _ (inX1 w h)
  refine lv_aload_n hx hb dX2_lines_0 rfl (lv_at hl 0 rfl) ?_
  refine va_get (ci := 2) (C := RX2) (T := TX2) (N := 2) hx hb hts hinX2 hown hK hP 0 rfl rfl 0 (by decide) hfl10 (fun _ h9 => h9) rfl dX2_lines_1 ?_
  refine va_getN (ci := 1) (C := RX1) (T := TX1) (N := 4) hx hb hts hinX1 hown hK hP 1 rfl rfl 3 (by decide) (va_Nw.use rfl (nw_0 hN)) (fun _ h9 => h9) rfl dX2_lines_4 ?_
  exact hend _ _ _ dX2_lines_7 rfl

set_option maxHeartbeats 4000000 in
set_option maxRecDepth 100000 in
theorem cd_at (l : Launch) (dC : Nat → ClassId) (dI : Nat → Nat → Nat) (cI : ClassId) (u v w : Nat → Nat) (nP : Nat) (f0 f1 f2 : Nat → Int32) (n : Nat) (g0 g1 g2 st fm vl : Nat → Int32) (K A B z : Nat → Int) (hF : as_F n K A B g0 g1 g2) (hAS : sp_AS n K A B z) (hS : as_S n K A z st fm vl) (x : Int) (r1 : ji_r x) : Met l yX2_at wsX2_at { frames := 4, cells := 0, slots := 0, locals := 90 } (va_Pc [.ref (u 0), .int (ji_n x)] (fun U => va_P (dC, dI) vwCl (wo_D u v w cI nP f0 f1 f2 n g0 g1 g2 st fm vl) U.heap ∧ kn_K dC dI cI U)) (vp_Si (fun r => r = ji_n (sp_ba n K A B z x))) 0 0 (fun _ => False) := by
  refine st_rd (cc := cX2_at) (maxL := 2) (ret := some .int) (ty := .int) (by decide) rfl rfl (Nat.le_of_ble_eq_true rfl) (lv := [(0, .ref (u 0)), (1, .int (ji_n x))]) rfl (fun v h => rfl) ?_
  intro p e s m args below meth c R Q ls hx hb hts hown hml hR hB hl hend
  obtain ⟨hP, hN⟩ := hB
  have hK := hN.1
  have hinX2 : ∀ w ∈ u_ws RX2 TX2 2, w ∈ wsX2_at := fun w h => List.mem_cons_of_mem _ (inX2 w h)
  have hfl19 := (hts _ (List.mem_cons_of_mem _ tm_75))
  have hS0 := hS
  have hn := hAS.1
  have hg := hAS.2.1
  have ho := hAS.2.2.1
  obtain ⟨hst, hfm, hvl⟩ := hS
  refine lv_aload_n hx hb dX2_at_0 rfl (lv_at hl 0 rfl) ?_
  refine va_get (ci := 2) (C := RX2) (T := TX2) (N := 2) hx hb hts hinX2 hown hK hP 0 rfl rfl 1 (by decide) hfl19 (fun _ h9 => h9) rfl dX2_at_1 ?_
  refine lv_iload_n hx hb dX2_at_4 rfl (lv_at hl 1 rfl) ?_
  refine cl_rd (va_runV (As := [.int (ji_n x)]) (rest := []) ⟨hx, hb, hml, hown, hts⟩ (ct_byteAt l dC dI cI w n g0 g1 g2 st fm vl K A B z hF hAS hS0 x r1) (cwV 1 hts (ub_V tm_125 tm_126 tm_127 tm_3 tm_128) rfl rfl rfl (by decide +kernel) (by rw [hR]; exact ⟨Nat.le_of_ble_eq_true rfl, Nat.le_of_ble_eq_true rfl⟩)) (pv_rd (q0 := 0) (ci := 0) hN (hP.sub [5, 6, 7, 8, 9, 10, 11, 12] rfl) rfl rfl) rfl rfl hl.1 rfl (lv_room (Nat.le_of_ble_eq_true rfl)) dX2_at_5 ⟨Nat.zero_le _, Nat.zero_le _⟩) ?_
  exact hend _ _ _ dX2_at_8 rfl

set_option maxHeartbeats 4000000 in
set_option maxRecDepth 100000 in
theorem cd_address (l : Launch) (dC : Nat → ClassId) (dI : Nat → Nat → Nat) (cI : ClassId) (u v w : Nat → Nat) (nP : Nat) (f0 f1 f2 : Nat → Int32) (n : Nat) (g0 g1 g2 st fm vl : Nat → Int32) (K A B z : Nat → Int) (hF : as_F n K A B g0 g1 g2) (hAS : sp_AS n K A B z) (hS : as_S n K A z st fm vl) (x : Int) (r1 : ji_r x) : Met l yX2_address wsX2_address { frames := 1, cells := 0, slots := 0, locals := 21 } (va_Pc [.ref (u 0), .int (ji_n x)] (fun U => va_P (dC, dI) vwCl (wo_D u v w cI nP f0 f1 f2 n g0 g1 g2 st fm vl) U.heap ∧ kn_K dC dI cI U)) (vp_Si (fun r => r = ji_n (sp_ad n z x))) 0 0 (fun _ => False) := by
  refine st_rd (cc := cX2_address) (maxL := 2) (ret := some .int) (ty := .int) (by decide) rfl rfl (Nat.le_of_ble_eq_true rfl) (lv := [(0, .ref (u 0)), (1, .int (ji_n x))]) rfl (fun v h => rfl) ?_
  intro p e s m args below meth c R Q ls hx hb hts hown hml hR hB hl hend
  obtain ⟨hP, hN⟩ := hB
  have hK := hN.1
  have hinX2 : ∀ w ∈ u_ws RX2 TX2 2, w ∈ wsX2_address := fun w h => List.mem_cons_of_mem _ (inX2 w h)
  have hfl19 := (hts _ (List.mem_cons_of_mem _ tm_75))
  have hinX0 : ∀ w ∈ u_ws RX0 TX0 4, w ∈ wsX2_address := fun w h => List.mem_cons_of_mem _ (inX0 w h)
  have hS0 := hS
  have hn := hAS.1
  have hg := hAS.2.1
  have ho := hAS.2.2.1
  obtain ⟨hst, hfm, hvl⟩ := hS
  refine lv_aload_n hx hb dX2_address_0 rfl (lv_at hl 0 rfl) ?_
  refine va_get (ci := 2) (C := RX2) (T := TX2) (N := 2) hx hb hts hinX2 hown hK hP 0 rfl rfl 1 (by decide) hfl19 (fun _ h9 => h9) rfl dX2_address_1 ?_
  refine va_getN (ci := 0) (C := RX0) (T := TX0) (N := 4) hx hb hts hinX0 hown hK hP 5 rfl rfl 0 (by decide) (va_Nw.use rfl (nw_1 hN)) (fun _ h9 => h9) rfl dX2_address_4 ?_
  refine lv_iload_n hx hb dX2_address_7 rfl (lv_at hl 1 rfl) ?_
  refine cl_rd (va_runV (As := [.int (ji_n x)]) (rest := []) ⟨hx, hb, hml, hown, hts⟩ (ct_has l dC dI cI (fun i => w (i + 4)) n g0 g1 g2 x r1 hn) (cwV 1 hts (ub_V tm_159 tm_114 tm_115 tm_2 tm_116) rfl rfl rfl (by decide +kernel) (by rw [hR]; exact ⟨Nat.le_of_ble_eq_true rfl, Nat.le_of_ble_eq_true rfl⟩)) (pv_rd (q0 := 0) (ci := 1) hN (hP.sub [9, 10, 11, 12] rfl) rfl rfl) rfl rfl hl.1 rfl (lv_room (Nat.le_of_ble_eq_true rfl)) dX2_address_8 ⟨Nat.zero_le _, Nat.zero_le _⟩) ?_
  have hw := sp_wi_or x 0 ((n : Int) - 1)
  refine jn_if_eq hx hb dX2_address_11 (tgt := 26) rfl (by unfold ji_r; omega) (fun hc1 => ?_) (fun hc1 => ?_)
  · skip
    refine jn_iconst hx hb dX2_address_26 ?_
    exact hend _ _ _ dX2_address_27 (congrArg ji_n (by unfold sp_ad; rw [if_neg (by omega)]))
  · skip
    refine lv_aload_n hx hb dX2_address_14 rfl (lv_at hl 0 rfl) ?_
    refine va_get (ci := 2) (C := RX2) (T := TX2) (N := 2) hx hb hts hinX2 hown hK hP 0 rfl rfl 1 (by decide) hfl19 (fun _ h9 => h9) rfl dX2_address_15 ?_
    refine va_getN (ci := 0) (C := RX0) (T := TX0) (N := 4) hx hb hts hinX0 hown hK hP 5 rfl rfl 1 (by decide) (va_Nw.use rfl (nw_2 hN)) (fun _ h9 => h9) rfl dX2_address_18 ?_
    refine lv_iload_n hx hb dX2_address_21 rfl (lv_at hl 1 rfl) ?_
    refine jn_iald hx hb hK hP 6 0 rfl rfl x.toNat (by omega) (by omega) (by decide) (v := sp_pz z x.toNat) (hst x.toNat (by omega)) dX2_address_22 ?_
    refine lv_goto hx hb dX2_address_23 (tgt := 27) rfl ?_
    exact hend _ _ _ dX2_address_27 (congrArg ji_n (by unfold sp_ad; rw [if_pos (by omega)]))

set_option maxHeartbeats 4000000 in
set_option maxRecDepth 100000 in
theorem cd_form (l : Launch) (dC : Nat → ClassId) (dI : Nat → Nat → Nat) (cI : ClassId) (u v w : Nat → Nat) (nP : Nat) (f0 f1 f2 : Nat → Int32) (n : Nat) (g0 g1 g2 st fm vl : Nat → Int32) (K A B z : Nat → Int) (hF : as_F n K A B g0 g1 g2) (hAS : sp_AS n K A B z) (hS : as_S n K A z st fm vl) (x : Int) (r1 : ji_r x) : Met l yX2_form wsX2_form { frames := 1, cells := 0, slots := 0, locals := 21 } (va_Pc [.ref (u 0), .int (ji_n x)] (fun U => va_P (dC, dI) vwCl (wo_D u v w cI nP f0 f1 f2 n g0 g1 g2 st fm vl) U.heap ∧ kn_K dC dI cI U)) (vp_Si (fun r => r = ji_n (sp_fo n K z x))) 0 0 (fun _ => False) := by
  refine st_rd (cc := cX2_form) (maxL := 2) (ret := some .int) (ty := .int) (by decide) rfl rfl (Nat.le_of_ble_eq_true rfl) (lv := [(0, .ref (u 0)), (1, .int (ji_n x))]) rfl (fun v h => rfl) ?_
  intro p e s m args below meth c R Q ls hx hb hts hown hml hR hB hl hend
  obtain ⟨hP, hN⟩ := hB
  have hK := hN.1
  have hinX2 : ∀ w ∈ u_ws RX2 TX2 2, w ∈ wsX2_form := fun w h => List.mem_cons_of_mem _ (inX2 w h)
  have hfl19 := (hts _ (List.mem_cons_of_mem _ tm_75))
  have hinX0 : ∀ w ∈ u_ws RX0 TX0 4, w ∈ wsX2_form := fun w h => List.mem_cons_of_mem _ (inX0 w h)
  have hS0 := hS
  have hn := hAS.1
  have hg := hAS.2.1
  have ho := hAS.2.2.1
  obtain ⟨hst, hfm, hvl⟩ := hS
  refine lv_aload_n hx hb dX2_form_0 rfl (lv_at hl 0 rfl) ?_
  refine va_get (ci := 2) (C := RX2) (T := TX2) (N := 2) hx hb hts hinX2 hown hK hP 0 rfl rfl 1 (by decide) hfl19 (fun _ h9 => h9) rfl dX2_form_1 ?_
  refine va_getN (ci := 0) (C := RX0) (T := TX0) (N := 4) hx hb hts hinX0 hown hK hP 5 rfl rfl 0 (by decide) (va_Nw.use rfl (nw_1 hN)) (fun _ h9 => h9) rfl dX2_form_4 ?_
  refine lv_iload_n hx hb dX2_form_7 rfl (lv_at hl 1 rfl) ?_
  refine cl_rd (va_runV (As := [.int (ji_n x)]) (rest := []) ⟨hx, hb, hml, hown, hts⟩ (ct_has l dC dI cI (fun i => w (i + 4)) n g0 g1 g2 x r1 hn) (cwV 1 hts (ub_V tm_159 tm_114 tm_115 tm_2 tm_116) rfl rfl rfl (by decide +kernel) (by rw [hR]; exact ⟨Nat.le_of_ble_eq_true rfl, Nat.le_of_ble_eq_true rfl⟩)) (pv_rd (q0 := 0) (ci := 1) hN (hP.sub [9, 10, 11, 12] rfl) rfl rfl) rfl rfl hl.1 rfl (lv_room (Nat.le_of_ble_eq_true rfl)) dX2_form_8 ⟨Nat.zero_le _, Nat.zero_le _⟩) ?_
  have hw := sp_wi_or x 0 ((n : Int) - 1)
  refine jn_if_eq hx hb dX2_form_11 (tgt := 26) rfl (by unfold ji_r; omega) (fun hc1 => ?_) (fun hc1 => ?_)
  · skip
    refine jn_iconst hx hb dX2_form_26 ?_
    exact hend _ _ _ dX2_form_27 (congrArg ji_n (by unfold sp_fo; rw [if_neg (by omega)]))
  · skip
    refine lv_aload_n hx hb dX2_form_14 rfl (lv_at hl 0 rfl) ?_
    refine va_get (ci := 2) (C := RX2) (T := TX2) (N := 2) hx hb hts hinX2 hown hK hP 0 rfl rfl 1 (by decide) hfl19 (fun _ h9 => h9) rfl dX2_form_15 ?_
    refine va_getN (ci := 0) (C := RX0) (T := TX0) (N := 4) hx hb hts hinX0 hown hK hP 5 rfl rfl 2 (by decide) (va_Nw.use rfl (nw_3 hN)) (fun _ h9 => h9) rfl dX2_form_18 ?_
    refine lv_iload_n hx hb dX2_form_21 rfl (lv_at hl 1 rfl) ?_
    refine jn_iald hx hb hK hP 7 0 rfl rfl x.toNat (by omega) (by omega) (by decide) (v := sp_fm (K x.toNat) (z x.toNat)) (hfm x.toNat (by omega)) dX2_form_22 ?_
    refine lv_goto hx hb dX2_form_23 (tgt := 27) rfl ?_
    exact hend _ _ _ dX2_form_27 (congrArg ji_n (by unfold sp_fo; rw [if_pos (by omega)]))

set_option maxHeartbeats 4000000 in
set_option maxRecDepth 100000 in
theorem cd_longs (l : Launch) (dC : Nat → ClassId) (dI : Nat → Nat → Nat) (cI : ClassId) (u v w : Nat → Nat) (nP : Nat) (f0 f1 f2 : Nat → Int32) (n : Nat) (g0 g1 g2 st fm vl : Nat → Int32) (K A B z : Nat → Int) (hF : as_F n K A B g0 g1 g2) (hAS : sp_AS n K A B z) (hS : as_S n K A z st fm vl) : Met l yX2_longs wsX2_longs { frames := 1, cells := 0, slots := 0, locals := 22 } (va_Pc [.ref (u 0)] (fun U => va_P (dC, dI) vwCl (wo_D u v w cI nP f0 f1 f2 n g0 g1 g2 st fm vl) U.heap ∧ kn_K dC dI cI U)) (vp_Si (fun r => r = ji_n (sp_lc K z n))) 0 0 (fun _ => False) := by
  refine st_rd (cc := cX2_longs) (maxL := 1) (ret := some .int) (ty := .int) (by decide) rfl rfl (Nat.le_of_ble_eq_true rfl) (lv := [(0, .ref (u 0))]) rfl (fun v h => rfl) ?_
  intro p e s m args below meth c R Q ls hx hb hts hown hml hR hB hl hend
  obtain ⟨hP, hN⟩ := hB
  have hK := hN.1
  have hinX2 : ∀ w ∈ u_ws RX2 TX2 2, w ∈ wsX2_longs := fun w h => List.mem_cons_of_mem _ (inX2 w h)
  have hfl19 := (hts _ (List.mem_cons_of_mem _ tm_75))
  have hS0 := hS
  have hn := hAS.1
  have hg := hAS.2.1
  have ho := hAS.2.2.1
  obtain ⟨hst, hfm, hvl⟩ := hS
  refine lv_aload_n hx hb dX2_longs_0 rfl (lv_at hl 0 rfl) ?_
  refine va_get (ci := 2) (C := RX2) (T := TX2) (N := 2) hx hb hts hinX2 hown hK hP 0 rfl rfl 1 (by decide) hfl19 (fun _ h9 => h9) rfl dX2_longs_1 ?_
  refine cl_rd (va_runV (As := []) (rest := []) ⟨hx, hb, hml, hown, hts⟩ (ct_countLong l dC dI cI w n g0 g1 g2 st fm vl K A B z hF hAS hS0) (cwV 0 hts (ub_V tm_168 tm_169 tm_170 tm_3 tm_171) rfl rfl rfl (by decide +kernel) (by rw [hR]; exact ⟨Nat.le_of_ble_eq_true rfl, Nat.le_of_ble_eq_true rfl⟩)) (pv_rd (q0 := 0) (ci := 0) hN (hP.sub [5, 6, 7, 8, 9, 10, 11, 12] rfl) rfl rfl) rfl rfl hl.1 rfl (lv_room (Nat.le_of_ble_eq_true rfl)) dX2_longs_4 ⟨Nat.zero_le _, Nat.zero_le _⟩) ?_
  exact hend _ _ _ dX2_longs_7 rfl

set_option maxHeartbeats 4000000 in
set_option maxRecDepth 100000 in
theorem cd_value (l : Launch) (dC : Nat → ClassId) (dI : Nat → Nat → Nat) (cI : ClassId) (u v w : Nat → Nat) (nP : Nat) (f0 f1 f2 : Nat → Int32) (n : Nat) (g0 g1 g2 st fm vl : Nat → Int32) (K A B z : Nat → Int) (hF : as_F n K A B g0 g1 g2) (hAS : sp_AS n K A B z) (hS : as_S n K A z st fm vl) (x : Int) (r1 : ji_r x) : Met l yX2_value wsX2_value { frames := 2, cells := 0, slots := 0, locals := 42 } (va_Pc [.ref (u 0), .int (ji_n x)] (fun U => va_P (dC, dI) vwCl (wo_D u v w cI nP f0 f1 f2 n g0 g1 g2 st fm vl) U.heap ∧ kn_K dC dI cI U)) (vp_Si (fun r => r = ji_n (sp_la K A z n x))) 0 0 (fun _ => False) := by
  refine st_rd (cc := cX2_value) (maxL := 2) (ret := some .int) (ty := .int) (by decide) rfl rfl (Nat.le_of_ble_eq_true rfl) (lv := [(0, .ref (u 0)), (1, .int (ji_n x))]) rfl (fun v h => rfl) ?_
  intro p e s m args below meth c R Q ls hx hb hts hown hml hR hB hl hend
  obtain ⟨hP, hN⟩ := hB
  have hK := hN.1
  have hinX2 : ∀ w ∈ u_ws RX2 TX2 2, w ∈ wsX2_value := fun w h => List.mem_cons_of_mem _ (inX2 w h)
  have hfl19 := (hts _ (List.mem_cons_of_mem _ tm_75))
  have hinX0 : ∀ w ∈ u_ws RX0 TX0 4, w ∈ wsX2_value := fun w h => List.mem_cons_of_mem _ (inX0 w h)
  have hS0 := hS
  have hn := hAS.1
  have hg := hAS.2.1
  have ho := hAS.2.2.1
  obtain ⟨hst, hfm, hvl⟩ := hS
  refine lv_iload_n hx hb dX2_value_0 rfl (lv_at hl 1 rfl) ?_
  refine cl_rd (va_runS (As := [.int (ji_n x)]) (rest := []) ⟨hx, hb, hml, hown, hts⟩ (ct_isLabel l x r1) (va_cwS 1 hts (ub_S tm_88 tm_89 tm_1 tm_90) rfl rfl rfl (by decide +kernel) (by rw [hR]; exact ⟨Nat.le_of_ble_eq_true rfl, Nat.le_of_ble_eq_true rfl⟩)) ⟨fun _ _ _ _ q => q, fun U _ _ => ⟨rfl, trivial⟩⟩ rfl rfl hl.1 rfl (lv_room (Nat.le_of_ble_eq_true rfl)) dX2_value_1 ⟨Nat.zero_le _, Nat.zero_le _⟩) ?_
  have hw := sp_wi_or x 0 15
  refine jn_if_eq hx hb dX2_value_4 (tgt := 19) rfl (by unfold ji_r; omega) (fun hc1 => ?_) (fun hc1 => ?_)
  · skip
    refine jn_iconst hx hb dX2_value_19 ?_
    exact hend _ _ _ dX2_value_20 (congrArg ji_n (sp_la_out hg (by omega)).symm)
  · skip
    refine lv_aload_n hx hb dX2_value_7 rfl (lv_at hl 0 rfl) ?_
    refine va_get (ci := 2) (C := RX2) (T := TX2) (N := 2) hx hb hts hinX2 hown hK hP 0 rfl rfl 1 (by decide) hfl19 (fun _ h9 => h9) rfl dX2_value_8 ?_
    refine va_getN (ci := 0) (C := RX0) (T := TX0) (N := 4) hx hb hts hinX0 hown hK hP 5 rfl rfl 3 (by decide) (va_Nw.use rfl (nw_4 hN)) (fun _ h9 => h9) rfl dX2_value_11 ?_
    refine lv_iload_n hx hb dX2_value_14 rfl (lv_at hl 1 rfl) ?_
    refine jn_iald hx hb hK hP 8 0 rfl rfl x.toNat (by omega) (by omega) (by decide) (v := sp_la K A z n x) (hvl x (by omega) (by omega)) dX2_value_15 ?_
    refine lv_goto hx hb dX2_value_16 (tgt := 20) rfl ?_
    exact hend _ _ _ dX2_value_20 rfl

set_option maxHeartbeats 4000000 in
set_option maxRecDepth 100000 in
theorem cd_jumps (l : Launch) (dC : Nat → ClassId) (dI : Nat → Nat → Nat) (cI : ClassId) (u v w : Nat → Nat) (nP : Nat) (f0 f1 f2 : Nat → Int32) (n : Nat) (g0 g1 g2 st fm vl : Nat → Int32) (K A B z : Nat → Int) (hF : as_F n K A B g0 g1 g2) (hAS : sp_AS n K A B z) (hS : as_S n K A z st fm vl) (x : Int) (r1 : ji_r x) : Met l yX2_jumps wsX2_jumps { frames := 5, cells := 0, slots := 0, locals := 113 } (va_Pc [.ref (u 0), .int (ji_n x)] (fun U => va_P (dC, dI) vwCl (wo_D u v w cI nP f0 f1 f2 n g0 g1 g2 st fm vl) U.heap ∧ kn_K dC dI cI U)) (vp_Si (fun r => r = ji_n (sp_ju (sp_os n K A B z x)))) 0 0 (fun _ => False) := by
  refine st_rd (cc := cX2_jumps) (maxL := 2) (ret := some .boolean) (ty := .boolean) (by decide) rfl rfl (Nat.le_of_ble_eq_true rfl) (lv := [(0, .ref (u 0)), (1, .int (ji_n x))]) rfl (fun v h => by rw [h]; exact nb_b (by have := sp_ju_or (sp_os n K A B z x); omega)) ?_
  intro p e s m args below meth c R Q ls hx hb hts hown hml hR hB hl hend
  obtain ⟨hP, hN⟩ := hB
  have hK := hN.1
  have hinX2 : ∀ w ∈ u_ws RX2 TX2 2, w ∈ wsX2_jumps := fun w h => List.mem_cons_of_mem _ (inX2 w h)
  have hfl19 := (hts _ (List.mem_cons_of_mem _ tm_75))
  have hS0 := hS
  have hn := hAS.1
  have hg := hAS.2.1
  have ho := hAS.2.2.1
  obtain ⟨hst, hfm, hvl⟩ := hS
  refine lv_aload_n hx hb dX2_jumps_0 rfl (lv_at hl 0 rfl) ?_
  refine va_get (ci := 2) (C := RX2) (T := TX2) (N := 2) hx hb hts hinX2 hown hK hP 0 rfl rfl 1 (by decide) hfl19 (fun _ h9 => h9) rfl dX2_jumps_1 ?_
  refine lv_iload_n hx hb dX2_jumps_4 rfl (lv_at hl 1 rfl) ?_
  refine cl_rd (va_runV (As := [.int (ji_n x)]) (rest := []) ⟨hx, hb, hml, hown, hts⟩ (ct_opSize l dC dI cI w n g0 g1 g2 st fm vl K A B z hF hAS hS0 x r1) (cwV 1 hts (ub_V tm_180 tm_181 tm_182 tm_3 tm_183) rfl rfl rfl (by decide +kernel) (by rw [hR]; exact ⟨Nat.le_of_ble_eq_true rfl, Nat.le_of_ble_eq_true rfl⟩)) (pv_rd (q0 := 0) (ci := 0) hN (hP.sub [5, 6, 7, 8, 9, 10, 11, 12] rfl) rfl rfl) rfl rfl hl.1 rfl (lv_room (Nat.le_of_ble_eq_true rfl)) dX2_jumps_5 ⟨Nat.zero_le _, Nat.zero_le _⟩) ?_
  have hob := sp_os_b hAS x
  have hpn := sp_AS_p hAS (Nat.le_refl n)
  refine jn_iconst hx hb dX2_jumps_8 ?_
  refine jn_icmp_le hx hb dX2_jumps_9 (tgt := 16) rfl (by unfold ji_r; omega) (by unfold ji_r; omega) (fun hc1 => ?_) (fun hc1 => ?_)
  · skip
    refine jn_iconst hx hb dX2_jumps_16 ?_
    exact hend _ _ _ dX2_jumps_17 (congrArg ji_n (by have := sp_ju_or (sp_os n K A B z x); omega))
  · skip
    refine jn_iconst hx hb dX2_jumps_12 ?_
    refine lv_goto hx hb dX2_jumps_13 (tgt := 17) rfl ?_
    exact hend _ _ _ dX2_jumps_17 (congrArg ji_n (by have := sp_ju_or (sp_os n K A B z x); omega))

set_option maxHeartbeats 4000000 in
set_option maxRecDepth 100000 in
theorem cd_trace (l : Launch) (dC : Nat → ClassId) (dI : Nat → Nat → Nat) (cI : ClassId) (u v w : Nat → Nat) (nP : Nat) (f0 f1 f2 : Nat → Int32) (n : Nat) (g0 g1 g2 st fm vl : Nat → Int32) (K A B z : Nat → Int) (hF : as_F n K A B g0 g1 g2) (hAS : sp_AS n K A B z) (hS : as_S n K A z st fm vl) (x y : Int) (bits : Int32) (r1 : ji_r x) (r2 : ji_r y) : Met l yX2_trace wsX2_trace { frames := 5, cells := 0, slots := 0, locals := 113 } (va_Pc [.ref (u 0), .int (ji_n x), .int bits, .int (ji_n y)] (fun U => va_P (dC, dI) vwCl (wo_D u v w cI nP f0 f1 f2 n g0 g1 g2 st fm vl) U.heap ∧ kn_K dC dI cI U)) (vp_Si (fun r => r = ji_n (sp_tc n K A B z x bits y))) 0 0 (fun _ => False) := by
  refine st_rd (cc := cX2_trace) (maxL := 8) (ret := some .int) (ty := .int) (by decide) rfl rfl (Nat.le_of_ble_eq_true rfl) (lv := [(0, .ref (u 0)), (1, .int (ji_n x)), (2, .int bits), (3, .int (ji_n y))]) rfl (fun v h => rfl) ?_
  intro p e s m args below meth c R Q ls hx hb hts hown hml hR hB hl hend
  obtain ⟨hP, hN⟩ := hB
  have hK := hN.1
  have hinX2 : ∀ w ∈ u_ws RX2 TX2 2, w ∈ wsX2_trace := fun w h => List.mem_cons_of_mem _ (inX2 w h)
  have hfl19 := (hts _ (List.mem_cons_of_mem _ tm_75))
  have hS0 := hS
  have hn := hAS.1
  have hg := hAS.2.1
  have ho := hAS.2.2.1
  obtain ⟨hst, hfm, hvl⟩ := hS
  refine lv_iload_n hx hb dX2_trace_0 rfl (lv_at hl 3 rfl) ?_
  refine jn_if_lt hx hb dX2_trace_1 (tgt := 10) rfl r2 (fun hc1 => ?_) (fun hc1 => ?_)
  · skip
    refine jn_iconst hx hb dX2_trace_10 ?_
    exact hend _ _ _ dX2_trace_11 (congrArg ji_n (by unfold sp_tc; rw [if_neg (by omega)]))
  · skip
    refine lv_iload_n hx hb dX2_trace_4 rfl (lv_at hl 3 rfl) ?_
    refine jn_bipush hx hb dX2_trace_5 (by decide) ?_
    refine jn_icmp_le hx hb dX2_trace_7 (tgt := 12) rfl r2 (by unfold ji_r; omega) (fun hc2 => ?_) (fun hc2 => ?_)
    · skip
      obtain ⟨q, rfl⟩ : ∃ q : Nat, y = (q : Int) := ⟨y.toNat, by omega⟩
      refine lv_iload_n hx hb dX2_trace_12 rfl (lv_at hl 1 rfl) ?_
      refine lv_istore (lv' := [(4, .int (ji_n x)), (0, .ref (u 0)), (1, .int (ji_n x)), (2, .int bits), (3, .int (ji_n (q : Int)))]) hx hb dX2_trace_13 hl (by decide) rfl (fun ls hl => ?_)
      refine jn_iconst hx hb dX2_trace_15 ?_
      refine lv_istore (lv' := [(5, .int (ji_n 0)), (4, .int (ji_n x)), (0, .ref (u 0)), (1, .int (ji_n x)), (2, .int bits), (3, .int (ji_n (q : Int)))]) hx hb dX2_trace_16 hl (by decide) rfl (fun ls hl => ?_)
      have loop3 : ∀ i : Nat, i ≤ q → ∀ (h : Int) (ls : Array Slot), lv_has ls 8 [(5, .int (ji_n (i : Int))), (4, .int (ji_n h)), (0, .ref (u 0)), (1, .int (ji_n x)), (2, .int bits), (3, .int (ji_n (q : Int)))] → (ji_r h ∧ sp_tr n K A B z (fun k => sp_bt bits (k % 32)) (q - i) i h = sp_tr n K A B z (fun k => sp_bt bits (k % 32)) q 0 x) → W p l e R s m args below meth c s.heap [] 0 0 Q (F0 m 18 ls []) := by
        refine lp_up q ?_
        intro i hi_i ih4 h ls hl hq
        refine lv_iload hx hb dX2_trace_18 (lv_at hl 0 rfl) ?_
        refine lv_iload_n hx hb dX2_trace_20 rfl (lv_at hl 5 rfl) ?_
        refine jn_icmp_ge hx hb dX2_trace_21 (tgt := 107) rfl (by unfold ji_r; omega) (by unfold ji_r; omega) (fun hc5 => ?_) (fun hc5 => ?_)
        · skip
          refine lv_iload hx hb dX2_trace_107 (lv_at hl 1 rfl) ?_
          exact hend _ _ _ dX2_trace_109 (congrArg ji_n (by unfold sp_tc; rw [if_pos (by omega), show ((q : Int)).toNat = q from rfl, ← hq.2]; rw [show q - i = 0 from by omega]; rfl))
        · skip
          refine lv_aload_n hx hb dX2_trace_24 rfl (lv_at hl 2 rfl) ?_
          refine va_get (ci := 2) (C := RX2) (T := TX2) (N := 2) hx hb hts hinX2 hown hK hP 0 rfl rfl 1 (by decide) hfl19 (fun _ h9 => h9) rfl dX2_trace_25 ?_
          refine lv_iload hx hb dX2_trace_28 (lv_at hl 1 rfl) ?_
          refine cl_rd (va_runV (As := [.int (ji_n h)]) (rest := []) ⟨hx, hb, hml, hown, hts⟩ (ct_opSize l dC dI cI w n g0 g1 g2 st fm vl K A B z hF hAS hS0 h hq.1) (cwV 1 hts (ub_V tm_180 tm_181 tm_182 tm_3 tm_183) rfl rfl rfl (by decide +kernel) (by rw [hR]; exact ⟨Nat.le_of_ble_eq_true rfl, Nat.le_of_ble_eq_true rfl⟩)) (pv_rd (q0 := 0) (ci := 0) hN (hP.sub [5, 6, 7, 8, 9, 10, 11, 12] rfl) rfl rfl) rfl rfl hl.1 rfl (lv_room (Nat.le_of_ble_eq_true rfl)) dX2_trace_30 ⟨Nat.zero_le _, Nat.zero_le _⟩) ?_
          have hob := sp_os_b hAS h
          have hpn := sp_AS_p hAS (Nat.le_refl n)
          refine lv_istore (lv' := [(6, .int (ji_n (sp_os n K A B z h))), (5, .int (ji_n (i : Int))), (4, .int (ji_n h)), (0, .ref (u 0)), (1, .int (ji_n x)), (2, .int bits), (3, .int (ji_n (q : Int)))]) hx hb dX2_trace_33 hl (by decide) rfl (fun ls hl => ?_)
          refine lv_iload hx hb dX2_trace_35 (lv_at hl 0 rfl) ?_
          refine jn_if_ne hx hb dX2_trace_37 (tgt := 43) rfl (by unfold ji_r; omega) (fun hc6 => ?_) (fun hc6 => ?_)
          · skip
            refine lv_iload_n hx hb dX2_trace_43 rfl (lv_at hl 5 rfl) ?_
            refine lv_iload hx hb dX2_trace_44 (lv_at hl 1 rfl) ?_
            refine jn_bipush hx hb dX2_trace_46 (by decide) ?_
            refine jn_rem32 (x := i) hx hb dX2_trace_48 (by omega) ?_
            refine jn_iushr (j := i % 32) hx hb dX2_trace_49 ?_
            refine jn_iconst hx hb dX2_trace_50 ?_
            refine jn_ubit (x := bits) (j := i % 32) hx hb (by omega) dX2_trace_51 ?_
            have hbt := sp_bt_or bits (i % 32)
            refine jn_iconst hx hb dX2_trace_52 ?_
            refine jn_icmp_eq hx hb dX2_trace_53 (tgt := 68) rfl (by unfold ji_r; omega) (by unfold ji_r; omega) (fun hc7 => ?_) (fun hc7 => ?_)
            · skip
              refine jn_iconst hx hb dX2_trace_68 ?_
              refine lv_goto hx hb dX2_trace_69 (tgt := 73) rfl ?_
              have hab := sp_ai_b n K A B z h
              have hfl := sp_fl_or (sp_bt bits (i % 32)) (sp_ai n K A B z h)
              refine jn_top (v := sp_fl (sp_bt bits (i % 32)) (sp_ai n K A B z h)) (congrArg ji_n (by omega)) ?_
              refine lv_istore (lv' := [(7, .int (ji_n (sp_fl (sp_bt bits (i % 32)) (sp_ai n K A B z h)))), (6, .int (ji_n (sp_os n K A B z h))), (5, .int (ji_n (i : Int))), (4, .int (ji_n h)), (0, .ref (u 0)), (1, .int (ji_n x)), (2, .int bits), (3, .int (ji_n (q : Int)))]) hx hb dX2_trace_73 hl (by decide) rfl (fun ls hl => ?_)
              refine lv_iload hx hb dX2_trace_75 (lv_at hl 0 rfl) ?_
              refine jn_if_eq hx hb dX2_trace_77 (tgt := 94) rfl (by unfold ji_r; omega) (fun hc8 => ?_) (fun hc8 => ?_)
              · skip
                refine lv_iload hx hb dX2_trace_94 (lv_at hl 3 rfl) ?_
                refine lv_iload hx hb dX2_trace_96 (lv_at hl 1 rfl) ?_
                refine jn_iadd hx hb dX2_trace_98 (v := h + (sp_os n K A B z h)) rfl ?_
                have hnx := sp_nx_or n K A B z h (sp_fl (sp_bt bits (i % 32)) (sp_ai n K A B z h))
                have hnr := sp_nx_r hAS (k := h) (by omega) (sp_fl (sp_bt bits (i % 32)) (sp_ai n K A B z h))
                refine jn_top (v := sp_nx n K A B z h (sp_fl (sp_bt bits (i % 32)) (sp_ai n K A B z h))) (congrArg ji_n (by omega)) ?_
                refine lv_istore (lv' := [(4, .int (ji_n (sp_nx n K A B z h (sp_fl (sp_bt bits (i % 32)) (sp_ai n K A B z h))))), (7, .int (ji_n (sp_fl (sp_bt bits (i % 32)) (sp_ai n K A B z h)))), (6, .int (ji_n (sp_os n K A B z h))), (5, .int (ji_n (i : Int))), (0, .ref (u 0)), (1, .int (ji_n x)), (2, .int bits), (3, .int (ji_n (q : Int)))]) hx hb dX2_trace_99 hl (by decide) rfl (fun ls hl => ?_)
                refine jn_iinc (lv' := [(5, .int (ji_n ((i : Int) + 1))), (4, .int (ji_n (sp_nx n K A B z h (sp_fl (sp_bt bits (i % 32)) (sp_ai n K A B z h))))), (7, .int (ji_n (sp_fl (sp_bt bits (i % 32)) (sp_ai n K A B z h)))), (6, .int (ji_n (sp_os n K A B z h))), (0, .ref (u 0)), (1, .int (ji_n x)), (2, .int bits), (3, .int (ji_n (q : Int)))]) (k := 3) (v := (i : Int) + 1) hx hb dX2_trace_101 hl rfl rfl (by decide) rfl (fun ls hl => ?_)
                refine lv_goto hx hb dX2_trace_104 (tgt := 18) rfl ?_
                have hl : lv_has ls 8 [(5, .int (ji_n ((i + 1 : Nat) : Int))), (4, .int (ji_n (sp_nx n K A B z h (sp_fl (sp_bt bits (i % 32)) (sp_ai n K A B z h))))), (0, .ref (u 0)), (1, .int (ji_n x)), (2, .int bits), (3, .int (ji_n (q : Int)))] := by
                  have hl2 := lv_sub hl (l' := [(5, .int (ji_n ((i : Int) + 1))), (4, .int (ji_n (sp_nx n K A B z h (sp_fl (sp_bt bits (i % 32)) (sp_ai n K A B z h))))), (0, .ref (u 0)), (1, .int (ji_n x)), (2, .int bits), (3, .int (ji_n (q : Int)))]) [0, 1, 4, 5, 6, 7] rfl
                  rw [show (ji_n ((i : Int) + 1)) = (ji_n ((i + 1 : Nat) : Int)) from (congrArg ji_n (by omega))] at hl2
                  exact hl2
                exact ih4 (by omega) (sp_nx n K A B z h (sp_fl (sp_bt bits (i % 32)) (sp_ai n K A B z h))) ls hl ⟨by unfold ji_r; omega, by rw [← hq.2, show q - i = (q - (i + 1)) + 1 from by omega, sp_tr_n (by omega)]⟩
              · skip
                refine lv_aload_n hx hb dX2_trace_80 rfl (lv_at hl 4 rfl) ?_
                refine va_get (ci := 2) (C := RX2) (T := TX2) (N := 2) hx hb hts hinX2 hown hK hP 0 rfl rfl 1 (by decide) hfl19 (fun _ h9 => h9) rfl dX2_trace_81 ?_
                refine lv_iload hx hb dX2_trace_84 (lv_at hl 3 rfl) ?_
                refine lv_iload hx hb dX2_trace_86 (lv_at hl 1 rfl) ?_
                refine cl_rd (va_runV (As := [.int (ji_n h), .int (ji_n (sp_os n K A B z h))]) (rest := []) ⟨hx, hb, hml, hown, hts⟩ (ct_target l dC dI cI w n g0 g1 g2 st fm vl K A B z hF hAS hS0 h (sp_os n K A B z h) rfl (by omega)) (cwV 2 hts (ub_V tm_198 tm_199 tm_200 tm_3 tm_201) rfl rfl rfl (by decide +kernel) (by rw [hR]; exact ⟨Nat.le_of_ble_eq_true rfl, Nat.le_of_ble_eq_true rfl⟩)) (pv_rd (q0 := 0) (ci := 0) hN (hP.sub [5, 6, 7, 8, 9, 10, 11, 12] rfl) rfl rfl) rfl rfl hl.1 rfl (lv_room (Nat.le_of_ble_eq_true rfl)) dX2_trace_88 ⟨Nat.zero_le _, Nat.zero_le _⟩) ?_
                refine lv_goto hx hb dX2_trace_91 (tgt := 99) rfl ?_
                have hnx := sp_nx_or n K A B z h (sp_fl (sp_bt bits (i % 32)) (sp_ai n K A B z h))
                have hnr := sp_nx_r hAS (k := h) (by omega) (sp_fl (sp_bt bits (i % 32)) (sp_ai n K A B z h))
                refine jn_top (v := sp_nx n K A B z h (sp_fl (sp_bt bits (i % 32)) (sp_ai n K A B z h))) (congrArg ji_n (by omega)) ?_
                refine lv_istore (lv' := [(4, .int (ji_n (sp_nx n K A B z h (sp_fl (sp_bt bits (i % 32)) (sp_ai n K A B z h))))), (7, .int (ji_n (sp_fl (sp_bt bits (i % 32)) (sp_ai n K A B z h)))), (6, .int (ji_n (sp_os n K A B z h))), (5, .int (ji_n (i : Int))), (0, .ref (u 0)), (1, .int (ji_n x)), (2, .int bits), (3, .int (ji_n (q : Int)))]) hx hb dX2_trace_99 hl (by decide) rfl (fun ls hl => ?_)
                refine jn_iinc (lv' := [(5, .int (ji_n ((i : Int) + 1))), (4, .int (ji_n (sp_nx n K A B z h (sp_fl (sp_bt bits (i % 32)) (sp_ai n K A B z h))))), (7, .int (ji_n (sp_fl (sp_bt bits (i % 32)) (sp_ai n K A B z h)))), (6, .int (ji_n (sp_os n K A B z h))), (0, .ref (u 0)), (1, .int (ji_n x)), (2, .int bits), (3, .int (ji_n (q : Int)))]) (k := 3) (v := (i : Int) + 1) hx hb dX2_trace_101 hl rfl rfl (by decide) rfl (fun ls hl => ?_)
                refine lv_goto hx hb dX2_trace_104 (tgt := 18) rfl ?_
                have hl : lv_has ls 8 [(5, .int (ji_n ((i + 1 : Nat) : Int))), (4, .int (ji_n (sp_nx n K A B z h (sp_fl (sp_bt bits (i % 32)) (sp_ai n K A B z h))))), (0, .ref (u 0)), (1, .int (ji_n x)), (2, .int bits), (3, .int (ji_n (q : Int)))] := by
                  have hl2 := lv_sub hl (l' := [(5, .int (ji_n ((i : Int) + 1))), (4, .int (ji_n (sp_nx n K A B z h (sp_fl (sp_bt bits (i % 32)) (sp_ai n K A B z h))))), (0, .ref (u 0)), (1, .int (ji_n x)), (2, .int bits), (3, .int (ji_n (q : Int)))]) [0, 1, 4, 5, 6, 7] rfl
                  rw [show (ji_n ((i : Int) + 1)) = (ji_n ((i + 1 : Nat) : Int)) from (congrArg ji_n (by omega))] at hl2
                  exact hl2
                exact ih4 (by omega) (sp_nx n K A B z h (sp_fl (sp_bt bits (i % 32)) (sp_ai n K A B z h))) ls hl ⟨by unfold ji_r; omega, by rw [← hq.2, show q - i = (q - (i + 1)) + 1 from by omega, sp_tr_n (by omega)]⟩
            · skip
              refine lv_aload_n hx hb dX2_trace_56 rfl (lv_at hl 3 rfl) ?_
              refine va_get (ci := 2) (C := RX2) (T := TX2) (N := 2) hx hb hts hinX2 hown hK hP 0 rfl rfl 1 (by decide) hfl19 (fun _ h9 => h9) rfl dX2_trace_57 ?_
              refine lv_iload hx hb dX2_trace_60 (lv_at hl 2 rfl) ?_
              refine cl_rd (va_runV (As := [.int (ji_n h)]) (rest := []) ⟨hx, hb, hml, hown, hts⟩ (ct_always l dC dI cI w n g0 g1 g2 st fm vl K A B z hF hAS hS0 h hq.1) (cwV 1 hts (ub_V tm_194 tm_195 tm_196 tm_3 tm_197) rfl rfl rfl (by decide +kernel) (by rw [hR]; exact ⟨Nat.le_of_ble_eq_true rfl, Nat.le_of_ble_eq_true rfl⟩)) (pv_rd (q0 := 0) (ci := 0) hN (hP.sub [5, 6, 7, 8, 9, 10, 11, 12] rfl) rfl rfl) rfl rfl hl.1 rfl (lv_room (Nat.le_of_ble_eq_true rfl)) dX2_trace_62 ⟨Nat.zero_le _, Nat.zero_le _⟩) ?_
              have hab := sp_ai_b n K A B z h
              refine jn_if_eq hx hb dX2_trace_65 (tgt := 72) rfl (by unfold ji_r; omega) (fun hc9 => ?_) (fun hc9 => ?_)
              · skip
                refine jn_iconst hx hb dX2_trace_72 ?_
                have hab := sp_ai_b n K A B z h
                have hfl := sp_fl_or (sp_bt bits (i % 32)) (sp_ai n K A B z h)
                refine jn_top (v := sp_fl (sp_bt bits (i % 32)) (sp_ai n K A B z h)) (congrArg ji_n (by omega)) ?_
                refine lv_istore (lv' := [(7, .int (ji_n (sp_fl (sp_bt bits (i % 32)) (sp_ai n K A B z h)))), (6, .int (ji_n (sp_os n K A B z h))), (5, .int (ji_n (i : Int))), (4, .int (ji_n h)), (0, .ref (u 0)), (1, .int (ji_n x)), (2, .int bits), (3, .int (ji_n (q : Int)))]) hx hb dX2_trace_73 hl (by decide) rfl (fun ls hl => ?_)
                refine lv_iload hx hb dX2_trace_75 (lv_at hl 0 rfl) ?_
                refine jn_if_eq hx hb dX2_trace_77 (tgt := 94) rfl (by unfold ji_r; omega) (fun hc10 => ?_) (fun hc10 => ?_)
                · skip
                  refine lv_iload hx hb dX2_trace_94 (lv_at hl 3 rfl) ?_
                  refine lv_iload hx hb dX2_trace_96 (lv_at hl 1 rfl) ?_
                  refine jn_iadd hx hb dX2_trace_98 (v := h + (sp_os n K A B z h)) rfl ?_
                  have hnx := sp_nx_or n K A B z h (sp_fl (sp_bt bits (i % 32)) (sp_ai n K A B z h))
                  have hnr := sp_nx_r hAS (k := h) (by omega) (sp_fl (sp_bt bits (i % 32)) (sp_ai n K A B z h))
                  refine jn_top (v := sp_nx n K A B z h (sp_fl (sp_bt bits (i % 32)) (sp_ai n K A B z h))) (congrArg ji_n (by omega)) ?_
                  refine lv_istore (lv' := [(4, .int (ji_n (sp_nx n K A B z h (sp_fl (sp_bt bits (i % 32)) (sp_ai n K A B z h))))), (7, .int (ji_n (sp_fl (sp_bt bits (i % 32)) (sp_ai n K A B z h)))), (6, .int (ji_n (sp_os n K A B z h))), (5, .int (ji_n (i : Int))), (0, .ref (u 0)), (1, .int (ji_n x)), (2, .int bits), (3, .int (ji_n (q : Int)))]) hx hb dX2_trace_99 hl (by decide) rfl (fun ls hl => ?_)
                  refine jn_iinc (lv' := [(5, .int (ji_n ((i : Int) + 1))), (4, .int (ji_n (sp_nx n K A B z h (sp_fl (sp_bt bits (i % 32)) (sp_ai n K A B z h))))), (7, .int (ji_n (sp_fl (sp_bt bits (i % 32)) (sp_ai n K A B z h)))), (6, .int (ji_n (sp_os n K A B z h))), (0, .ref (u 0)), (1, .int (ji_n x)), (2, .int bits), (3, .int (ji_n (q : Int)))]) (k := 3) (v := (i : Int) + 1) hx hb dX2_trace_101 hl rfl rfl (by decide) rfl (fun ls hl => ?_)
                  refine lv_goto hx hb dX2_trace_104 (tgt := 18) rfl ?_
                  have hl : lv_has ls 8 [(5, .int (ji_n ((i + 1 : Nat) : Int))), (4, .int (ji_n (sp_nx n K A B z h (sp_fl (sp_bt bits (i % 32)) (sp_ai n K A B z h))))), (0, .ref (u 0)), (1, .int (ji_n x)), (2, .int bits), (3, .int (ji_n (q : Int)))] := by
                    have hl2 := lv_sub hl (l' := [(5, .int (ji_n ((i : Int) + 1))), (4, .int (ji_n (sp_nx n K A B z h (sp_fl (sp_bt bits (i % 32)) (sp_ai n K A B z h))))), (0, .ref (u 0)), (1, .int (ji_n x)), (2, .int bits), (3, .int (ji_n (q : Int)))]) [0, 1, 4, 5, 6, 7] rfl
                    rw [show (ji_n ((i : Int) + 1)) = (ji_n ((i + 1 : Nat) : Int)) from (congrArg ji_n (by omega))] at hl2
                    exact hl2
                  exact ih4 (by omega) (sp_nx n K A B z h (sp_fl (sp_bt bits (i % 32)) (sp_ai n K A B z h))) ls hl ⟨by unfold ji_r; omega, by rw [← hq.2, show q - i = (q - (i + 1)) + 1 from by omega, sp_tr_n (by omega)]⟩
                · skip
                  refine lv_aload_n hx hb dX2_trace_80 rfl (lv_at hl 4 rfl) ?_
                  refine va_get (ci := 2) (C := RX2) (T := TX2) (N := 2) hx hb hts hinX2 hown hK hP 0 rfl rfl 1 (by decide) hfl19 (fun _ h9 => h9) rfl dX2_trace_81 ?_
                  refine lv_iload hx hb dX2_trace_84 (lv_at hl 3 rfl) ?_
                  refine lv_iload hx hb dX2_trace_86 (lv_at hl 1 rfl) ?_
                  refine cl_rd (va_runV (As := [.int (ji_n h), .int (ji_n (sp_os n K A B z h))]) (rest := []) ⟨hx, hb, hml, hown, hts⟩ (ct_target l dC dI cI w n g0 g1 g2 st fm vl K A B z hF hAS hS0 h (sp_os n K A B z h) rfl (by omega)) (cwV 2 hts (ub_V tm_198 tm_199 tm_200 tm_3 tm_201) rfl rfl rfl (by decide +kernel) (by rw [hR]; exact ⟨Nat.le_of_ble_eq_true rfl, Nat.le_of_ble_eq_true rfl⟩)) (pv_rd (q0 := 0) (ci := 0) hN (hP.sub [5, 6, 7, 8, 9, 10, 11, 12] rfl) rfl rfl) rfl rfl hl.1 rfl (lv_room (Nat.le_of_ble_eq_true rfl)) dX2_trace_88 ⟨Nat.zero_le _, Nat.zero_le _⟩) ?_
                  refine lv_goto hx hb dX2_trace_91 (tgt := 99) rfl ?_
                  have hnx := sp_nx_or n K A B z h (sp_fl (sp_bt bits (i % 32)) (sp_ai n K A B z h))
                  have hnr := sp_nx_r hAS (k := h) (by omega) (sp_fl (sp_bt bits (i % 32)) (sp_ai n K A B z h))
                  refine jn_top (v := sp_nx n K A B z h (sp_fl (sp_bt bits (i % 32)) (sp_ai n K A B z h))) (congrArg ji_n (by omega)) ?_
                  refine lv_istore (lv' := [(4, .int (ji_n (sp_nx n K A B z h (sp_fl (sp_bt bits (i % 32)) (sp_ai n K A B z h))))), (7, .int (ji_n (sp_fl (sp_bt bits (i % 32)) (sp_ai n K A B z h)))), (6, .int (ji_n (sp_os n K A B z h))), (5, .int (ji_n (i : Int))), (0, .ref (u 0)), (1, .int (ji_n x)), (2, .int bits), (3, .int (ji_n (q : Int)))]) hx hb dX2_trace_99 hl (by decide) rfl (fun ls hl => ?_)
                  refine jn_iinc (lv' := [(5, .int (ji_n ((i : Int) + 1))), (4, .int (ji_n (sp_nx n K A B z h (sp_fl (sp_bt bits (i % 32)) (sp_ai n K A B z h))))), (7, .int (ji_n (sp_fl (sp_bt bits (i % 32)) (sp_ai n K A B z h)))), (6, .int (ji_n (sp_os n K A B z h))), (0, .ref (u 0)), (1, .int (ji_n x)), (2, .int bits), (3, .int (ji_n (q : Int)))]) (k := 3) (v := (i : Int) + 1) hx hb dX2_trace_101 hl rfl rfl (by decide) rfl (fun ls hl => ?_)
                  refine lv_goto hx hb dX2_trace_104 (tgt := 18) rfl ?_
                  have hl : lv_has ls 8 [(5, .int (ji_n ((i + 1 : Nat) : Int))), (4, .int (ji_n (sp_nx n K A B z h (sp_fl (sp_bt bits (i % 32)) (sp_ai n K A B z h))))), (0, .ref (u 0)), (1, .int (ji_n x)), (2, .int bits), (3, .int (ji_n (q : Int)))] := by
                    have hl2 := lv_sub hl (l' := [(5, .int (ji_n ((i : Int) + 1))), (4, .int (ji_n (sp_nx n K A B z h (sp_fl (sp_bt bits (i % 32)) (sp_ai n K A B z h))))), (0, .ref (u 0)), (1, .int (ji_n x)), (2, .int bits), (3, .int (ji_n (q : Int)))]) [0, 1, 4, 5, 6, 7] rfl
                    rw [show (ji_n ((i : Int) + 1)) = (ji_n ((i + 1 : Nat) : Int)) from (congrArg ji_n (by omega))] at hl2
                    exact hl2
                  exact ih4 (by omega) (sp_nx n K A B z h (sp_fl (sp_bt bits (i % 32)) (sp_ai n K A B z h))) ls hl ⟨by unfold ji_r; omega, by rw [← hq.2, show q - i = (q - (i + 1)) + 1 from by omega, sp_tr_n (by omega)]⟩
              · skip
                refine jn_iconst hx hb dX2_trace_68 ?_
                refine lv_goto hx hb dX2_trace_69 (tgt := 73) rfl ?_
                have hab := sp_ai_b n K A B z h
                have hfl := sp_fl_or (sp_bt bits (i % 32)) (sp_ai n K A B z h)
                refine jn_top (v := sp_fl (sp_bt bits (i % 32)) (sp_ai n K A B z h)) (congrArg ji_n (by omega)) ?_
                refine lv_istore (lv' := [(7, .int (ji_n (sp_fl (sp_bt bits (i % 32)) (sp_ai n K A B z h)))), (6, .int (ji_n (sp_os n K A B z h))), (5, .int (ji_n (i : Int))), (4, .int (ji_n h)), (0, .ref (u 0)), (1, .int (ji_n x)), (2, .int bits), (3, .int (ji_n (q : Int)))]) hx hb dX2_trace_73 hl (by decide) rfl (fun ls hl => ?_)
                refine lv_iload hx hb dX2_trace_75 (lv_at hl 0 rfl) ?_
                refine jn_if_eq hx hb dX2_trace_77 (tgt := 94) rfl (by unfold ji_r; omega) (fun hc11 => ?_) (fun hc11 => ?_)
                · skip
                  refine lv_iload hx hb dX2_trace_94 (lv_at hl 3 rfl) ?_
                  refine lv_iload hx hb dX2_trace_96 (lv_at hl 1 rfl) ?_
                  refine jn_iadd hx hb dX2_trace_98 (v := h + (sp_os n K A B z h)) rfl ?_
                  have hnx := sp_nx_or n K A B z h (sp_fl (sp_bt bits (i % 32)) (sp_ai n K A B z h))
                  have hnr := sp_nx_r hAS (k := h) (by omega) (sp_fl (sp_bt bits (i % 32)) (sp_ai n K A B z h))
                  refine jn_top (v := sp_nx n K A B z h (sp_fl (sp_bt bits (i % 32)) (sp_ai n K A B z h))) (congrArg ji_n (by omega)) ?_
                  refine lv_istore (lv' := [(4, .int (ji_n (sp_nx n K A B z h (sp_fl (sp_bt bits (i % 32)) (sp_ai n K A B z h))))), (7, .int (ji_n (sp_fl (sp_bt bits (i % 32)) (sp_ai n K A B z h)))), (6, .int (ji_n (sp_os n K A B z h))), (5, .int (ji_n (i : Int))), (0, .ref (u 0)), (1, .int (ji_n x)), (2, .int bits), (3, .int (ji_n (q : Int)))]) hx hb dX2_trace_99 hl (by decide) rfl (fun ls hl => ?_)
                  refine jn_iinc (lv' := [(5, .int (ji_n ((i : Int) + 1))), (4, .int (ji_n (sp_nx n K A B z h (sp_fl (sp_bt bits (i % 32)) (sp_ai n K A B z h))))), (7, .int (ji_n (sp_fl (sp_bt bits (i % 32)) (sp_ai n K A B z h)))), (6, .int (ji_n (sp_os n K A B z h))), (0, .ref (u 0)), (1, .int (ji_n x)), (2, .int bits), (3, .int (ji_n (q : Int)))]) (k := 3) (v := (i : Int) + 1) hx hb dX2_trace_101 hl rfl rfl (by decide) rfl (fun ls hl => ?_)
                  refine lv_goto hx hb dX2_trace_104 (tgt := 18) rfl ?_
                  have hl : lv_has ls 8 [(5, .int (ji_n ((i + 1 : Nat) : Int))), (4, .int (ji_n (sp_nx n K A B z h (sp_fl (sp_bt bits (i % 32)) (sp_ai n K A B z h))))), (0, .ref (u 0)), (1, .int (ji_n x)), (2, .int bits), (3, .int (ji_n (q : Int)))] := by
                    have hl2 := lv_sub hl (l' := [(5, .int (ji_n ((i : Int) + 1))), (4, .int (ji_n (sp_nx n K A B z h (sp_fl (sp_bt bits (i % 32)) (sp_ai n K A B z h))))), (0, .ref (u 0)), (1, .int (ji_n x)), (2, .int bits), (3, .int (ji_n (q : Int)))]) [0, 1, 4, 5, 6, 7] rfl
                    rw [show (ji_n ((i : Int) + 1)) = (ji_n ((i + 1 : Nat) : Int)) from (congrArg ji_n (by omega))] at hl2
                    exact hl2
                  exact ih4 (by omega) (sp_nx n K A B z h (sp_fl (sp_bt bits (i % 32)) (sp_ai n K A B z h))) ls hl ⟨by unfold ji_r; omega, by rw [← hq.2, show q - i = (q - (i + 1)) + 1 from by omega, sp_tr_n (by omega)]⟩
                · skip
                  refine lv_aload_n hx hb dX2_trace_80 rfl (lv_at hl 4 rfl) ?_
                  refine va_get (ci := 2) (C := RX2) (T := TX2) (N := 2) hx hb hts hinX2 hown hK hP 0 rfl rfl 1 (by decide) hfl19 (fun _ h9 => h9) rfl dX2_trace_81 ?_
                  refine lv_iload hx hb dX2_trace_84 (lv_at hl 3 rfl) ?_
                  refine lv_iload hx hb dX2_trace_86 (lv_at hl 1 rfl) ?_
                  refine cl_rd (va_runV (As := [.int (ji_n h), .int (ji_n (sp_os n K A B z h))]) (rest := []) ⟨hx, hb, hml, hown, hts⟩ (ct_target l dC dI cI w n g0 g1 g2 st fm vl K A B z hF hAS hS0 h (sp_os n K A B z h) rfl (by omega)) (cwV 2 hts (ub_V tm_198 tm_199 tm_200 tm_3 tm_201) rfl rfl rfl (by decide +kernel) (by rw [hR]; exact ⟨Nat.le_of_ble_eq_true rfl, Nat.le_of_ble_eq_true rfl⟩)) (pv_rd (q0 := 0) (ci := 0) hN (hP.sub [5, 6, 7, 8, 9, 10, 11, 12] rfl) rfl rfl) rfl rfl hl.1 rfl (lv_room (Nat.le_of_ble_eq_true rfl)) dX2_trace_88 ⟨Nat.zero_le _, Nat.zero_le _⟩) ?_
                  refine lv_goto hx hb dX2_trace_91 (tgt := 99) rfl ?_
                  have hnx := sp_nx_or n K A B z h (sp_fl (sp_bt bits (i % 32)) (sp_ai n K A B z h))
                  have hnr := sp_nx_r hAS (k := h) (by omega) (sp_fl (sp_bt bits (i % 32)) (sp_ai n K A B z h))
                  refine jn_top (v := sp_nx n K A B z h (sp_fl (sp_bt bits (i % 32)) (sp_ai n K A B z h))) (congrArg ji_n (by omega)) ?_
                  refine lv_istore (lv' := [(4, .int (ji_n (sp_nx n K A B z h (sp_fl (sp_bt bits (i % 32)) (sp_ai n K A B z h))))), (7, .int (ji_n (sp_fl (sp_bt bits (i % 32)) (sp_ai n K A B z h)))), (6, .int (ji_n (sp_os n K A B z h))), (5, .int (ji_n (i : Int))), (0, .ref (u 0)), (1, .int (ji_n x)), (2, .int bits), (3, .int (ji_n (q : Int)))]) hx hb dX2_trace_99 hl (by decide) rfl (fun ls hl => ?_)
                  refine jn_iinc (lv' := [(5, .int (ji_n ((i : Int) + 1))), (4, .int (ji_n (sp_nx n K A B z h (sp_fl (sp_bt bits (i % 32)) (sp_ai n K A B z h))))), (7, .int (ji_n (sp_fl (sp_bt bits (i % 32)) (sp_ai n K A B z h)))), (6, .int (ji_n (sp_os n K A B z h))), (0, .ref (u 0)), (1, .int (ji_n x)), (2, .int bits), (3, .int (ji_n (q : Int)))]) (k := 3) (v := (i : Int) + 1) hx hb dX2_trace_101 hl rfl rfl (by decide) rfl (fun ls hl => ?_)
                  refine lv_goto hx hb dX2_trace_104 (tgt := 18) rfl ?_
                  have hl : lv_has ls 8 [(5, .int (ji_n ((i + 1 : Nat) : Int))), (4, .int (ji_n (sp_nx n K A B z h (sp_fl (sp_bt bits (i % 32)) (sp_ai n K A B z h))))), (0, .ref (u 0)), (1, .int (ji_n x)), (2, .int bits), (3, .int (ji_n (q : Int)))] := by
                    have hl2 := lv_sub hl (l' := [(5, .int (ji_n ((i : Int) + 1))), (4, .int (ji_n (sp_nx n K A B z h (sp_fl (sp_bt bits (i % 32)) (sp_ai n K A B z h))))), (0, .ref (u 0)), (1, .int (ji_n x)), (2, .int bits), (3, .int (ji_n (q : Int)))]) [0, 1, 4, 5, 6, 7] rfl
                    rw [show (ji_n ((i : Int) + 1)) = (ji_n ((i + 1 : Nat) : Int)) from (congrArg ji_n (by omega))] at hl2
                    exact hl2
                  exact ih4 (by omega) (sp_nx n K A B z h (sp_fl (sp_bt bits (i % 32)) (sp_ai n K A B z h))) ls hl ⟨by unfold ji_r; omega, by rw [← hq.2, show q - i = (q - (i + 1)) + 1 from by omega, sp_tr_n (by omega)]⟩
          · skip
            refine lv_iload hx hb dX2_trace_40 (lv_at hl 2 rfl) ?_
            exact hend _ _ _ dX2_trace_42 (congrArg ji_n (by unfold sp_tc; rw [if_pos (by omega), show ((q : Int)).toNat = q from rfl, ← hq.2]; rw [sp_tr_e _ _ _ _ _ _ _ _ _ (by omega)]))
      have hl : lv_has ls 8 [(5, .int (ji_n ((0 : Nat) : Int))), (4, .int (ji_n x)), (0, .ref (u 0)), (1, .int (ji_n x)), (2, .int bits), (3, .int (ji_n (q : Int)))] := lv_sub hl [0, 1, 2, 3, 4, 5] rfl
      exact loop3 0 (by omega) x ls hl ⟨r1, rfl⟩
    · skip
      refine jn_iconst hx hb dX2_trace_10 ?_
      exact hend _ _ _ dX2_trace_11 (congrArg ji_n (by unfold sp_tc; rw [if_neg (by omega)]))
end
section
set_option maxHeartbeats 4000000 in
set_option maxRecDepth 100000 in
theorem cd_insert (l : Launch) (size_ : Nat) (dC : Nat → ClassId) (dI : Nat → Nat → Nat) (cI : ClassId) (u v w : Nat → Nat) (nP : Nat) (f0 f1 f2 : Nat → Int32) (n : Nat) (g0 g1 g2 st fm vl : Nat → Int32) (K A B : Nat → Int) (hn : nP ≤ 50) (hF : as_F nP K A B f0 f1 f2) (y k a b : Int) (r1 : ji_r y) (r2 : ji_r k) (r3 : ji_r a) (r4 : ji_r b) : Met l yX2_insert wsX2_insert { frames := 3, cells := 0, slots := 0, locals := 65 } (va_Pc [.ref (u 0), .int (ji_n y), .int (ji_n k), .int (ji_n a), .int (ji_n b)] (wr_B (dC, dI) vwCl (wo_D u v w cI nP f0 f1 f2 n g0 g1 g2 st fm vl) size_ (kn_K dC dI cI))) (wr_Qi (fun r H => (r = ji_n 1 ∧ sp_gd k a b ∧ nP < 50 ∧ ∃ i : Nat, y = (i : Int) ∧ i ≤ nP ∧ ∃ q0 q1 q2 : Nat → Int32, va_P (dC, dI) vwCl (wo_D u v w cI (nP + 1) q0 q1 q2 n g0 g1 g2 st fm vl) H ∧ as_F (nP + 1) (sp_in K i k) (sp_in A i a) (sp_in B i b) q0 q1 q2) ∨ (r = ji_n 0 ∧ ¬ (sp_gd k a b ∧ nP < 50 ∧ 0 ≤ y ∧ y ≤ (nP : Int)) ∧ va_P (dC, dI) vwCl (wo_D u v w cI nP f0 f1 f2 n g0 g1 g2 st fm vl) H)) (va_A (wo_D u v w cI nP f0 f1 f2 n g0 g1 g2 st fm vl) size_)) 0 0 (va_A (wo_D u v w cI nP f0 f1 f2 n g0 g1 g2 st fm vl) size_) := by
  refine st_wi (cc := cX2_insert) (maxL := 5) (ret := some .boolean) (ty := .boolean) (by decide) rfl rfl (Nat.le_of_ble_eq_true rfl) (lv := [(0, .ref (u 0)), (1, .int (ji_n y)), (2, .int (ji_n k)), (3, .int (ji_n a)), (4, .int (ji_n b))]) rfl (fun v H h => by rcases h with ⟨h, -⟩ | ⟨h, -⟩ <;> rw [h] <;> rfl) ?_
  intro p e s m args below meth c R Q ls A9 hx hb hts hown hml hR hP hD hA hS hN hl hend
  have hK := hN.1
  have hinX2 : ∀ w ∈ u_ws RX2 TX2 2, w ∈ wsX2_insert := fun w h => List.mem_cons_of_mem _ (inX2 w h)
  have hfl10 := (hts _ (List.mem_cons_of_mem _ tm_74))
  refine lv_iload_n hx hb dX2_insert_0 rfl (lv_at hl 2 rfl) ?_
  refine lv_iload_n hx hb dX2_insert_1 rfl (lv_at hl 3 rfl) ?_
  refine lv_iload hx hb dX2_insert_2 (lv_at hl 4 rfl) ?_
  refine cl_rd (va_runS (As := [.int (ji_n k), .int (ji_n a), .int (ji_n b)]) (rest := []) ⟨hx, hb, hml, hown, hts⟩ (ct_isLine l k a b r2 r3 r4) (va_cwS 3 hts (ub_S tm_85 tm_86 tm_1 tm_87) rfl rfl rfl (by decide +kernel) (by rw [hR]; exact ⟨Nat.le_of_ble_eq_true rfl, Nat.le_of_ble_eq_true rfl⟩)) ⟨fun _ _ _ _ q => q, fun U _ _ => ⟨rfl, trivial⟩⟩ rfl rfl hl.1 rfl (lv_room (Nat.le_of_ble_eq_true rfl)) dX2_insert_4 ⟨Nat.zero_le _, Nat.zero_le _⟩) ?_
  have hgl := sp_gl_or k a b
  refine jn_if_eq hx hb dX2_insert_7 (tgt := 29) rfl (by unfold ji_r; omega) (fun hc1 => ?_) (fun hc1 => ?_)
  · skip
    refine jn_iconst hx hb dX2_insert_29 ?_
    exact hend _ _ _ _ _ dX2_insert_30 (Or.inr ⟨rfl, by rintro ⟨q, -⟩; rcases hgl with h | h <;> first | omega | exact h.1 q, hP⟩) hS
  · skip
    refine lv_aload_n hx hb dX2_insert_10 rfl (lv_at hl 0 rfl) ?_
    refine va_get (ci := 2) (C := RX2) (T := TX2) (N := 2) hx hb hts hinX2 hown hK hP 0 rfl rfl 0 (by decide) hfl10 (fun _ h9 => h9) rfl dX2_insert_11 ?_
    refine lv_iload_n hx hb dX2_insert_14 rfl (lv_at hl 1 rfl) ?_
    refine lv_iload_n hx hb dX2_insert_15 rfl (lv_at hl 2 rfl) ?_
    refine lv_iload_n hx hb dX2_insert_16 rfl (lv_at hl 3 rfl) ?_
    refine lv_iload hx hb dX2_insert_17 (lv_at hl 4 rfl) ?_
    refine cl_wi (wc := wo_P v cI nP f0 f1 f2) (wr := [0, 5, 6, 7, 8, 9, 10, 11, 12].filterMap (fun i => (wo_D u v w cI nP f0 f1 f2 n g0 g1 g2 st fm vl)[i]?)) [1, 2, 3, 4] [0, 5, 6, 7, 8, 9, 10, 11, 12] rfl rfl (by decide) (by decide) (by decide) hP hD hS hA (va_runV (As := [.int (ji_n y), .int (ji_n k), .int (ji_n a), .int (ji_n b)]) (rest := []) ⟨hx, hb, hml, hown, hts⟩ (ct_open l s.heap.size dC dI cI v nP f0 f1 f2 K A B hn hF y k a b r1 r2 r3 r4) (cwV 4 hts (ub_V tm_94 tm_95 tm_96 tm_2 tm_97) rfl rfl rfl (by decide +kernel) (by rw [hR]; exact ⟨Nat.le_of_ble_eq_true rfl, Nat.le_of_ble_eq_true rfl⟩)) (pv_wr (q0 := 0) (ci := 1) hN (hP.sub [1, 2, 3, 4] rfl) (hD.sub [1, 2, 3, 4] (by decide) rfl) rfl rfl) rfl rfl hl.1 rfl (lv_room (Nat.le_of_ble_eq_true rfl)) dX2_insert_19 ⟨Nat.zero_le _, Nat.zero_le _⟩) (fun r9 H locs hPs hj hS => ?_)
    rcases hPs with ⟨rfl, hlt, i, rfl, hi, q0, q1, q2, hPs, hF2⟩ | ⟨rfl, hno, hPs⟩
    · skip
      obtain ⟨hP, hD⟩ := hj (wo_P v cI (nP + 1) q0 q1 q2) rfl hPs
      have hP := hP.sub (ws' := wo_D u v w cI (nP + 1) q0 q1 q2 n g0 g1 g2 st fm vl) [0, 9, 10, 11, 12, 1, 2, 3, 4, 5, 6, 7, 8] rfl
      have hD := hD.sub (ws' := wo_D u v w cI (nP + 1) q0 q1 q2 n g0 g1 g2 st fm vl) [0, 9, 10, 11, 12, 1, 2, 3, 4, 5, 6, 7, 8] (by decide) rfl
      refine jn_if_eq hx hb dX2_insert_22 (tgt := 29) rfl (by unfold ji_r; omega) (fun hc2 => ?_) (fun hc2 => ?_)
      · skip
        exfalso; omega
      · skip
        refine jn_iconst hx hb dX2_insert_25 ?_
        refine lv_goto hx hb dX2_insert_26 (tgt := 30) rfl ?_
        exact hend _ _ _ _ _ dX2_insert_30 (Or.inl ⟨rfl, by rcases hgl with h | h <;> first | exact h.1 | omega, hlt, i, rfl, hi, _, _, _, hP, hF2⟩) hS
    · skip
      obtain ⟨hP, hD⟩ := hj (wo_P v cI nP f0 f1 f2) rfl hPs
      have hP := hP.sub (ws' := wo_D u v w cI nP f0 f1 f2 n g0 g1 g2 st fm vl) [0, 9, 10, 11, 12, 1, 2, 3, 4, 5, 6, 7, 8] rfl
      have hD := hD.sub (ws' := wo_D u v w cI nP f0 f1 f2 n g0 g1 g2 st fm vl) [0, 9, 10, 11, 12, 1, 2, 3, 4, 5, 6, 7, 8] (by decide) rfl
      refine jn_if_eq hx hb dX2_insert_22 (tgt := 29) rfl (by unfold ji_r; omega) (fun hc3 => ?_) (fun hc3 => ?_)
      · skip
        refine jn_iconst hx hb dX2_insert_29 ?_
        exact hend _ _ _ _ _ dX2_insert_30 (Or.inr ⟨rfl, fun q => hno q.2, hP⟩) hS
      · skip
        exfalso; omega

set_option maxHeartbeats 4000000 in
set_option maxRecDepth 100000 in
theorem cd_remove (l : Launch) (size_ : Nat) (dC : Nat → ClassId) (dI : Nat → Nat → Nat) (cI : ClassId) (u v w : Nat → Nat) (nP : Nat) (f0 f1 f2 : Nat → Int32) (n : Nat) (g0 g1 g2 st fm vl : Nat → Int32) (K A B : Nat → Int) (hn : nP ≤ 50) (hF : as_F nP K A B f0 f1 f2) (y : Int) (r1 : ji_r y) : Met l yX2_remove wsX2_remove { frames := 3, cells := 0, slots := 0, locals := 62 } (va_Pc [.ref (u 0), .int (ji_n y)] (wr_B (dC, dI) vwCl (wo_D u v w cI nP f0 f1 f2 n g0 g1 g2 st fm vl) size_ (kn_K dC dI cI))) (wr_Qi (fun r H => (r = ji_n 1 ∧ ∃ i m : Nat, y = (i : Int) ∧ nP = m + 1 ∧ i < nP ∧ ∃ q0 q1 q2 : Nat → Int32, va_P (dC, dI) vwCl (wo_D u v w cI m q0 q1 q2 n g0 g1 g2 st fm vl) H ∧ as_F m (sp_rm K i) (sp_rm A i) (sp_rm B i) q0 q1 q2) ∨ (r = ji_n 0 ∧ ¬ (0 ≤ y ∧ y < (nP : Int)) ∧ va_P (dC, dI) vwCl (wo_D u v w cI nP f0 f1 f2 n g0 g1 g2 st fm vl) H)) (va_A (wo_D u v w cI nP f0 f1 f2 n g0 g1 g2 st fm vl) size_)) 0 0 (va_A (wo_D u v w cI nP f0 f1 f2 n g0 g1 g2 st fm vl) size_) := by
  refine st_wi (cc := cX2_remove) (maxL := 2) (ret := some .boolean) (ty := .boolean) (by decide) rfl rfl (Nat.le_of_ble_eq_true rfl) (lv := [(0, .ref (u 0)), (1, .int (ji_n y))]) rfl (fun v H h => by rcases h with ⟨h, -⟩ | ⟨h, -⟩ <;> rw [h] <;> rfl) ?_
  intro p e s m args below meth c R Q ls A9 hx hb hts hown hml hR hP hD hA hS hN hl hend
  have hK := hN.1
  have hinX2 : ∀ w ∈ u_ws RX2 TX2 2, w ∈ wsX2_remove := fun w h => List.mem_cons_of_mem _ (inX2 w h)
  have hfl10 := (hts _ (List.mem_cons_of_mem _ tm_74))
  refine lv_aload_n hx hb dX2_remove_0 rfl (lv_at hl 0 rfl) ?_
  refine va_get (ci := 2) (C := RX2) (T := TX2) (N := 2) hx hb hts hinX2 hown hK hP 0 rfl rfl 0 (by decide) hfl10 (fun _ h9 => h9) rfl dX2_remove_1 ?_
  refine lv_iload_n hx hb dX2_remove_4 rfl (lv_at hl 1 rfl) ?_
  refine cl_wi (wc := wo_P v cI nP f0 f1 f2) (wr := [0, 5, 6, 7, 8, 9, 10, 11, 12].filterMap (fun i => (wo_D u v w cI nP f0 f1 f2 n g0 g1 g2 st fm vl)[i]?)) [1, 2, 3, 4] [0, 5, 6, 7, 8, 9, 10, 11, 12] rfl rfl (by decide) (by decide) (by decide) hP hD hS hA (va_runV (As := [.int (ji_n y)]) (rest := []) ⟨hx, hb, hml, hown, hts⟩ (ct_close l s.heap.size dC dI cI v nP f0 f1 f2 K A B hn hF y r1) (cwV 1 hts (ub_V tm_109 tm_110 tm_111 tm_2 tm_112) rfl rfl rfl (by decide +kernel) (by rw [hR]; exact ⟨Nat.le_of_ble_eq_true rfl, Nat.le_of_ble_eq_true rfl⟩)) (pv_wr (q0 := 0) (ci := 1) hN (hP.sub [1, 2, 3, 4] rfl) (hD.sub [1, 2, 3, 4] (by decide) rfl) rfl rfl) rfl rfl hl.1 rfl (lv_room (Nat.le_of_ble_eq_true rfl)) dX2_remove_5 ⟨Nat.zero_le _, Nat.zero_le _⟩) (fun r9 H locs hPs hj hS => ?_)
  rcases hPs with ⟨rfl, i, k, rfl, hk, hi, q0, q1, q2, hPs, hF2⟩ | ⟨rfl, hno, hPs⟩
  · skip
    obtain ⟨hP, hD⟩ := hj (wo_P v cI k q0 q1 q2) rfl hPs
    have hP := hP.sub (ws' := wo_D u v w cI k q0 q1 q2 n g0 g1 g2 st fm vl) [0, 9, 10, 11, 12, 1, 2, 3, 4, 5, 6, 7, 8] rfl
    have hD := hD.sub (ws' := wo_D u v w cI k q0 q1 q2 n g0 g1 g2 st fm vl) [0, 9, 10, 11, 12, 1, 2, 3, 4, 5, 6, 7, 8] (by decide) rfl
    exact hend _ _ _ _ _ dX2_remove_8 (Or.inl ⟨rfl, i, k, rfl, hk, hi, _, _, _, hP, hF2⟩) hS
  · skip
    obtain ⟨hP, hD⟩ := hj (wo_P v cI nP f0 f1 f2) rfl hPs
    have hP := hP.sub (ws' := wo_D u v w cI nP f0 f1 f2 n g0 g1 g2 st fm vl) [0, 9, 10, 11, 12, 1, 2, 3, 4, 5, 6, 7, 8] rfl
    have hD := hD.sub (ws' := wo_D u v w cI nP f0 f1 f2 n g0 g1 g2 st fm vl) [0, 9, 10, 11, 12, 1, 2, 3, 4, 5, 6, 7, 8] (by decide) rfl
    exact hend _ _ _ _ _ dX2_remove_8 (Or.inr ⟨rfl, hno, hP⟩) hS
end
section
set_option maxHeartbeats 4000000 in
set_option maxRecDepth 100000 in
theorem cc_Program (l : Launch) (size_ : Nat) (dC : Nat → ClassId) (dI : Nat → Nat → Nat) (cI : ClassId) (h : Nat) : Met l yX1_init wsX1_init { frames := 1, cells := 3, slots := 150, locals := 12 } (va_Pc [.ref h] (wr_B (dC, dI) vwCl [(h, .inr (1, [.null, .null, .null, .int 0]))] size_ (kn_K dC dI cI))) (va_Qv (S := Unit) (fun _ => True) (fun _ t => (fun (A9 : Nat → Prop) (H : Heap) => ∃ v : Nat → Nat, v 0 = h ∧ va_P (dC, dI) vwCl (wo_P v cI 0 (fun _ => (0 : Int32)) (fun _ => (0 : Int32)) (fun _ => (0 : Int32))) H ∧ va_D A9 (wo_P v cI 0 (fun _ => (0 : Int32)) (fun _ => (0 : Int32)) (fun _ => (0 : Int32)))) (va_A [(h, .inr (1, [.null, .null, .null, .int 0]))] size_) t.heap) (va_A [(h, .inr (1, [.null, .null, .null, .int 0]))] size_)) 3 150 (va_A [(h, .inr (1, [.null, .null, .null, .int 0]))] size_) := by
  refine st_cv (P := fun (A9 : Nat → Prop) (H : Heap) => ∃ v : Nat → Nat, v 0 = h ∧ va_P (dC, dI) vwCl (wo_P v cI 0 (fun _ => (0 : Int32)) (fun _ => (0 : Int32)) (fun _ => (0 : Int32))) H ∧ va_D A9 (wo_P v cI 0 (fun _ => (0 : Int32)) (fun _ => (0 : Int32)) (fun _ => (0 : Int32)))) (cc := cX1_init) (maxL := 1) (by decide) rfl (Nat.le_of_ble_eq_true rfl) (lv := [(0, .ref h)]) rfl ?_
  intro p e s m args below meth c R Q ls A9 hx hb hts hown hml hR hin hP hD hA hS hN hl hend
  have hK := hN.1
  have hoi := (hts _ (List.mem_cons_of_mem _ tm_26))
  have hoj := (hts _ (List.mem_cons_of_mem _ tm_19))
  have hok := (hts _ (List.mem_cons_of_mem _ tm_20))
  have hac := (hts _ (List.mem_cons_of_mem _ tm_45))
  have hinX1 : ∀ w ∈ u_ws RX1 TX1 4, w ∈ wsX1_init := fun w h => List.mem_cons_of_mem _ (inX1 w h)
  have hfl9 := (hts _ (List.mem_cons_of_mem _ tm_27))
  have hfl15 := (hts _ (List.mem_cons_of_mem _ tm_29))
  have hfl18 := (hts _ (List.mem_cons_of_mem _ tm_31))
  have hfl21 := (hts _ (List.mem_cons_of_mem _ tm_33))
  refine lv_aload_n hx hb dX1_init_0 rfl (lv_at hl 0 rfl) ?_
  refine W.objInit hx hb hown hoi hoj hok rfl (by rw [hml]; exact hl.1) rfl dX1_init_1 (by rw [hR]; exact Nat.le_of_ble_eq_true rfl) (by rw [hR]; exact Nat.le_of_ble_eq_true rfl) ?_
  refine W.eq (g2 := F0 m 4 ls []) rfl ?_
  refine lv_aload_n hx hb dX1_init_4 rfl (lv_at hl 0 rfl) ?_
  refine jn_bipush hx hb dX1_init_5 (by decide) ?_
  refine na_new hx hb hac hK hP hD hS hA 50 rfl (by decide) (by rw [hR]; exact Nat.le_of_ble_eq_true rfl) (by rw [hR]; exact Nat.le_of_ble_eq_true rfl) dX1_init_7 (fun a0 H hP hD hS => ?_)
  have hP : va_P (dC, dI) vwCl [(h, .inr (1, [.null, .null, .null, .int 0])), (a0, .inl (cI, 50, .inl (fun _ => (0 : Int32))))] H := hP
  have hD : va_D A9 [(h, .inr (1, [.null, .null, .null, .int 0])), (a0, .inl (cI, 50, .inl (fun _ => (0 : Int32))))] := hD
  refine W.widen (k := 1) (n := 50) (by omega) (by omega) ?_
  refine va_putF (D := (dC, dI)) (ci := 1) (v := .ref a0) (ty := (.array .int)) (C := RX1) (T := TX1) (N := 4) hx hb hts hinX1 tyX1 tyX1_ok nmX1 hown hK hP hD hS 0 rfl rfl 0 (by decide) hfl9 (fun _ h9 => h9) rfl hin rfl (by decide +kernel) rfl rfl (Nat.le_of_ble_eq_true rfl) dX1_init_9 (fun H locs hP hD hS => ?_)
  have hP : va_P (dC, dI) vwCl [(h, .inr (1, [.ref a0, .null, .null, .int 0])), (a0, .inl (cI, 50, .inl (fun _ => (0 : Int32))))] H := hP
  have hD : va_D A9 [(h, .inr (1, [.ref a0, .null, .null, .int 0])), (a0, .inl (cI, 50, .inl (fun _ => (0 : Int32))))] := hD
  refine lv_aload_n hx hb dX1_init_12 rfl (lv_at hl 0 rfl) ?_
  refine jn_bipush hx hb dX1_init_13 (by decide) ?_
  refine na_new hx hb hac hK hP hD hS hA 50 rfl (by decide) (by rw [hR]; exact Nat.le_of_ble_eq_true rfl) (by rw [hR]; exact Nat.le_of_ble_eq_true rfl) dX1_init_15 (fun a1 H hP hD hS => ?_)
  have hP : va_P (dC, dI) vwCl [(h, .inr (1, [.ref a0, .null, .null, .int 0])), (a0, .inl (cI, 50, .inl (fun _ => (0 : Int32)))), (a1, .inl (cI, 50, .inl (fun _ => (0 : Int32))))] H := hP
  have hD : va_D A9 [(h, .inr (1, [.ref a0, .null, .null, .int 0])), (a0, .inl (cI, 50, .inl (fun _ => (0 : Int32)))), (a1, .inl (cI, 50, .inl (fun _ => (0 : Int32))))] := hD
  refine W.widen (k := 2) (n := 100) (by omega) (by omega) ?_
  refine va_putF (D := (dC, dI)) (ci := 1) (v := .ref a1) (ty := (.array .int)) (C := RX1) (T := TX1) (N := 4) hx hb hts hinX1 tyX1 tyX1_ok nmX1 hown hK hP hD hS 0 rfl rfl 1 (by decide) hfl15 (fun _ h9 => h9) rfl hin rfl (by decide +kernel) rfl rfl (Nat.le_of_ble_eq_true rfl) dX1_init_17 (fun H locs hP hD hS => ?_)
  have hP : va_P (dC, dI) vwCl [(h, .inr (1, [.ref a0, .ref a1, .null, .int 0])), (a0, .inl (cI, 50, .inl (fun _ => (0 : Int32)))), (a1, .inl (cI, 50, .inl (fun _ => (0 : Int32))))] H := hP
  have hD : va_D A9 [(h, .inr (1, [.ref a0, .ref a1, .null, .int 0])), (a0, .inl (cI, 50, .inl (fun _ => (0 : Int32)))), (a1, .inl (cI, 50, .inl (fun _ => (0 : Int32))))] := hD
  refine lv_aload_n hx hb dX1_init_20 rfl (lv_at hl 0 rfl) ?_
  refine jn_bipush hx hb dX1_init_21 (by decide) ?_
  refine na_new hx hb hac hK hP hD hS hA 50 rfl (by decide) (by rw [hR]; exact Nat.le_of_ble_eq_true rfl) (by rw [hR]; exact Nat.le_of_ble_eq_true rfl) dX1_init_23 (fun a2 H hP hD hS => ?_)
  have hP : va_P (dC, dI) vwCl [(h, .inr (1, [.ref a0, .ref a1, .null, .int 0])), (a0, .inl (cI, 50, .inl (fun _ => (0 : Int32)))), (a1, .inl (cI, 50, .inl (fun _ => (0 : Int32)))), (a2, .inl (cI, 50, .inl (fun _ => (0 : Int32))))] H := hP
  have hD : va_D A9 [(h, .inr (1, [.ref a0, .ref a1, .null, .int 0])), (a0, .inl (cI, 50, .inl (fun _ => (0 : Int32)))), (a1, .inl (cI, 50, .inl (fun _ => (0 : Int32)))), (a2, .inl (cI, 50, .inl (fun _ => (0 : Int32))))] := hD
  refine W.widen (k := 3) (n := 150) (by omega) (by omega) ?_
  refine va_putF (D := (dC, dI)) (ci := 1) (v := .ref a2) (ty := (.array .int)) (C := RX1) (T := TX1) (N := 4) hx hb hts hinX1 tyX1 tyX1_ok nmX1 hown hK hP hD hS 0 rfl rfl 2 (by decide) hfl18 (fun _ h9 => h9) rfl hin rfl (by decide +kernel) rfl rfl (Nat.le_of_ble_eq_true rfl) dX1_init_25 (fun H locs hP hD hS => ?_)
  have hP : va_P (dC, dI) vwCl [(h, .inr (1, [.ref a0, .ref a1, .ref a2, .int 0])), (a0, .inl (cI, 50, .inl (fun _ => (0 : Int32)))), (a1, .inl (cI, 50, .inl (fun _ => (0 : Int32)))), (a2, .inl (cI, 50, .inl (fun _ => (0 : Int32))))] H := hP
  have hD : va_D A9 [(h, .inr (1, [.ref a0, .ref a1, .ref a2, .int 0])), (a0, .inl (cI, 50, .inl (fun _ => (0 : Int32)))), (a1, .inl (cI, 50, .inl (fun _ => (0 : Int32)))), (a2, .inl (cI, 50, .inl (fun _ => (0 : Int32))))] := hD
  refine lv_aload_n hx hb dX1_init_28 rfl (lv_at hl 0 rfl) ?_
  refine jn_iconst hx hb dX1_init_29 ?_
  refine va_put (D := (dC, dI)) (ci := 1) (v := .int (ji_n 0)) (ty := .int) (C := RX1) (T := TX1) (N := 4) hx hb hts hinX1 tyX1 tyX1_ok nmX1 hown hK hP hD hS 0 rfl rfl 3 (by decide) hfl21 (fun _ h9 => h9) rfl (by decide +kernel) rfl rfl (Nat.le_of_ble_eq_true rfl) dX1_init_30 (fun H locs hP hD hS => ?_)
  have hP : va_P (dC, dI) vwCl [(h, .inr (1, [.ref a0, .ref a1, .ref a2, .int (ji_n 0)])), (a0, .inl (cI, 50, .inl (fun _ => (0 : Int32)))), (a1, .inl (cI, 50, .inl (fun _ => (0 : Int32)))), (a2, .inl (cI, 50, .inl (fun _ => (0 : Int32))))] H := hP
  have hD : va_D A9 [(h, .inr (1, [.ref a0, .ref a1, .ref a2, .int (ji_n 0)])), (a0, .inl (cI, 50, .inl (fun _ => (0 : Int32)))), (a1, .inl (cI, 50, .inl (fun _ => (0 : Int32)))), (a2, .inl (cI, 50, .inl (fun _ => (0 : Int32))))] := hD
  exact hend _ _ _ _ dX1_init_33 ⟨fun i => [h, a0, a1, a2].getD i 0, rfl, hP, hD⟩ hS

set_option maxHeartbeats 4000000 in
set_option maxRecDepth 100000 in
theorem cc_Model (l : Launch) (size_ : Nat) (dC : Nat → ClassId) (dI : Nat → Nat → Nat) (cI : ClassId) (h : Nat) : Met l yX3_init wsX3_init { frames := 1, cells := 7, slots := 350, locals := 12 } (va_Pc [.ref h] (wr_B (dC, dI) vwCl [(h, .inr (3, [.int 0, .int 0, .null, .null, .null, .int 0, .null, .null, .null, .null, .int 0]))] size_ (kn_K dC dI cI))) (va_Qv (S := Unit) (fun _ => True) (fun _ t => (fun (A9 : Nat → Prop) (H : Heap) => ∃ v : Nat → Nat, v 0 = h ∧ va_P (dC, dI) vwCl (wo_M v cI 0 ((0 : Nat) : Int) ((0 : Nat) : Int) 0 (fun _ => (0 : Int32)) (fun _ => (0 : Int32)) (fun _ => (0 : Int32)) (fun _ => (0 : Int32)) (fun _ => (0 : Int32)) (fun _ => (0 : Int32)) (fun _ => (0 : Int32))) H ∧ va_D A9 (wo_M v cI 0 ((0 : Nat) : Int) ((0 : Nat) : Int) 0 (fun _ => (0 : Int32)) (fun _ => (0 : Int32)) (fun _ => (0 : Int32)) (fun _ => (0 : Int32)) (fun _ => (0 : Int32)) (fun _ => (0 : Int32)) (fun _ => (0 : Int32)))) (va_A [(h, .inr (3, [.int 0, .int 0, .null, .null, .null, .int 0, .null, .null, .null, .null, .int 0]))] size_) t.heap) (va_A [(h, .inr (3, [.int 0, .int 0, .null, .null, .null, .int 0, .null, .null, .null, .null, .int 0]))] size_)) 7 350 (va_A [(h, .inr (3, [.int 0, .int 0, .null, .null, .null, .int 0, .null, .null, .null, .null, .int 0]))] size_) := by
  refine st_cv (P := fun (A9 : Nat → Prop) (H : Heap) => ∃ v : Nat → Nat, v 0 = h ∧ va_P (dC, dI) vwCl (wo_M v cI 0 ((0 : Nat) : Int) ((0 : Nat) : Int) 0 (fun _ => (0 : Int32)) (fun _ => (0 : Int32)) (fun _ => (0 : Int32)) (fun _ => (0 : Int32)) (fun _ => (0 : Int32)) (fun _ => (0 : Int32)) (fun _ => (0 : Int32))) H ∧ va_D A9 (wo_M v cI 0 ((0 : Nat) : Int) ((0 : Nat) : Int) 0 (fun _ => (0 : Int32)) (fun _ => (0 : Int32)) (fun _ => (0 : Int32)) (fun _ => (0 : Int32)) (fun _ => (0 : Int32)) (fun _ => (0 : Int32)) (fun _ => (0 : Int32)))) (cc := cX3_init) (maxL := 1) (by decide) rfl (Nat.le_of_ble_eq_true rfl) (lv := [(0, .ref h)]) rfl ?_
  intro p e s m args below meth c R Q ls A9 hx hb hts hown hml hR hin hP hD hA hS hN hl hend
  have hK := hN.1
  have hoi := (hts _ (List.mem_cons_of_mem _ tm_357))
  have hoj := (hts _ (List.mem_cons_of_mem _ tm_19))
  have hok := (hts _ (List.mem_cons_of_mem _ tm_20))
  have hac := (hts _ (List.mem_cons_of_mem _ tm_45))
  have hinX3 : ∀ w ∈ u_ws RX3 TX3 11, w ∈ wsX3_init := fun w h => List.mem_cons_of_mem _ (inX3 w h)
  have hfl7 := (hts _ (List.mem_cons_of_mem _ tm_360))
  have hfl13 := (hts _ (List.mem_cons_of_mem _ tm_361))
  have hfl16 := (hts _ (List.mem_cons_of_mem _ tm_362))
  have hfl19 := (hts _ (List.mem_cons_of_mem _ tm_364))
  have hfl22 := (hts _ (List.mem_cons_of_mem _ tm_365))
  have hfl25 := (hts _ (List.mem_cons_of_mem _ tm_366))
  have hfl28 := (hts _ (List.mem_cons_of_mem _ tm_367))
  refine lv_aload_n hx hb dX3_init_0 rfl (lv_at hl 0 rfl) ?_
  refine W.objInit hx hb hown hoi hoj hok rfl (by rw [hml]; exact hl.1) rfl dX3_init_1 (by rw [hR]; exact Nat.le_of_ble_eq_true rfl) (by rw [hR]; exact Nat.le_of_ble_eq_true rfl) ?_
  refine W.eq (g2 := F0 m 4 ls []) rfl ?_
  refine lv_aload_n hx hb dX3_init_4 rfl (lv_at hl 0 rfl) ?_
  refine jn_bipush hx hb dX3_init_5 (by decide) ?_
  refine na_new hx hb hac hK hP hD hS hA 50 rfl (by decide) (by rw [hR]; exact Nat.le_of_ble_eq_true rfl) (by rw [hR]; exact Nat.le_of_ble_eq_true rfl) dX3_init_7 (fun a0 H hP hD hS => ?_)
  have hP : va_P (dC, dI) vwCl [(h, .inr (3, [.int 0, .int 0, .null, .null, .null, .int 0, .null, .null, .null, .null, .int 0])), (a0, .inl (cI, 50, .inl (fun _ => (0 : Int32))))] H := hP
  have hD : va_D A9 [(h, .inr (3, [.int 0, .int 0, .null, .null, .null, .int 0, .null, .null, .null, .null, .int 0])), (a0, .inl (cI, 50, .inl (fun _ => (0 : Int32))))] := hD
  refine W.widen (k := 1) (n := 50) (by omega) (by omega) ?_
  refine va_putF (D := (dC, dI)) (ci := 3) (v := .ref a0) (ty := (.array .int)) (C := RX3) (T := TX3) (N := 11) hx hb hts hinX3 tyX3 tyX3_ok nmX3 hown hK hP hD hS 0 rfl rfl 2 (by decide) hfl7 (fun _ h9 => h9) rfl hin rfl (by decide +kernel) rfl rfl (Nat.le_of_ble_eq_true rfl) dX3_init_9 (fun H locs hP hD hS => ?_)
  have hP : va_P (dC, dI) vwCl [(h, .inr (3, [.int 0, .int 0, .ref a0, .null, .null, .int 0, .null, .null, .null, .null, .int 0])), (a0, .inl (cI, 50, .inl (fun _ => (0 : Int32))))] H := hP
  have hD : va_D A9 [(h, .inr (3, [.int 0, .int 0, .ref a0, .null, .null, .int 0, .null, .null, .null, .null, .int 0])), (a0, .inl (cI, 50, .inl (fun _ => (0 : Int32))))] := hD
  refine lv_aload_n hx hb dX3_init_12 rfl (lv_at hl 0 rfl) ?_
  refine jn_bipush hx hb dX3_init_13 (by decide) ?_
  refine na_new hx hb hac hK hP hD hS hA 50 rfl (by decide) (by rw [hR]; exact Nat.le_of_ble_eq_true rfl) (by rw [hR]; exact Nat.le_of_ble_eq_true rfl) dX3_init_15 (fun a1 H hP hD hS => ?_)
  have hP : va_P (dC, dI) vwCl [(h, .inr (3, [.int 0, .int 0, .ref a0, .null, .null, .int 0, .null, .null, .null, .null, .int 0])), (a0, .inl (cI, 50, .inl (fun _ => (0 : Int32)))), (a1, .inl (cI, 50, .inl (fun _ => (0 : Int32))))] H := hP
  have hD : va_D A9 [(h, .inr (3, [.int 0, .int 0, .ref a0, .null, .null, .int 0, .null, .null, .null, .null, .int 0])), (a0, .inl (cI, 50, .inl (fun _ => (0 : Int32)))), (a1, .inl (cI, 50, .inl (fun _ => (0 : Int32))))] := hD
  refine W.widen (k := 2) (n := 100) (by omega) (by omega) ?_
  refine va_putF (D := (dC, dI)) (ci := 3) (v := .ref a1) (ty := (.array .int)) (C := RX3) (T := TX3) (N := 11) hx hb hts hinX3 tyX3 tyX3_ok nmX3 hown hK hP hD hS 0 rfl rfl 3 (by decide) hfl13 (fun _ h9 => h9) rfl hin rfl (by decide +kernel) rfl rfl (Nat.le_of_ble_eq_true rfl) dX3_init_17 (fun H locs hP hD hS => ?_)
  have hP : va_P (dC, dI) vwCl [(h, .inr (3, [.int 0, .int 0, .ref a0, .ref a1, .null, .int 0, .null, .null, .null, .null, .int 0])), (a0, .inl (cI, 50, .inl (fun _ => (0 : Int32)))), (a1, .inl (cI, 50, .inl (fun _ => (0 : Int32))))] H := hP
  have hD : va_D A9 [(h, .inr (3, [.int 0, .int 0, .ref a0, .ref a1, .null, .int 0, .null, .null, .null, .null, .int 0])), (a0, .inl (cI, 50, .inl (fun _ => (0 : Int32)))), (a1, .inl (cI, 50, .inl (fun _ => (0 : Int32))))] := hD
  refine lv_aload_n hx hb dX3_init_20 rfl (lv_at hl 0 rfl) ?_
  refine jn_bipush hx hb dX3_init_21 (by decide) ?_
  refine na_new hx hb hac hK hP hD hS hA 50 rfl (by decide) (by rw [hR]; exact Nat.le_of_ble_eq_true rfl) (by rw [hR]; exact Nat.le_of_ble_eq_true rfl) dX3_init_23 (fun a2 H hP hD hS => ?_)
  have hP : va_P (dC, dI) vwCl [(h, .inr (3, [.int 0, .int 0, .ref a0, .ref a1, .null, .int 0, .null, .null, .null, .null, .int 0])), (a0, .inl (cI, 50, .inl (fun _ => (0 : Int32)))), (a1, .inl (cI, 50, .inl (fun _ => (0 : Int32)))), (a2, .inl (cI, 50, .inl (fun _ => (0 : Int32))))] H := hP
  have hD : va_D A9 [(h, .inr (3, [.int 0, .int 0, .ref a0, .ref a1, .null, .int 0, .null, .null, .null, .null, .int 0])), (a0, .inl (cI, 50, .inl (fun _ => (0 : Int32)))), (a1, .inl (cI, 50, .inl (fun _ => (0 : Int32)))), (a2, .inl (cI, 50, .inl (fun _ => (0 : Int32))))] := hD
  refine W.widen (k := 3) (n := 150) (by omega) (by omega) ?_
  refine va_putF (D := (dC, dI)) (ci := 3) (v := .ref a2) (ty := (.array .int)) (C := RX3) (T := TX3) (N := 11) hx hb hts hinX3 tyX3 tyX3_ok nmX3 hown hK hP hD hS 0 rfl rfl 4 (by decide) hfl16 (fun _ h9 => h9) rfl hin rfl (by decide +kernel) rfl rfl (Nat.le_of_ble_eq_true rfl) dX3_init_25 (fun H locs hP hD hS => ?_)
  have hP : va_P (dC, dI) vwCl [(h, .inr (3, [.int 0, .int 0, .ref a0, .ref a1, .ref a2, .int 0, .null, .null, .null, .null, .int 0])), (a0, .inl (cI, 50, .inl (fun _ => (0 : Int32)))), (a1, .inl (cI, 50, .inl (fun _ => (0 : Int32)))), (a2, .inl (cI, 50, .inl (fun _ => (0 : Int32))))] H := hP
  have hD : va_D A9 [(h, .inr (3, [.int 0, .int 0, .ref a0, .ref a1, .ref a2, .int 0, .null, .null, .null, .null, .int 0])), (a0, .inl (cI, 50, .inl (fun _ => (0 : Int32)))), (a1, .inl (cI, 50, .inl (fun _ => (0 : Int32)))), (a2, .inl (cI, 50, .inl (fun _ => (0 : Int32))))] := hD
  refine lv_aload_n hx hb dX3_init_28 rfl (lv_at hl 0 rfl) ?_
  refine jn_bipush hx hb dX3_init_29 (by decide) ?_
  refine na_new hx hb hac hK hP hD hS hA 50 rfl (by decide) (by rw [hR]; exact Nat.le_of_ble_eq_true rfl) (by rw [hR]; exact Nat.le_of_ble_eq_true rfl) dX3_init_31 (fun a3 H hP hD hS => ?_)
  have hP : va_P (dC, dI) vwCl [(h, .inr (3, [.int 0, .int 0, .ref a0, .ref a1, .ref a2, .int 0, .null, .null, .null, .null, .int 0])), (a0, .inl (cI, 50, .inl (fun _ => (0 : Int32)))), (a1, .inl (cI, 50, .inl (fun _ => (0 : Int32)))), (a2, .inl (cI, 50, .inl (fun _ => (0 : Int32)))), (a3, .inl (cI, 50, .inl (fun _ => (0 : Int32))))] H := hP
  have hD : va_D A9 [(h, .inr (3, [.int 0, .int 0, .ref a0, .ref a1, .ref a2, .int 0, .null, .null, .null, .null, .int 0])), (a0, .inl (cI, 50, .inl (fun _ => (0 : Int32)))), (a1, .inl (cI, 50, .inl (fun _ => (0 : Int32)))), (a2, .inl (cI, 50, .inl (fun _ => (0 : Int32)))), (a3, .inl (cI, 50, .inl (fun _ => (0 : Int32))))] := hD
  refine W.widen (k := 4) (n := 200) (by omega) (by omega) ?_
  refine va_putF (D := (dC, dI)) (ci := 3) (v := .ref a3) (ty := (.array .int)) (C := RX3) (T := TX3) (N := 11) hx hb hts hinX3 tyX3 tyX3_ok nmX3 hown hK hP hD hS 0 rfl rfl 6 (by decide) hfl19 (fun _ h9 => h9) rfl hin rfl (by decide +kernel) rfl rfl (Nat.le_of_ble_eq_true rfl) dX3_init_33 (fun H locs hP hD hS => ?_)
  have hP : va_P (dC, dI) vwCl [(h, .inr (3, [.int 0, .int 0, .ref a0, .ref a1, .ref a2, .int 0, .ref a3, .null, .null, .null, .int 0])), (a0, .inl (cI, 50, .inl (fun _ => (0 : Int32)))), (a1, .inl (cI, 50, .inl (fun _ => (0 : Int32)))), (a2, .inl (cI, 50, .inl (fun _ => (0 : Int32)))), (a3, .inl (cI, 50, .inl (fun _ => (0 : Int32))))] H := hP
  have hD : va_D A9 [(h, .inr (3, [.int 0, .int 0, .ref a0, .ref a1, .ref a2, .int 0, .ref a3, .null, .null, .null, .int 0])), (a0, .inl (cI, 50, .inl (fun _ => (0 : Int32)))), (a1, .inl (cI, 50, .inl (fun _ => (0 : Int32)))), (a2, .inl (cI, 50, .inl (fun _ => (0 : Int32)))), (a3, .inl (cI, 50, .inl (fun _ => (0 : Int32))))] := hD
  refine lv_aload_n hx hb dX3_init_36 rfl (lv_at hl 0 rfl) ?_
  refine jn_bipush hx hb dX3_init_37 (by decide) ?_
  refine na_new hx hb hac hK hP hD hS hA 50 rfl (by decide) (by rw [hR]; exact Nat.le_of_ble_eq_true rfl) (by rw [hR]; exact Nat.le_of_ble_eq_true rfl) dX3_init_39 (fun a4 H hP hD hS => ?_)
  have hP : va_P (dC, dI) vwCl [(h, .inr (3, [.int 0, .int 0, .ref a0, .ref a1, .ref a2, .int 0, .ref a3, .null, .null, .null, .int 0])), (a0, .inl (cI, 50, .inl (fun _ => (0 : Int32)))), (a1, .inl (cI, 50, .inl (fun _ => (0 : Int32)))), (a2, .inl (cI, 50, .inl (fun _ => (0 : Int32)))), (a3, .inl (cI, 50, .inl (fun _ => (0 : Int32)))), (a4, .inl (cI, 50, .inl (fun _ => (0 : Int32))))] H := hP
  have hD : va_D A9 [(h, .inr (3, [.int 0, .int 0, .ref a0, .ref a1, .ref a2, .int 0, .ref a3, .null, .null, .null, .int 0])), (a0, .inl (cI, 50, .inl (fun _ => (0 : Int32)))), (a1, .inl (cI, 50, .inl (fun _ => (0 : Int32)))), (a2, .inl (cI, 50, .inl (fun _ => (0 : Int32)))), (a3, .inl (cI, 50, .inl (fun _ => (0 : Int32)))), (a4, .inl (cI, 50, .inl (fun _ => (0 : Int32))))] := hD
  refine W.widen (k := 5) (n := 250) (by omega) (by omega) ?_
  refine va_putF (D := (dC, dI)) (ci := 3) (v := .ref a4) (ty := (.array .int)) (C := RX3) (T := TX3) (N := 11) hx hb hts hinX3 tyX3 tyX3_ok nmX3 hown hK hP hD hS 0 rfl rfl 7 (by decide) hfl22 (fun _ h9 => h9) rfl hin rfl (by decide +kernel) rfl rfl (Nat.le_of_ble_eq_true rfl) dX3_init_41 (fun H locs hP hD hS => ?_)
  have hP : va_P (dC, dI) vwCl [(h, .inr (3, [.int 0, .int 0, .ref a0, .ref a1, .ref a2, .int 0, .ref a3, .ref a4, .null, .null, .int 0])), (a0, .inl (cI, 50, .inl (fun _ => (0 : Int32)))), (a1, .inl (cI, 50, .inl (fun _ => (0 : Int32)))), (a2, .inl (cI, 50, .inl (fun _ => (0 : Int32)))), (a3, .inl (cI, 50, .inl (fun _ => (0 : Int32)))), (a4, .inl (cI, 50, .inl (fun _ => (0 : Int32))))] H := hP
  have hD : va_D A9 [(h, .inr (3, [.int 0, .int 0, .ref a0, .ref a1, .ref a2, .int 0, .ref a3, .ref a4, .null, .null, .int 0])), (a0, .inl (cI, 50, .inl (fun _ => (0 : Int32)))), (a1, .inl (cI, 50, .inl (fun _ => (0 : Int32)))), (a2, .inl (cI, 50, .inl (fun _ => (0 : Int32)))), (a3, .inl (cI, 50, .inl (fun _ => (0 : Int32)))), (a4, .inl (cI, 50, .inl (fun _ => (0 : Int32))))] := hD
  refine lv_aload_n hx hb dX3_init_44 rfl (lv_at hl 0 rfl) ?_
  refine jn_bipush hx hb dX3_init_45 (by decide) ?_
  refine na_new hx hb hac hK hP hD hS hA 50 rfl (by decide) (by rw [hR]; exact Nat.le_of_ble_eq_true rfl) (by rw [hR]; exact Nat.le_of_ble_eq_true rfl) dX3_init_47 (fun a5 H hP hD hS => ?_)
  have hP : va_P (dC, dI) vwCl [(h, .inr (3, [.int 0, .int 0, .ref a0, .ref a1, .ref a2, .int 0, .ref a3, .ref a4, .null, .null, .int 0])), (a0, .inl (cI, 50, .inl (fun _ => (0 : Int32)))), (a1, .inl (cI, 50, .inl (fun _ => (0 : Int32)))), (a2, .inl (cI, 50, .inl (fun _ => (0 : Int32)))), (a3, .inl (cI, 50, .inl (fun _ => (0 : Int32)))), (a4, .inl (cI, 50, .inl (fun _ => (0 : Int32)))), (a5, .inl (cI, 50, .inl (fun _ => (0 : Int32))))] H := hP
  have hD : va_D A9 [(h, .inr (3, [.int 0, .int 0, .ref a0, .ref a1, .ref a2, .int 0, .ref a3, .ref a4, .null, .null, .int 0])), (a0, .inl (cI, 50, .inl (fun _ => (0 : Int32)))), (a1, .inl (cI, 50, .inl (fun _ => (0 : Int32)))), (a2, .inl (cI, 50, .inl (fun _ => (0 : Int32)))), (a3, .inl (cI, 50, .inl (fun _ => (0 : Int32)))), (a4, .inl (cI, 50, .inl (fun _ => (0 : Int32)))), (a5, .inl (cI, 50, .inl (fun _ => (0 : Int32))))] := hD
  refine W.widen (k := 6) (n := 300) (by omega) (by omega) ?_
  refine va_putF (D := (dC, dI)) (ci := 3) (v := .ref a5) (ty := (.array .int)) (C := RX3) (T := TX3) (N := 11) hx hb hts hinX3 tyX3 tyX3_ok nmX3 hown hK hP hD hS 0 rfl rfl 8 (by decide) hfl25 (fun _ h9 => h9) rfl hin rfl (by decide +kernel) rfl rfl (Nat.le_of_ble_eq_true rfl) dX3_init_49 (fun H locs hP hD hS => ?_)
  have hP : va_P (dC, dI) vwCl [(h, .inr (3, [.int 0, .int 0, .ref a0, .ref a1, .ref a2, .int 0, .ref a3, .ref a4, .ref a5, .null, .int 0])), (a0, .inl (cI, 50, .inl (fun _ => (0 : Int32)))), (a1, .inl (cI, 50, .inl (fun _ => (0 : Int32)))), (a2, .inl (cI, 50, .inl (fun _ => (0 : Int32)))), (a3, .inl (cI, 50, .inl (fun _ => (0 : Int32)))), (a4, .inl (cI, 50, .inl (fun _ => (0 : Int32)))), (a5, .inl (cI, 50, .inl (fun _ => (0 : Int32))))] H := hP
  have hD : va_D A9 [(h, .inr (3, [.int 0, .int 0, .ref a0, .ref a1, .ref a2, .int 0, .ref a3, .ref a4, .ref a5, .null, .int 0])), (a0, .inl (cI, 50, .inl (fun _ => (0 : Int32)))), (a1, .inl (cI, 50, .inl (fun _ => (0 : Int32)))), (a2, .inl (cI, 50, .inl (fun _ => (0 : Int32)))), (a3, .inl (cI, 50, .inl (fun _ => (0 : Int32)))), (a4, .inl (cI, 50, .inl (fun _ => (0 : Int32)))), (a5, .inl (cI, 50, .inl (fun _ => (0 : Int32))))] := hD
  refine lv_aload_n hx hb dX3_init_52 rfl (lv_at hl 0 rfl) ?_
  refine jn_bipush hx hb dX3_init_53 (by decide) ?_
  refine na_new hx hb hac hK hP hD hS hA 50 rfl (by decide) (by rw [hR]; exact Nat.le_of_ble_eq_true rfl) (by rw [hR]; exact Nat.le_of_ble_eq_true rfl) dX3_init_55 (fun a6 H hP hD hS => ?_)
  have hP : va_P (dC, dI) vwCl [(h, .inr (3, [.int 0, .int 0, .ref a0, .ref a1, .ref a2, .int 0, .ref a3, .ref a4, .ref a5, .null, .int 0])), (a0, .inl (cI, 50, .inl (fun _ => (0 : Int32)))), (a1, .inl (cI, 50, .inl (fun _ => (0 : Int32)))), (a2, .inl (cI, 50, .inl (fun _ => (0 : Int32)))), (a3, .inl (cI, 50, .inl (fun _ => (0 : Int32)))), (a4, .inl (cI, 50, .inl (fun _ => (0 : Int32)))), (a5, .inl (cI, 50, .inl (fun _ => (0 : Int32)))), (a6, .inl (cI, 50, .inl (fun _ => (0 : Int32))))] H := hP
  have hD : va_D A9 [(h, .inr (3, [.int 0, .int 0, .ref a0, .ref a1, .ref a2, .int 0, .ref a3, .ref a4, .ref a5, .null, .int 0])), (a0, .inl (cI, 50, .inl (fun _ => (0 : Int32)))), (a1, .inl (cI, 50, .inl (fun _ => (0 : Int32)))), (a2, .inl (cI, 50, .inl (fun _ => (0 : Int32)))), (a3, .inl (cI, 50, .inl (fun _ => (0 : Int32)))), (a4, .inl (cI, 50, .inl (fun _ => (0 : Int32)))), (a5, .inl (cI, 50, .inl (fun _ => (0 : Int32)))), (a6, .inl (cI, 50, .inl (fun _ => (0 : Int32))))] := hD
  refine W.widen (k := 7) (n := 350) (by omega) (by omega) ?_
  refine va_putF (D := (dC, dI)) (ci := 3) (v := .ref a6) (ty := (.array .int)) (C := RX3) (T := TX3) (N := 11) hx hb hts hinX3 tyX3 tyX3_ok nmX3 hown hK hP hD hS 0 rfl rfl 9 (by decide) hfl28 (fun _ h9 => h9) rfl hin rfl (by decide +kernel) rfl rfl (Nat.le_of_ble_eq_true rfl) dX3_init_57 (fun H locs hP hD hS => ?_)
  have hP : va_P (dC, dI) vwCl [(h, .inr (3, [.int 0, .int 0, .ref a0, .ref a1, .ref a2, .int 0, .ref a3, .ref a4, .ref a5, .ref a6, .int 0])), (a0, .inl (cI, 50, .inl (fun _ => (0 : Int32)))), (a1, .inl (cI, 50, .inl (fun _ => (0 : Int32)))), (a2, .inl (cI, 50, .inl (fun _ => (0 : Int32)))), (a3, .inl (cI, 50, .inl (fun _ => (0 : Int32)))), (a4, .inl (cI, 50, .inl (fun _ => (0 : Int32)))), (a5, .inl (cI, 50, .inl (fun _ => (0 : Int32)))), (a6, .inl (cI, 50, .inl (fun _ => (0 : Int32))))] H := hP
  have hD : va_D A9 [(h, .inr (3, [.int 0, .int 0, .ref a0, .ref a1, .ref a2, .int 0, .ref a3, .ref a4, .ref a5, .ref a6, .int 0])), (a0, .inl (cI, 50, .inl (fun _ => (0 : Int32)))), (a1, .inl (cI, 50, .inl (fun _ => (0 : Int32)))), (a2, .inl (cI, 50, .inl (fun _ => (0 : Int32)))), (a3, .inl (cI, 50, .inl (fun _ => (0 : Int32)))), (a4, .inl (cI, 50, .inl (fun _ => (0 : Int32)))), (a5, .inl (cI, 50, .inl (fun _ => (0 : Int32)))), (a6, .inl (cI, 50, .inl (fun _ => (0 : Int32))))] := hD
  exact hend _ _ _ _ dX3_init_60 ⟨fun i => [h, a0, a1, a2, a3, a4, a5, a6].getD i 0, rfl, hP, hD⟩ hS

set_option maxHeartbeats 4000000 in
set_option maxRecDepth 100000 in
theorem cc_Assembly (l : Launch) (size_ : Nat) (dC : Nat → ClassId) (dI : Nat → Nat → Nat) (cI : ClassId) (h : Nat) : Met l yX0_init wsX0_init { frames := 2, cells := 7, slots := 271, locals := 32 } (va_Pc [.ref h] (wr_B (dC, dI) vwCl [(h, .inr (0, [.null, .null, .null, .null]))] size_ (kn_K dC dI cI))) (va_Qv (S := Unit) (fun _ => True) (fun _ t => (fun (A9 : Nat → Prop) (H : Heap) => ∃ (w : Nat → Nat) (vl : Nat → Int32), w 0 = h ∧ va_P (dC, dI) vwCl (wo_A w cI 0 (fun _ => (0 : Int32)) (fun _ => (0 : Int32)) (fun _ => (0 : Int32)) (fun _ => (0 : Int32)) (fun _ => (0 : Int32)) vl) H ∧ va_D A9 (wo_A w cI 0 (fun _ => (0 : Int32)) (fun _ => (0 : Int32)) (fun _ => (0 : Int32)) (fun _ => (0 : Int32)) (fun _ => (0 : Int32)) vl) ∧ ∀ j, j < 16 → vl j = ji_n (-1)) (va_A [(h, .inr (0, [.null, .null, .null, .null]))] size_) t.heap) (va_A [(h, .inr (0, [.null, .null, .null, .null]))] size_)) 7 271 (va_A [(h, .inr (0, [.null, .null, .null, .null]))] size_) := by
  refine st_cv (P := fun (A9 : Nat → Prop) (H : Heap) => ∃ (w : Nat → Nat) (vl : Nat → Int32), w 0 = h ∧ va_P (dC, dI) vwCl (wo_A w cI 0 (fun _ => (0 : Int32)) (fun _ => (0 : Int32)) (fun _ => (0 : Int32)) (fun _ => (0 : Int32)) (fun _ => (0 : Int32)) vl) H ∧ va_D A9 (wo_A w cI 0 (fun _ => (0 : Int32)) (fun _ => (0 : Int32)) (fun _ => (0 : Int32)) (fun _ => (0 : Int32)) (fun _ => (0 : Int32)) vl) ∧ ∀ j, j < 16 → vl j = ji_n (-1)) (cc := cX0_init) (maxL := 1) (by decide) rfl (Nat.le_of_ble_eq_true rfl) (lv := [(0, .ref h)]) rfl ?_
  intro p e s m args below meth c R Q ls A9 hx hb hts hown hml hR hin hP hD hA hS hN hl hend
  have hK := hN.1
  have hoi := (hts _ (List.mem_cons_of_mem _ tm_51))
  have hoj := (hts _ (List.mem_cons_of_mem _ tm_19))
  have hok := (hts _ (List.mem_cons_of_mem _ tm_20))
  have hinX1 : ∀ w ∈ u_ws RX1 TX1 4, w ∈ wsX0_init := fun w h => List.mem_cons_of_mem _ (inX1 w h)
  have hinX0 : ∀ w ∈ u_ws RX0 TX0 4, w ∈ wsX0_init := fun w h => List.mem_cons_of_mem _ (inX0 w h)
  have hfl12 := (hts _ (List.mem_cons_of_mem _ tm_57))
  have hac := (hts _ (List.mem_cons_of_mem _ tm_45))
  have hfl18 := (hts _ (List.mem_cons_of_mem _ tm_59))
  have hfl22 := (hts _ (List.mem_cons_of_mem _ tm_61))
  have hfl25 := (hts _ (List.mem_cons_of_mem _ tm_63))
  refine lv_aload_n hx hb dX0_init_0 rfl (lv_at hl 0 rfl) ?_
  refine W.objInit hx hb hown hoi hoj hok rfl (by rw [hml]; exact hl.1) rfl dX0_init_1 (by rw [hR]; exact Nat.le_of_ble_eq_true rfl) (by rw [hR]; exact Nat.le_of_ble_eq_true rfl) ?_
  refine W.eq (g2 := F0 m 4 ls []) rfl ?_
  refine lv_aload_n hx hb dX0_init_4 rfl (lv_at hl 0 rfl) ?_
  refine va_new (ci := 1) (fs := [.null, .null, .null, .int 0]) (C := RX1) (T := TX1) (N := 4) hx hb hts hinX1 tyX1 tyX1_ok hown (hts _ (List.mem_cons_of_mem _ tm_52)) (hts _ (List.mem_cons_of_mem _ tm_22)) (hts _ (List.mem_cons_of_mem _ tm_2)) hK hP hD hS hA rfl (fun j hj => by rcases (show j = 0 ∨ j = 1 ∨ j = 2 ∨ j = 3 by omega) with rfl | rfl | rfl | rfl <;> rfl) (by rw [hR]; exact Nat.le_of_ble_eq_true rfl) (by rw [hR]; exact Nat.le_of_ble_eq_true rfl) dX0_init_5 (fun q5 H hP hD hS => ?_)
  have hP : va_P (dC, dI) vwCl [(h, .inr (0, [.null, .null, .null, .null])), (q5, .inr (1, [.null, .null, .null, .int 0]))] H := hP
  have hD : va_D A9 [(h, .inr (0, [.null, .null, .null, .null])), (q5, .inr (1, [.null, .null, .null, .int 0]))] := hD
  refine W.widen (k := 1) (n := 4) (by omega) (by omega) ?_
  refine lv_dup hx hb dX0_init_8 rfl ?_
  have hFc := va_free (wc := [(q5, .inr (1, [.null, .null, .null, .int 0]))]) hD hS hA [1] rfl
  refine va_callv (va_runI (As := []) (rest := [.ref q5, .ref h]) ⟨hx, hb, hml, hown, hts⟩ (cc_Program l H.size dC dI cI q5) (cwI 0 hts (ub_I tm_25) rfl rfl rfl (hts _ (List.mem_cons_of_mem _ tm_2)) (hts _ (List.mem_cons_of_mem _ tm_53)) (hts _ (List.mem_cons_of_mem _ tm_24)) rfl (by decide +kernel) (by rw [hR]; exact ⟨Nat.le_of_ble_eq_true rfl, Nat.le_of_ble_eq_true rfl⟩)) (ps_wr hN (hP.sub [1] rfl) (hD.sub [1] (by decide) rfl)) rfl rfl hl.1 rfl (lv_room (Nat.le_of_ble_eq_true rfl)) dX0_init_9 (by rw [hR]; exact ⟨Nat.le_of_ble_eq_true rfl, Nat.le_of_ble_eq_true rfl⟩)) hS (fun q _ h => hFc q h) hFc (fun u9 t9 H1 locs ht hvm hw hB hz1 hk1 hS => ?_)
  obtain ⟨v, hv0, hP1, hD1⟩ := hB
  subst hv0
  rw [ht] at hP1
  obtain ⟨hP, hD⟩ := va_join (wr := [(h, .inr (0, [.null, .null, .null, .null]))]) hP hD [1] [0] rfl rfl (by decide) (by decide) hk1 hFc hP1 hD1
  generalize H1 = H at hP hS ⊢
  have hP : va_P (dC, dI) vwCl [(h, .inr (0, [.null, .null, .null, .null])), (v 0, .inr (1, [.ref (v 1), .ref (v 2), .ref (v 3), .int (ji_n ((0 : Nat) : Int))])), (v 1, .inl (cI, 50, .inl (fun _ => (0 : Int32)))), (v 2, .inl (cI, 50, .inl (fun _ => (0 : Int32)))), (v 3, .inl (cI, 50, .inl (fun _ => (0 : Int32))))] H := hP
  have hD : va_D A9 [(h, .inr (0, [.null, .null, .null, .null])), (v 0, .inr (1, [.ref (v 1), .ref (v 2), .ref (v 3), .int (ji_n ((0 : Nat) : Int))])), (v 1, .inl (cI, 50, .inl (fun _ => (0 : Int32)))), (v 2, .inl (cI, 50, .inl (fun _ => (0 : Int32)))), (v 3, .inl (cI, 50, .inl (fun _ => (0 : Int32))))] := hD
  refine W.widen (k := 4) (n := 154) (by omega) (by omega) ?_
  refine va_putF (D := (dC, dI)) (ci := 0) (v := .ref (v 0)) (ty := (.object "SpanDesk$Program")) (C := RX0) (T := TX0) (N := 4) hx hb hts hinX0 tyX0 tyX0_ok nmX0 hown hK hP hD hS 0 rfl rfl 0 (by decide) hfl12 (fun _ h9 => h9) rfl hin rfl (by decide +kernel) rfl rfl (Nat.le_of_ble_eq_true rfl) dX0_init_12 (fun H locs hP hD hS => ?_)
  have hP : va_P (dC, dI) vwCl [(h, .inr (0, [.ref (v 0), .null, .null, .null])), (v 0, .inr (1, [.ref (v 1), .ref (v 2), .ref (v 3), .int (ji_n ((0 : Nat) : Int))])), (v 1, .inl (cI, 50, .inl (fun _ => (0 : Int32)))), (v 2, .inl (cI, 50, .inl (fun _ => (0 : Int32)))), (v 3, .inl (cI, 50, .inl (fun _ => (0 : Int32))))] H := hP
  have hD : va_D A9 [(h, .inr (0, [.ref (v 0), .null, .null, .null])), (v 0, .inr (1, [.ref (v 1), .ref (v 2), .ref (v 3), .int (ji_n ((0 : Nat) : Int))])), (v 1, .inl (cI, 50, .inl (fun _ => (0 : Int32)))), (v 2, .inl (cI, 50, .inl (fun _ => (0 : Int32)))), (v 3, .inl (cI, 50, .inl (fun _ => (0 : Int32))))] := hD
  refine lv_aload_n hx hb dX0_init_15 rfl (lv_at hl 0 rfl) ?_
  refine jn_bipush hx hb dX0_init_16 (by decide) ?_
  refine na_new hx hb hac hK hP hD hS hA 51 rfl (by decide) (by rw [hR]; exact Nat.le_of_ble_eq_true rfl) (by rw [hR]; exact Nat.le_of_ble_eq_true rfl) dX0_init_18 (fun t0 H hP hD hS => ?_)
  have hP : va_P (dC, dI) vwCl [(h, .inr (0, [.ref (v 0), .null, .null, .null])), (v 0, .inr (1, [.ref (v 1), .ref (v 2), .ref (v 3), .int (ji_n ((0 : Nat) : Int))])), (v 1, .inl (cI, 50, .inl (fun _ => (0 : Int32)))), (v 2, .inl (cI, 50, .inl (fun _ => (0 : Int32)))), (v 3, .inl (cI, 50, .inl (fun _ => (0 : Int32)))), (t0, .inl (cI, 51, .inl (fun _ => (0 : Int32))))] H := hP
  have hD : va_D A9 [(h, .inr (0, [.ref (v 0), .null, .null, .null])), (v 0, .inr (1, [.ref (v 1), .ref (v 2), .ref (v 3), .int (ji_n ((0 : Nat) : Int))])), (v 1, .inl (cI, 50, .inl (fun _ => (0 : Int32)))), (v 2, .inl (cI, 50, .inl (fun _ => (0 : Int32)))), (v 3, .inl (cI, 50, .inl (fun _ => (0 : Int32)))), (t0, .inl (cI, 51, .inl (fun _ => (0 : Int32))))] := hD
  refine W.widen (k := 5) (n := 205) (by omega) (by omega) ?_
  refine va_putF (D := (dC, dI)) (ci := 0) (v := .ref t0) (ty := (.array .int)) (C := RX0) (T := TX0) (N := 4) hx hb hts hinX0 tyX0 tyX0_ok nmX0 hown hK hP hD hS 0 rfl rfl 1 (by decide) hfl18 (fun _ h9 => h9) rfl hin rfl (by decide +kernel) rfl rfl (Nat.le_of_ble_eq_true rfl) dX0_init_20 (fun H locs hP hD hS => ?_)
  have hP : va_P (dC, dI) vwCl [(h, .inr (0, [.ref (v 0), .ref t0, .null, .null])), (v 0, .inr (1, [.ref (v 1), .ref (v 2), .ref (v 3), .int (ji_n ((0 : Nat) : Int))])), (v 1, .inl (cI, 50, .inl (fun _ => (0 : Int32)))), (v 2, .inl (cI, 50, .inl (fun _ => (0 : Int32)))), (v 3, .inl (cI, 50, .inl (fun _ => (0 : Int32)))), (t0, .inl (cI, 51, .inl (fun _ => (0 : Int32))))] H := hP
  have hD : va_D A9 [(h, .inr (0, [.ref (v 0), .ref t0, .null, .null])), (v 0, .inr (1, [.ref (v 1), .ref (v 2), .ref (v 3), .int (ji_n ((0 : Nat) : Int))])), (v 1, .inl (cI, 50, .inl (fun _ => (0 : Int32)))), (v 2, .inl (cI, 50, .inl (fun _ => (0 : Int32)))), (v 3, .inl (cI, 50, .inl (fun _ => (0 : Int32)))), (t0, .inl (cI, 51, .inl (fun _ => (0 : Int32))))] := hD
  refine lv_aload_n hx hb dX0_init_23 rfl (lv_at hl 0 rfl) ?_
  refine jn_bipush hx hb dX0_init_24 (by decide) ?_
  refine na_new hx hb hac hK hP hD hS hA 50 rfl (by decide) (by rw [hR]; exact Nat.le_of_ble_eq_true rfl) (by rw [hR]; exact Nat.le_of_ble_eq_true rfl) dX0_init_26 (fun t1 H hP hD hS => ?_)
  have hP : va_P (dC, dI) vwCl [(h, .inr (0, [.ref (v 0), .ref t0, .null, .null])), (v 0, .inr (1, [.ref (v 1), .ref (v 2), .ref (v 3), .int (ji_n ((0 : Nat) : Int))])), (v 1, .inl (cI, 50, .inl (fun _ => (0 : Int32)))), (v 2, .inl (cI, 50, .inl (fun _ => (0 : Int32)))), (v 3, .inl (cI, 50, .inl (fun _ => (0 : Int32)))), (t0, .inl (cI, 51, .inl (fun _ => (0 : Int32)))), (t1, .inl (cI, 50, .inl (fun _ => (0 : Int32))))] H := hP
  have hD : va_D A9 [(h, .inr (0, [.ref (v 0), .ref t0, .null, .null])), (v 0, .inr (1, [.ref (v 1), .ref (v 2), .ref (v 3), .int (ji_n ((0 : Nat) : Int))])), (v 1, .inl (cI, 50, .inl (fun _ => (0 : Int32)))), (v 2, .inl (cI, 50, .inl (fun _ => (0 : Int32)))), (v 3, .inl (cI, 50, .inl (fun _ => (0 : Int32)))), (t0, .inl (cI, 51, .inl (fun _ => (0 : Int32)))), (t1, .inl (cI, 50, .inl (fun _ => (0 : Int32))))] := hD
  refine W.widen (k := 6) (n := 255) (by omega) (by omega) ?_
  refine va_putF (D := (dC, dI)) (ci := 0) (v := .ref t1) (ty := (.array .int)) (C := RX0) (T := TX0) (N := 4) hx hb hts hinX0 tyX0 tyX0_ok nmX0 hown hK hP hD hS 0 rfl rfl 2 (by decide) hfl22 (fun _ h9 => h9) rfl hin rfl (by decide +kernel) rfl rfl (Nat.le_of_ble_eq_true rfl) dX0_init_28 (fun H locs hP hD hS => ?_)
  have hP : va_P (dC, dI) vwCl [(h, .inr (0, [.ref (v 0), .ref t0, .ref t1, .null])), (v 0, .inr (1, [.ref (v 1), .ref (v 2), .ref (v 3), .int (ji_n ((0 : Nat) : Int))])), (v 1, .inl (cI, 50, .inl (fun _ => (0 : Int32)))), (v 2, .inl (cI, 50, .inl (fun _ => (0 : Int32)))), (v 3, .inl (cI, 50, .inl (fun _ => (0 : Int32)))), (t0, .inl (cI, 51, .inl (fun _ => (0 : Int32)))), (t1, .inl (cI, 50, .inl (fun _ => (0 : Int32))))] H := hP
  have hD : va_D A9 [(h, .inr (0, [.ref (v 0), .ref t0, .ref t1, .null])), (v 0, .inr (1, [.ref (v 1), .ref (v 2), .ref (v 3), .int (ji_n ((0 : Nat) : Int))])), (v 1, .inl (cI, 50, .inl (fun _ => (0 : Int32)))), (v 2, .inl (cI, 50, .inl (fun _ => (0 : Int32)))), (v 3, .inl (cI, 50, .inl (fun _ => (0 : Int32)))), (t0, .inl (cI, 51, .inl (fun _ => (0 : Int32)))), (t1, .inl (cI, 50, .inl (fun _ => (0 : Int32))))] := hD
  refine lv_aload_n hx hb dX0_init_31 rfl (lv_at hl 0 rfl) ?_
  refine jn_bipush hx hb dX0_init_32 (by decide) ?_
  refine na_new hx hb hac hK hP hD hS hA 16 rfl (by decide) (by rw [hR]; exact Nat.le_of_ble_eq_true rfl) (by rw [hR]; exact Nat.le_of_ble_eq_true rfl) dX0_init_34 (fun t2 H hP hD hS => ?_)
  have hP : va_P (dC, dI) vwCl [(h, .inr (0, [.ref (v 0), .ref t0, .ref t1, .null])), (v 0, .inr (1, [.ref (v 1), .ref (v 2), .ref (v 3), .int (ji_n ((0 : Nat) : Int))])), (v 1, .inl (cI, 50, .inl (fun _ => (0 : Int32)))), (v 2, .inl (cI, 50, .inl (fun _ => (0 : Int32)))), (v 3, .inl (cI, 50, .inl (fun _ => (0 : Int32)))), (t0, .inl (cI, 51, .inl (fun _ => (0 : Int32)))), (t1, .inl (cI, 50, .inl (fun _ => (0 : Int32)))), (t2, .inl (cI, 16, .inl (fun _ => (0 : Int32))))] H := hP
  have hD : va_D A9 [(h, .inr (0, [.ref (v 0), .ref t0, .ref t1, .null])), (v 0, .inr (1, [.ref (v 1), .ref (v 2), .ref (v 3), .int (ji_n ((0 : Nat) : Int))])), (v 1, .inl (cI, 50, .inl (fun _ => (0 : Int32)))), (v 2, .inl (cI, 50, .inl (fun _ => (0 : Int32)))), (v 3, .inl (cI, 50, .inl (fun _ => (0 : Int32)))), (t0, .inl (cI, 51, .inl (fun _ => (0 : Int32)))), (t1, .inl (cI, 50, .inl (fun _ => (0 : Int32)))), (t2, .inl (cI, 16, .inl (fun _ => (0 : Int32))))] := hD
  refine W.widen (k := 7) (n := 271) (by omega) (by omega) ?_
  refine va_putF (D := (dC, dI)) (ci := 0) (v := .ref t2) (ty := (.array .int)) (C := RX0) (T := TX0) (N := 4) hx hb hts hinX0 tyX0 tyX0_ok nmX0 hown hK hP hD hS 0 rfl rfl 3 (by decide) hfl25 (fun _ h9 => h9) rfl hin rfl (by decide +kernel) rfl rfl (Nat.le_of_ble_eq_true rfl) dX0_init_36 (fun H locs hP hD hS => ?_)
  have hP : va_P (dC, dI) vwCl [(h, .inr (0, [.ref (v 0), .ref t0, .ref t1, .ref t2])), (v 0, .inr (1, [.ref (v 1), .ref (v 2), .ref (v 3), .int (ji_n ((0 : Nat) : Int))])), (v 1, .inl (cI, 50, .inl (fun _ => (0 : Int32)))), (v 2, .inl (cI, 50, .inl (fun _ => (0 : Int32)))), (v 3, .inl (cI, 50, .inl (fun _ => (0 : Int32)))), (t0, .inl (cI, 51, .inl (fun _ => (0 : Int32)))), (t1, .inl (cI, 50, .inl (fun _ => (0 : Int32)))), (t2, .inl (cI, 16, .inl (fun _ => (0 : Int32))))] H := hP
  have hD : va_D A9 [(h, .inr (0, [.ref (v 0), .ref t0, .ref t1, .ref t2])), (v 0, .inr (1, [.ref (v 1), .ref (v 2), .ref (v 3), .int (ji_n ((0 : Nat) : Int))])), (v 1, .inl (cI, 50, .inl (fun _ => (0 : Int32)))), (v 2, .inl (cI, 50, .inl (fun _ => (0 : Int32)))), (v 3, .inl (cI, 50, .inl (fun _ => (0 : Int32)))), (t0, .inl (cI, 51, .inl (fun _ => (0 : Int32)))), (t1, .inl (cI, 50, .inl (fun _ => (0 : Int32)))), (t2, .inl (cI, 16, .inl (fun _ => (0 : Int32))))] := hD
  refine lv_aload_n hx hb dX0_init_39 rfl (lv_at hl 0 rfl) ?_
  refine va_get (ci := 0) (C := RX0) (T := TX0) (N := 4) hx hb hts hinX0 hown hK hP 0 rfl rfl 3 (by decide) hfl25 (fun _ h9 => h9) rfl dX0_init_40 ?_
  refine jn_iconst hx hb dX0_init_43 ?_
  have hFc := va_free (wc := [(t2, .inl (cI, 16, .inl (fun _ => (0 : Int32))))]) hD hS hA [7] rfl
  refine va_callv (va_runS (As := [.ref t2, .int (ji_n (-1))]) (rest := []) ⟨hx, hb, hml, hown, hts⟩ (ct_fill l H.size dC dI cI t2 16 (fun _ => (0 : Int32)) (-1) (by decide)) (va_cwS 2 hts (ub_S tm_54 tm_55 tm_4 tm_56) rfl rfl rfl (by decide +kernel) (by rw [hR]; exact ⟨Nat.le_of_ble_eq_true rfl, Nat.le_of_ble_eq_true rfl⟩)) (ps_wr hN (hP.sub [7] rfl) (hD.sub [7] (by decide) rfl)) rfl rfl hl.1 rfl (lv_room (Nat.le_of_ble_eq_true rfl)) dX0_init_44 (by rw [hR]; exact ⟨Nat.le_of_ble_eq_true rfl, Nat.le_of_ble_eq_true rfl⟩)) hS (fun q _ h => hFc q h) hFc (fun u9 t9 H1 locs ht hvm hw hB hz1 hk1 hS => ?_)
  obtain ⟨vl, hP1, hv1⟩ := hB
  rw [ht] at hP1
  obtain ⟨hP, hD⟩ := va_join (wr := [(h, .inr (0, [.ref (v 0), .ref t0, .ref t1, .ref t2])), (v 0, .inr (1, [.ref (v 1), .ref (v 2), .ref (v 3), .int (ji_n ((0 : Nat) : Int))])), (v 1, .inl (cI, 50, .inl (fun _ => (0 : Int32)))), (v 2, .inl (cI, 50, .inl (fun _ => (0 : Int32)))), (v 3, .inl (cI, 50, .inl (fun _ => (0 : Int32)))), (t0, .inl (cI, 51, .inl (fun _ => (0 : Int32)))), (t1, .inl (cI, 50, .inl (fun _ => (0 : Int32))))]) hP hD [7] [0, 1, 2, 3, 4, 5, 6] rfl rfl (by decide) (by decide) hk1 hFc hP1 (va_D_ad (hD.sub (ws' := [(t2, .inl (cI, 16, .inl (fun _ => (0 : Int32))))]) [7] (by decide) rfl).self rfl)
  generalize H1 = H at hP hS ⊢
  have hP := hP.sub (ws' := wo_A (fun i => [h, t0, t1, t2, v 0, v 1, v 2, v 3].getD i 0) cI 0 (fun _ => (0 : Int32)) (fun _ => (0 : Int32)) (fun _ => (0 : Int32)) (fun _ => (0 : Int32)) (fun _ => (0 : Int32)) vl) [0, 5, 6, 7, 1, 2, 3, 4] rfl
  have hD := hD.sub (ws' := wo_A (fun i => [h, t0, t1, t2, v 0, v 1, v 2, v 3].getD i 0) cI 0 (fun _ => (0 : Int32)) (fun _ => (0 : Int32)) (fun _ => (0 : Int32)) (fun _ => (0 : Int32)) (fun _ => (0 : Int32)) vl) [0, 5, 6, 7, 1, 2, 3, 4] (by decide) rfl
  exact hend _ _ _ _ dX0_init_47 ⟨_, vl, rfl, hP, hD, hv1⟩ hS

set_option maxHeartbeats 4000000 in
set_option maxRecDepth 100000 in
theorem cc_Desk (l : Launch) (size_ : Nat) (dC : Nat → ClassId) (dI : Nat → Nat → Nat) (cI : ClassId) (h : Nat) : Met l yX2_init wsX2_init { frames := 3, cells := 12, slots := 429, locals := 52 } (va_Pc [.ref h] (wr_B (dC, dI) vwCl [(h, .inr (2, [.null, .null]))] size_ (kn_K dC dI cI))) (va_Qv (S := Unit) (fun _ => True) (fun _ t => (fun (A9 : Nat → Prop) (H : Heap) => ∃ (u v w : Nat → Nat) (vl : Nat → Int32), u 0 = h ∧ va_P (dC, dI) vwCl (wo_D u v w cI 0 (fun _ => (0 : Int32)) (fun _ => (0 : Int32)) (fun _ => (0 : Int32)) 0 (fun _ => (0 : Int32)) (fun _ => (0 : Int32)) (fun _ => (0 : Int32)) (fun _ => (0 : Int32)) (fun _ => (0 : Int32)) vl) H ∧ va_D A9 (wo_D u v w cI 0 (fun _ => (0 : Int32)) (fun _ => (0 : Int32)) (fun _ => (0 : Int32)) 0 (fun _ => (0 : Int32)) (fun _ => (0 : Int32)) (fun _ => (0 : Int32)) (fun _ => (0 : Int32)) (fun _ => (0 : Int32)) vl) ∧ ∀ j, j < 16 → vl j = ji_n (-1)) (va_A [(h, .inr (2, [.null, .null]))] size_) t.heap) (va_A [(h, .inr (2, [.null, .null]))] size_)) 12 429 (va_A [(h, .inr (2, [.null, .null]))] size_) := by
  refine st_cv (P := fun (A9 : Nat → Prop) (H : Heap) => ∃ (u v w : Nat → Nat) (vl : Nat → Int32), u 0 = h ∧ va_P (dC, dI) vwCl (wo_D u v w cI 0 (fun _ => (0 : Int32)) (fun _ => (0 : Int32)) (fun _ => (0 : Int32)) 0 (fun _ => (0 : Int32)) (fun _ => (0 : Int32)) (fun _ => (0 : Int32)) (fun _ => (0 : Int32)) (fun _ => (0 : Int32)) vl) H ∧ va_D A9 (wo_D u v w cI 0 (fun _ => (0 : Int32)) (fun _ => (0 : Int32)) (fun _ => (0 : Int32)) 0 (fun _ => (0 : Int32)) (fun _ => (0 : Int32)) (fun _ => (0 : Int32)) (fun _ => (0 : Int32)) (fun _ => (0 : Int32)) vl) ∧ ∀ j, j < 16 → vl j = ji_n (-1)) (cc := cX2_init) (maxL := 1) (by decide) rfl (Nat.le_of_ble_eq_true rfl) (lv := [(0, .ref h)]) rfl ?_
  intro p e s m args below meth c R Q ls A9 hx hb hts hown hml hR hin hP hD hA hS hN hl hend
  have hK := hN.1
  have hoi := (hts _ (List.mem_cons_of_mem _ tm_18))
  have hoj := (hts _ (List.mem_cons_of_mem _ tm_19))
  have hok := (hts _ (List.mem_cons_of_mem _ tm_20))
  have hinX1 : ∀ w ∈ u_ws RX1 TX1 4, w ∈ wsX2_init := fun w h => List.mem_cons_of_mem _ (inX1 w h)
  have hinX2 : ∀ w ∈ u_ws RX2 TX2 2, w ∈ wsX2_init := fun w h => List.mem_cons_of_mem _ (inX2 w h)
  have hfl10 := (hts _ (List.mem_cons_of_mem _ tm_74))
  have hinX0 : ∀ w ∈ u_ws RX0 TX0 4, w ∈ wsX2_init := fun w h => List.mem_cons_of_mem _ (inX0 w h)
  have hfl19 := (hts _ (List.mem_cons_of_mem _ tm_75))
  refine lv_aload_n hx hb dX2_init_0 rfl (lv_at hl 0 rfl) ?_
  refine W.objInit hx hb hown hoi hoj hok rfl (by rw [hml]; exact hl.1) rfl dX2_init_1 (by rw [hR]; exact Nat.le_of_ble_eq_true rfl) (by rw [hR]; exact Nat.le_of_ble_eq_true rfl) ?_
  refine W.eq (g2 := F0 m 4 ls []) rfl ?_
  refine lv_aload_n hx hb dX2_init_4 rfl (lv_at hl 0 rfl) ?_
  refine va_new (ci := 1) (fs := [.null, .null, .null, .int 0]) (C := RX1) (T := TX1) (N := 4) hx hb hts hinX1 tyX1 tyX1_ok hown (hts _ (List.mem_cons_of_mem _ tm_21)) (hts _ (List.mem_cons_of_mem _ tm_22)) (hts _ (List.mem_cons_of_mem _ tm_2)) hK hP hD hS hA rfl (fun j hj => by rcases (show j = 0 ∨ j = 1 ∨ j = 2 ∨ j = 3 by omega) with rfl | rfl | rfl | rfl <;> rfl) (by rw [hR]; exact Nat.le_of_ble_eq_true rfl) (by rw [hR]; exact Nat.le_of_ble_eq_true rfl) dX2_init_5 (fun q5 H hP hD hS => ?_)
  have hP : va_P (dC, dI) vwCl [(h, .inr (2, [.null, .null])), (q5, .inr (1, [.null, .null, .null, .int 0]))] H := hP
  have hD : va_D A9 [(h, .inr (2, [.null, .null])), (q5, .inr (1, [.null, .null, .null, .int 0]))] := hD
  refine W.widen (k := 1) (n := 4) (by omega) (by omega) ?_
  refine lv_dup hx hb dX2_init_8 rfl ?_
  have hFc := va_free (wc := [(q5, .inr (1, [.null, .null, .null, .int 0]))]) hD hS hA [1] rfl
  refine va_callv (va_runI (As := []) (rest := [.ref q5, .ref h]) ⟨hx, hb, hml, hown, hts⟩ (cc_Program l H.size dC dI cI q5) (cwI 0 hts (ub_I tm_25) rfl rfl rfl (hts _ (List.mem_cons_of_mem _ tm_2)) (hts _ (List.mem_cons_of_mem _ tm_23)) (hts _ (List.mem_cons_of_mem _ tm_24)) rfl (by decide +kernel) (by rw [hR]; exact ⟨Nat.le_of_ble_eq_true rfl, Nat.le_of_ble_eq_true rfl⟩)) (ps_wr hN (hP.sub [1] rfl) (hD.sub [1] (by decide) rfl)) rfl rfl hl.1 rfl (lv_room (Nat.le_of_ble_eq_true rfl)) dX2_init_9 (by rw [hR]; exact ⟨Nat.le_of_ble_eq_true rfl, Nat.le_of_ble_eq_true rfl⟩)) hS (fun q _ h => hFc q h) hFc (fun u9 t9 H1 locs ht hvm hw hB hz1 hk1 hS => ?_)
  obtain ⟨v, hv0, hP1, hD1⟩ := hB
  subst hv0
  rw [ht] at hP1
  obtain ⟨hP, hD⟩ := va_join (wr := [(h, .inr (2, [.null, .null]))]) hP hD [1] [0] rfl rfl (by decide) (by decide) hk1 hFc hP1 hD1
  generalize H1 = H at hP hS ⊢
  have hP : va_P (dC, dI) vwCl [(h, .inr (2, [.null, .null])), (v 0, .inr (1, [.ref (v 1), .ref (v 2), .ref (v 3), .int (ji_n ((0 : Nat) : Int))])), (v 1, .inl (cI, 50, .inl (fun _ => (0 : Int32)))), (v 2, .inl (cI, 50, .inl (fun _ => (0 : Int32)))), (v 3, .inl (cI, 50, .inl (fun _ => (0 : Int32))))] H := hP
  have hD : va_D A9 [(h, .inr (2, [.null, .null])), (v 0, .inr (1, [.ref (v 1), .ref (v 2), .ref (v 3), .int (ji_n ((0 : Nat) : Int))])), (v 1, .inl (cI, 50, .inl (fun _ => (0 : Int32)))), (v 2, .inl (cI, 50, .inl (fun _ => (0 : Int32)))), (v 3, .inl (cI, 50, .inl (fun _ => (0 : Int32))))] := hD
  refine W.widen (k := 4) (n := 154) (by omega) (by omega) ?_
  refine va_putF (D := (dC, dI)) (ci := 2) (v := .ref (v 0)) (ty := (.object "SpanDesk$Program")) (C := RX2) (T := TX2) (N := 2) hx hb hts hinX2 tyX2 tyX2_ok nmX2 hown hK hP hD hS 0 rfl rfl 0 (by decide) hfl10 (fun _ h9 => h9) rfl hin rfl (by decide +kernel) rfl rfl (Nat.le_of_ble_eq_true rfl) dX2_init_12 (fun H locs hP hD hS => ?_)
  have hP : va_P (dC, dI) vwCl [(h, .inr (2, [.ref (v 0), .null])), (v 0, .inr (1, [.ref (v 1), .ref (v 2), .ref (v 3), .int (ji_n ((0 : Nat) : Int))])), (v 1, .inl (cI, 50, .inl (fun _ => (0 : Int32)))), (v 2, .inl (cI, 50, .inl (fun _ => (0 : Int32)))), (v 3, .inl (cI, 50, .inl (fun _ => (0 : Int32))))] H := hP
  have hD : va_D A9 [(h, .inr (2, [.ref (v 0), .null])), (v 0, .inr (1, [.ref (v 1), .ref (v 2), .ref (v 3), .int (ji_n ((0 : Nat) : Int))])), (v 1, .inl (cI, 50, .inl (fun _ => (0 : Int32)))), (v 2, .inl (cI, 50, .inl (fun _ => (0 : Int32)))), (v 3, .inl (cI, 50, .inl (fun _ => (0 : Int32))))] := hD
  refine lv_aload_n hx hb dX2_init_15 rfl (lv_at hl 0 rfl) ?_
  refine va_new (ci := 0) (fs := [.null, .null, .null, .null]) (C := RX0) (T := TX0) (N := 4) hx hb hts hinX0 tyX0 tyX0_ok hown (hts _ (List.mem_cons_of_mem _ tm_46)) (hts _ (List.mem_cons_of_mem _ tm_47)) (hts _ (List.mem_cons_of_mem _ tm_3)) hK hP hD hS hA rfl (fun j hj => by rcases (show j = 0 ∨ j = 1 ∨ j = 2 ∨ j = 3 by omega) with rfl | rfl | rfl | rfl <;> rfl) (by rw [hR]; exact Nat.le_of_ble_eq_true rfl) (by rw [hR]; exact Nat.le_of_ble_eq_true rfl) dX2_init_16 (fun q16 H hP hD hS => ?_)
  have hP : va_P (dC, dI) vwCl [(h, .inr (2, [.ref (v 0), .null])), (v 0, .inr (1, [.ref (v 1), .ref (v 2), .ref (v 3), .int (ji_n ((0 : Nat) : Int))])), (v 1, .inl (cI, 50, .inl (fun _ => (0 : Int32)))), (v 2, .inl (cI, 50, .inl (fun _ => (0 : Int32)))), (v 3, .inl (cI, 50, .inl (fun _ => (0 : Int32)))), (q16, .inr (0, [.null, .null, .null, .null]))] H := hP
  have hD : va_D A9 [(h, .inr (2, [.ref (v 0), .null])), (v 0, .inr (1, [.ref (v 1), .ref (v 2), .ref (v 3), .int (ji_n ((0 : Nat) : Int))])), (v 1, .inl (cI, 50, .inl (fun _ => (0 : Int32)))), (v 2, .inl (cI, 50, .inl (fun _ => (0 : Int32)))), (v 3, .inl (cI, 50, .inl (fun _ => (0 : Int32)))), (q16, .inr (0, [.null, .null, .null, .null]))] := hD
  refine W.widen (k := 5) (n := 158) (by omega) (by omega) ?_
  refine lv_dup hx hb dX2_init_19 rfl ?_
  have hFc := va_free (wc := [(q16, .inr (0, [.null, .null, .null, .null]))]) hD hS hA [5] rfl
  refine va_callv (va_runI (As := []) (rest := [.ref q16, .ref h]) ⟨hx, hb, hml, hown, hts⟩ (cc_Assembly l H.size dC dI cI q16) (cwI 0 hts (ub_I tm_50) rfl rfl rfl (hts _ (List.mem_cons_of_mem _ tm_3)) (hts _ (List.mem_cons_of_mem _ tm_48)) (hts _ (List.mem_cons_of_mem _ tm_49)) rfl (by decide +kernel) (by rw [hR]; exact ⟨Nat.le_of_ble_eq_true rfl, Nat.le_of_ble_eq_true rfl⟩)) (ps_wr hN (hP.sub [5] rfl) (hD.sub [5] (by decide) rfl)) rfl rfl hl.1 rfl (lv_room (Nat.le_of_ble_eq_true rfl)) dX2_init_20 (by rw [hR]; exact ⟨Nat.le_of_ble_eq_true rfl, Nat.le_of_ble_eq_true rfl⟩)) hS (fun q _ h => hFc q h) hFc (fun u9 t9 H1 locs ht hvm hw hB hz1 hk1 hS => ?_)
  obtain ⟨w, vl, hv0, hP1, hD1, hv1⟩ := hB
  subst hv0
  rw [ht] at hP1
  obtain ⟨hP, hD⟩ := va_join (wr := [(h, .inr (2, [.ref (v 0), .null])), (v 0, .inr (1, [.ref (v 1), .ref (v 2), .ref (v 3), .int (ji_n ((0 : Nat) : Int))])), (v 1, .inl (cI, 50, .inl (fun _ => (0 : Int32)))), (v 2, .inl (cI, 50, .inl (fun _ => (0 : Int32)))), (v 3, .inl (cI, 50, .inl (fun _ => (0 : Int32))))]) hP hD [5] [0, 1, 2, 3, 4] rfl rfl (by decide) (by decide) hk1 hFc hP1 hD1
  generalize H1 = H at hP hS ⊢
  have hP : va_P (dC, dI) vwCl [(h, .inr (2, [.ref (v 0), .null])), (v 0, .inr (1, [.ref (v 1), .ref (v 2), .ref (v 3), .int (ji_n ((0 : Nat) : Int))])), (v 1, .inl (cI, 50, .inl (fun _ => (0 : Int32)))), (v 2, .inl (cI, 50, .inl (fun _ => (0 : Int32)))), (v 3, .inl (cI, 50, .inl (fun _ => (0 : Int32)))), (w 0, .inr (0, [.ref (w 4), .ref (w 1), .ref (w 2), .ref (w 3)])), (w 1, .inl (cI, 51, .inl (fun _ => (0 : Int32)))), (w 2, .inl (cI, 50, .inl (fun _ => (0 : Int32)))), (w 3, .inl (cI, 16, .inl vl)), (w 4, .inr (1, [.ref (w 5), .ref (w 6), .ref (w 7), .int (ji_n ((0 : Nat) : Int))])), (w 5, .inl (cI, 50, .inl (fun _ => (0 : Int32)))), (w 6, .inl (cI, 50, .inl (fun _ => (0 : Int32)))), (w 7, .inl (cI, 50, .inl (fun _ => (0 : Int32))))] H := hP
  have hD : va_D A9 [(h, .inr (2, [.ref (v 0), .null])), (v 0, .inr (1, [.ref (v 1), .ref (v 2), .ref (v 3), .int (ji_n ((0 : Nat) : Int))])), (v 1, .inl (cI, 50, .inl (fun _ => (0 : Int32)))), (v 2, .inl (cI, 50, .inl (fun _ => (0 : Int32)))), (v 3, .inl (cI, 50, .inl (fun _ => (0 : Int32)))), (w 0, .inr (0, [.ref (w 4), .ref (w 1), .ref (w 2), .ref (w 3)])), (w 1, .inl (cI, 51, .inl (fun _ => (0 : Int32)))), (w 2, .inl (cI, 50, .inl (fun _ => (0 : Int32)))), (w 3, .inl (cI, 16, .inl vl)), (w 4, .inr (1, [.ref (w 5), .ref (w 6), .ref (w 7), .int (ji_n ((0 : Nat) : Int))])), (w 5, .inl (cI, 50, .inl (fun _ => (0 : Int32)))), (w 6, .inl (cI, 50, .inl (fun _ => (0 : Int32)))), (w 7, .inl (cI, 50, .inl (fun _ => (0 : Int32))))] := hD
  refine W.widen (k := 12) (n := 429) (by omega) (by omega) ?_
  refine va_putF (D := (dC, dI)) (ci := 2) (v := .ref (w 0)) (ty := (.object "SpanDesk$Assembly")) (C := RX2) (T := TX2) (N := 2) hx hb hts hinX2 tyX2 tyX2_ok nmX2 hown hK hP hD hS 0 rfl rfl 1 (by decide) hfl19 (fun _ h9 => h9) rfl hin rfl (by decide +kernel) rfl rfl (Nat.le_of_ble_eq_true rfl) dX2_init_23 (fun H locs hP hD hS => ?_)
  have hP : va_P (dC, dI) vwCl [(h, .inr (2, [.ref (v 0), .ref (w 0)])), (v 0, .inr (1, [.ref (v 1), .ref (v 2), .ref (v 3), .int (ji_n ((0 : Nat) : Int))])), (v 1, .inl (cI, 50, .inl (fun _ => (0 : Int32)))), (v 2, .inl (cI, 50, .inl (fun _ => (0 : Int32)))), (v 3, .inl (cI, 50, .inl (fun _ => (0 : Int32)))), (w 0, .inr (0, [.ref (w 4), .ref (w 1), .ref (w 2), .ref (w 3)])), (w 1, .inl (cI, 51, .inl (fun _ => (0 : Int32)))), (w 2, .inl (cI, 50, .inl (fun _ => (0 : Int32)))), (w 3, .inl (cI, 16, .inl vl)), (w 4, .inr (1, [.ref (w 5), .ref (w 6), .ref (w 7), .int (ji_n ((0 : Nat) : Int))])), (w 5, .inl (cI, 50, .inl (fun _ => (0 : Int32)))), (w 6, .inl (cI, 50, .inl (fun _ => (0 : Int32)))), (w 7, .inl (cI, 50, .inl (fun _ => (0 : Int32))))] H := hP
  have hD : va_D A9 [(h, .inr (2, [.ref (v 0), .ref (w 0)])), (v 0, .inr (1, [.ref (v 1), .ref (v 2), .ref (v 3), .int (ji_n ((0 : Nat) : Int))])), (v 1, .inl (cI, 50, .inl (fun _ => (0 : Int32)))), (v 2, .inl (cI, 50, .inl (fun _ => (0 : Int32)))), (v 3, .inl (cI, 50, .inl (fun _ => (0 : Int32)))), (w 0, .inr (0, [.ref (w 4), .ref (w 1), .ref (w 2), .ref (w 3)])), (w 1, .inl (cI, 51, .inl (fun _ => (0 : Int32)))), (w 2, .inl (cI, 50, .inl (fun _ => (0 : Int32)))), (w 3, .inl (cI, 16, .inl vl)), (w 4, .inr (1, [.ref (w 5), .ref (w 6), .ref (w 7), .int (ji_n ((0 : Nat) : Int))])), (w 5, .inl (cI, 50, .inl (fun _ => (0 : Int32)))), (w 6, .inl (cI, 50, .inl (fun _ => (0 : Int32)))), (w 7, .inl (cI, 50, .inl (fun _ => (0 : Int32))))] := hD
  exact hend _ _ _ _ dX2_init_26 ⟨fun _ => h, v, w, vl, rfl, hP, hD, hv1⟩ hS
end
section
set_option maxHeartbeats 4000000 in
set_option maxRecDepth 100000 in
theorem cd_assemble (l : Launch) (hlt : l.stackTraces = false) (size_ : Nat) (dC : Nat → ClassId) (dI : Nat → Nat → Nat) (cI : ClassId) (u v w : Nat → Nat) (nP : Nat) (f0 f1 f2 : Nat → Int32) (n : Nat) (g0 g1 g2 st fm vl : Nat → Int32) (K A B : Nat → Int) (hn : nP ≤ 50) (hg : sp_gp K A B nP) (hF : as_F nP K A B f0 f1 f2) : vx_Met l yX2_assemble wsX2_assemble { frames := 6, cells := 1, slots := 6, locals := 82 } (va_Pc [.ref (u 0)] (wr_B (dC, dI) vwCl (wo_D u v w cI nP f0 f1 f2 n g0 g1 g2 st fm vl) size_ (fun U => kn_K dC dI cI U ∧ ex_K (va_A (wo_D u v w cI nP f0 f1 f2 n g0 g1 g2 st fm vl) size_) U U.heap))) (wr_Qi (fun r H => ¬ sp_tw nP K A ∧ ¬ sp_un nP K A ∧ ∃ (z : Nat → Int) (q0 q1 q2 q3 q4 q5 : Nat → Int32), r = ji_n (sp_pz z nP) ∧ sp_LC nP K A B z ∧ as_F nP K A B q0 q1 q2 ∧ as_S nP K A z q3 q4 q5 ∧ va_P (dC, dI) vwCl (wo_D u v w cI nP f0 f1 f2 nP q0 q1 q2 q3 q4 q5) H) (va_A (wo_D u v w cI nP f0 f1 f2 n g0 g1 g2 st fm vl) size_)) (xr_X (fun E H => ((E = "java/lang/IllegalArgumentException" ∧ sp_tw nP K A) ∨ (E = "java/lang/IllegalStateException" ∧ ¬ sp_tw nP K A ∧ sp_un nP K A)) ∧ va_P (dC, dI) vwCl (wo_D u v w cI nP f0 f1 f2 n g0 g1 g2 st fm vl) H) (va_A (wo_D u v w cI nP f0 f1 f2 n g0 g1 g2 st fm vl) size_)) 1 6 (va_A (wo_D u v w cI nP f0 f1 f2 n g0 g1 g2 st fm vl) size_) := by
  refine st_xi (B := fun A9 U => kn_K dC dI cI U ∧ ex_K A9 U U.heap) (cc := cX2_assemble) (maxL := 1) (ret := some .int) (ty := .int) (by decide) rfl rfl (Nat.le_of_ble_eq_true rfl) (lv := [(0, .ref (u 0))]) rfl (fun v H h => rfl) hlt rfl rfl (fun _ _ h => h.2) ?_
  intro p e s m args below meth c R Q ls A9 hx hb hts hown hml hR hP hD hA hS hNE hl hend hthr
  obtain ⟨hN, hE⟩ := hNE
  have hK := hN.1
  have hinX2 : ∀ w ∈ u_ws RX2 TX2 2, w ∈ wsX2_assemble := fun w h => List.mem_cons_of_mem _ (inX2 w h)
  have hfl10 := (hts _ (List.mem_cons_of_mem _ tm_74))
  have hfl19 := (hts _ (List.mem_cons_of_mem _ tm_75))
  refine lv_aload_n hx hb dX2_assemble_0 rfl (lv_at hl 0 rfl) ?_
  refine va_get (ci := 2) (C := RX2) (T := TX2) (N := 2) hx hb hts hinX2 hown hK hP 0 rfl rfl 0 (by decide) hfl10 (fun _ h9 => h9) rfl dX2_assemble_1 ?_
  refine cl_rp (va_runV (As := []) (rest := []) ⟨hx, hb, hml, hown, hts⟩ (ct_definesTwice l dC dI cI v nP f0 f1 f2 K A B hn hg hF.1 hF.2.1) (cwV 0 hts (ub_V tm_211 tm_212 tm_213 tm_2 tm_214) rfl rfl rfl (by decide +kernel) (by rw [hR]; exact ⟨Nat.le_of_ble_eq_true rfl, Nat.le_of_ble_eq_true rfl⟩)) (pv_rd (q0 := 0) (ci := 1) hN (hP.sub [1, 2, 3, 4] rfl) rfl rfl) rfl rfl hl.1 rfl (lv_room (Nat.le_of_ble_eq_true rfl)) dX2_assemble_4 ⟨Nat.zero_le _, Nat.zero_le _⟩) (fun r9 hr9 => ?_)
  rcases hr9 with ⟨rfl, htw⟩ | ⟨rfl, htw⟩
  · skip
    refine jn_if_eq hx hb dX2_assemble_7 (tgt := 20) rfl (by unfold ji_r; omega) (fun hc1 => ?_) (fun hc1 => ?_)
    · skip
      exfalso; omega
    · skip
      obtain ⟨sa, hsa⟩ := hE.2.2.2.2.2.2.2.2.1
      exact hthr 10 ls _ _ "java/lang/IllegalArgumentException" "a label is defined twice" 43 45 47 sa (by decide +kernel) (hts _ (List.mem_cons_of_mem _ tm_219)) (hts _ (List.mem_cons_of_mem _ tm_10)) hsa (ex_all (fun w h => hts w (List.mem_cons_of_mem _ h)) hE xw_1 xv_1 hE.2.2.1) xo_1 hl.1 dX2_assemble_10 dX2_assemble_13 dX2_assemble_14 dX2_assemble_16 dX2_assemble_19 (by rw [hR]; exact Nat.le_of_ble_eq_true rfl) (by rw [hR]; exact Nat.le_of_ble_eq_true rfl) hS (fun H1 h1 h2 => ⟨Or.inl ⟨rfl, htw⟩, hP.kept (fun k q hk => h2 q.1 ((hP k q hk).lt))⟩)
  · skip
    refine jn_if_eq hx hb dX2_assemble_7 (tgt := 20) rfl (by unfold ji_r; omega) (fun hc2 => ?_) (fun hc2 => ?_)
    · skip
      refine lv_aload_n hx hb dX2_assemble_20 rfl (lv_at hl 0 rfl) ?_
      refine va_get (ci := 2) (C := RX2) (T := TX2) (N := 2) hx hb hts hinX2 hown hK hP 0 rfl rfl 0 (by decide) hfl10 (fun _ h9 => h9) rfl dX2_assemble_21 ?_
      refine cl_rp (va_runV (As := []) (rest := []) ⟨hx, hb, hml, hown, hts⟩ (ct_namesUndefined l dC dI cI v nP f0 f1 f2 K A B hn hg hF.1 hF.2.1) (cwV 0 hts (ub_V tm_287 tm_288 tm_289 tm_2 tm_290) rfl rfl rfl (by decide +kernel) (by rw [hR]; exact ⟨Nat.le_of_ble_eq_true rfl, Nat.le_of_ble_eq_true rfl⟩)) (pv_rd (q0 := 0) (ci := 1) hN (hP.sub [1, 2, 3, 4] rfl) rfl rfl) rfl rfl hl.1 rfl (lv_room (Nat.le_of_ble_eq_true rfl)) dX2_assemble_24 ⟨Nat.zero_le _, Nat.zero_le _⟩) (fun r9 hr9 => ?_)
      rcases hr9 with ⟨rfl, hun⟩ | ⟨rfl, hun⟩
      · skip
        refine jn_if_eq hx hb dX2_assemble_27 (tgt := 40) rfl (by unfold ji_r; omega) (fun hc3 => ?_) (fun hc3 => ?_)
        · skip
          exfalso; omega
        · skip
          obtain ⟨sa, hsa⟩ := hE.2.2.2.2.2.2.2.2.2.1
          exact hthr 30 ls _ _ "java/lang/IllegalStateException" "a label that is named is not defined" 53 55 57 sa (by decide +kernel) (hts _ (List.mem_cons_of_mem _ tm_291)) (hts _ (List.mem_cons_of_mem _ tm_11)) hsa (ex_all (fun w h => hts w (List.mem_cons_of_mem _ h)) hE xw_2 xv_2 hE.2.2.2.1) xo_2 hl.1 dX2_assemble_30 dX2_assemble_33 dX2_assemble_34 dX2_assemble_36 dX2_assemble_39 (by rw [hR]; exact Nat.le_of_ble_eq_true rfl) (by rw [hR]; exact Nat.le_of_ble_eq_true rfl) hS (fun H1 h1 h2 => ⟨Or.inr ⟨rfl, htw, hun⟩, hP.kept (fun k q hk => h2 q.1 ((hP k q hk).lt))⟩)
      · skip
        refine jn_if_eq hx hb dX2_assemble_27 (tgt := 40) rfl (by unfold ji_r; omega) (fun hc4 => ?_) (fun hc4 => ?_)
        · skip
          have hu := sp_tw_uq hg htw
          have hd := sp_un_df hun
          refine lv_aload_n hx hb dX2_assemble_40 rfl (lv_at hl 0 rfl) ?_
          refine va_get (ci := 2) (C := RX2) (T := TX2) (N := 2) hx hb hts hinX2 hown hK hP 0 rfl rfl 1 (by decide) hfl19 (fun _ h9 => h9) rfl dX2_assemble_41 ?_
          refine lv_aload_n hx hb dX2_assemble_44 rfl (lv_at hl 0 rfl) ?_
          refine va_get (ci := 2) (C := RX2) (T := TX2) (N := 2) hx hb hts hinX2 hown hK hP 0 rfl rfl 0 (by decide) hfl10 (fun _ h9 => h9) rfl dX2_assemble_45 ?_
          refine cl_wv (wc := wo_A w cI n g0 g1 g2 st fm vl ++ wo_P v cI nP f0 f1 f2) (wr := [0].filterMap (fun i => (wo_D u v w cI nP f0 f1 f2 n g0 g1 g2 st fm vl)[i]?)) [5, 6, 7, 8, 9, 10, 11, 12, 1, 2, 3, 4] [0] rfl rfl (by decide) (by decide) (by decide) hP hD hS hA (va_runV (As := [.ref (v 0)]) (rest := []) ⟨hx, hb, hml, hown, hts⟩ (ct_make l s.heap.size dC dI cI w n g0 g1 g2 st fm vl v nP f0 f1 f2 K A B hn hg hu hd hF) (cwV 1 hts (ub_V tm_307 tm_308 tm_309 tm_3 tm_310) rfl rfl rfl (by decide +kernel) (by rw [hR]; exact ⟨Nat.le_of_ble_eq_true rfl, Nat.le_of_ble_eq_true rfl⟩)) (pv_wr (q0 := 0) (ci := 0) hN (hP.sub [5, 6, 7, 8, 9, 10, 11, 12, 1, 2, 3, 4] rfl) (hD.sub [5, 6, 7, 8, 9, 10, 11, 12, 1, 2, 3, 4] (by decide) rfl) rfl rfl) rfl rfl hl.1 rfl (lv_room (Nat.le_of_ble_eq_true rfl)) dX2_assemble_48 ⟨Nat.zero_le _, Nat.zero_le _⟩) (fun H locs hPs hj hS => ?_)
          obtain ⟨z, q0, q1, q2, q3, q4, q5, hPs, hLC, hF2, hS2⟩ := hPs
          obtain ⟨hP, hD⟩ := hj (wo_A w cI nP q0 q1 q2 q3 q4 q5 ++ wo_P v cI nP f0 f1 f2) rfl hPs
          have hP := hP.sub (ws' := wo_D u v w cI nP f0 f1 f2 nP q0 q1 q2 q3 q4 q5) [0, 9, 10, 11, 12, 1, 2, 3, 4, 5, 6, 7, 8] rfl
          have hD := hD.sub (ws' := wo_D u v w cI nP f0 f1 f2 nP q0 q1 q2 q3 q4 q5) [0, 9, 10, 11, 12, 1, 2, 3, 4, 5, 6, 7, 8] (by decide) rfl
          have hP : va_P (dC, dI) vwCl (wo_D u v w cI nP f0 f1 f2 nP q0 q1 q2 q3 q4 q5) H := hP
          have hD : va_D A9 (wo_D u v w cI nP f0 f1 f2 nP q0 q1 q2 q3 q4 q5) := hD
          have hAS : sp_AS nP K A B z := ⟨hn, hg, hLC.1, hu⟩
          refine lv_aload_n hx hb dX2_assemble_51 rfl (lv_at hl 0 rfl) ?_
          refine va_get (ci := 2) (C := RX2) (T := TX2) (N := 2) hx hb hts hinX2 hown hK hP 0 rfl rfl 1 (by decide) hfl19 (fun _ h9 => h9) rfl dX2_assemble_52 ?_
          refine cl_rd (va_runV (As := []) (rest := []) ⟨hx, hb, hml, hown, hts⟩ (ct_size l dC dI cI w nP q0 q1 q2 q3 q4 q5 K A B z hF2 hAS hS2) (cwV 0 hts (ub_V tm_327 tm_187 tm_188 tm_3 tm_189) rfl rfl rfl (by decide +kernel) (by rw [hR]; exact ⟨Nat.le_of_ble_eq_true rfl, Nat.le_of_ble_eq_true rfl⟩)) (pv_rd (q0 := 0) (ci := 0) hN (hP.sub [5, 6, 7, 8, 9, 10, 11, 12] rfl) rfl rfl) rfl rfl hl.1 rfl (lv_room (Nat.le_of_ble_eq_true rfl)) dX2_assemble_55 ⟨Nat.zero_le _, Nat.zero_le _⟩) ?_
          exact hend _ _ _ _ _ dX2_assemble_58 ⟨htw, hun, z, q0, q1, q2, q3, q4, q5, rfl, hLC, hF2, hS2, hP⟩ hS
        · skip
          exfalso; omega
    · skip
      exfalso; omega

set_option maxHeartbeats 4000000 in
set_option maxRecDepth 100000 in
theorem cd_follow (l : Launch) (hlt : l.stackTraces = false) (size_ : Nat) (dC : Nat → ClassId) (dI : Nat → Nat → Nat) (cI : ClassId) (u v w : Nat → Nat) (nP : Nat) (f0 f1 f2 : Nat → Int32) (n : Nat) (g0 g1 g2 st fm vl : Nat → Int32) (K A B z : Nat → Int) (hF : as_F n K A B g0 g1 g2) (hAS : sp_AS n K A B z) (hS0 : as_S n K A z st fm vl) (x t : Int) (r1 : ji_r x) (ht : t = 0 ∨ t = 1) : vx_Met l yX2_follow wsX2_follow { frames := 6, cells := 1, slots := 6, locals := 113 } (va_Pc [.ref (u 0), .int (ji_n x), .int (ji_n t)] (wr_B (dC, dI) vwCl (wo_D u v w cI nP f0 f1 f2 n g0 g1 g2 st fm vl) size_ (fun U => kn_K dC dI cI U ∧ ex_K (va_A (wo_D u v w cI nP f0 f1 f2 n g0 g1 g2 st fm vl) size_) U U.heap))) (wr_Qi (fun r H => sp_os n K A B z x ≠ 0 ∧ r = ji_n (sp_nx n K A B z x t) ∧ va_P (dC, dI) vwCl (wo_D u v w cI nP f0 f1 f2 n g0 g1 g2 st fm vl) H) (va_A (wo_D u v w cI nP f0 f1 f2 n g0 g1 g2 st fm vl) size_)) (xr_X (fun E H => E = "java/lang/IndexOutOfBoundsException" ∧ sp_os n K A B z x = 0 ∧ va_P (dC, dI) vwCl (wo_D u v w cI nP f0 f1 f2 n g0 g1 g2 st fm vl) H) (va_A (wo_D u v w cI nP f0 f1 f2 n g0 g1 g2 st fm vl) size_)) 1 6 (va_A (wo_D u v w cI nP f0 f1 f2 n g0 g1 g2 st fm vl) size_) := by
  refine st_xi (B := fun A9 U => kn_K dC dI cI U ∧ ex_K A9 U U.heap) (cc := cX2_follow) (maxL := 4) (ret := some .int) (ty := .int) (by decide) rfl rfl (Nat.le_of_ble_eq_true rfl) (lv := [(0, .ref (u 0)), (1, .int (ji_n x)), (2, .int (ji_n t))]) rfl (fun v H h => rfl) hlt rfl rfl (fun _ _ h => h.2) ?_
  intro p e s m args below meth c R Q ls A9 hx hb hts hown hml hR hP hD hA hS hNE hl hend hthr
  obtain ⟨hN, hE⟩ := hNE
  have hK := hN.1
  have hinX2 : ∀ w ∈ u_ws RX2 TX2 2, w ∈ wsX2_follow := fun w h => List.mem_cons_of_mem _ (inX2 w h)
  have hfl19 := (hts _ (List.mem_cons_of_mem _ tm_75))
  have hn := hAS.1
  refine lv_aload_n hx hb dX2_follow_0 rfl (lv_at hl 0 rfl) ?_
  refine va_get (ci := 2) (C := RX2) (T := TX2) (N := 2) hx hb hts hinX2 hown hK hP 0 rfl rfl 1 (by decide) hfl19 (fun _ h9 => h9) rfl dX2_follow_1 ?_
  refine lv_iload_n hx hb dX2_follow_4 rfl (lv_at hl 1 rfl) ?_
  refine cl_rd (va_runV (As := [.int (ji_n x)]) (rest := []) ⟨hx, hb, hml, hown, hts⟩ (ct_opSize l dC dI cI w n g0 g1 g2 st fm vl K A B z hF hAS hS0 x r1) (cwV 1 hts (ub_V tm_180 tm_181 tm_182 tm_3 tm_183) rfl rfl rfl (by decide +kernel) (by rw [hR]; exact ⟨Nat.le_of_ble_eq_true rfl, Nat.le_of_ble_eq_true rfl⟩)) (pv_rd (q0 := 0) (ci := 0) hN (hP.sub [5, 6, 7, 8, 9, 10, 11, 12] rfl) rfl rfl) rfl rfl hl.1 rfl (lv_room (Nat.le_of_ble_eq_true rfl)) dX2_follow_5 ⟨Nat.zero_le _, Nat.zero_le _⟩) ?_
  have hob := sp_os_b hAS x
  have hpn := sp_AS_p hAS (Nat.le_refl n)
  have hnx := sp_nx_or n K A B z x t
  refine lv_istore_n (lv' := [(3, .int (ji_n (sp_os n K A B z x))), (0, .ref (u 0)), (1, .int (ji_n x)), (2, .int (ji_n t))]) hx hb dX2_follow_8 rfl hl (by decide) rfl (fun ls hl => ?_)
  refine lv_iload_n hx hb dX2_follow_9 rfl (lv_at hl 0 rfl) ?_
  refine jn_if_ne hx hb dX2_follow_10 (tgt := 23) rfl (by unfold ji_r; omega) (fun hc1 => ?_) (fun hc1 => ?_)
  · skip
    refine lv_iload_n hx hb dX2_follow_23 rfl (lv_at hl 3 rfl) ?_
    refine jn_if_eq hx hb dX2_follow_24 (tgt := 39) rfl (by unfold ji_r; omega) (fun hc2 => ?_) (fun hc2 => ?_)
    · skip
      refine lv_iload_n hx hb dX2_follow_39 rfl (lv_at hl 2 rfl) ?_
      refine lv_iload_n hx hb dX2_follow_40 rfl (lv_at hl 0 rfl) ?_
      refine jn_iadd hx hb dX2_follow_41 (v := x + (sp_os n K A B z x)) rfl ?_
      exact hend _ _ _ _ _ dX2_follow_42 ⟨by omega, congrArg ji_n (by omega), hP⟩ hS
    · skip
      refine lv_aload_n hx hb dX2_follow_27 rfl (lv_at hl 1 rfl) ?_
      refine va_get (ci := 2) (C := RX2) (T := TX2) (N := 2) hx hb hts hinX2 hown hK hP 0 rfl rfl 1 (by decide) hfl19 (fun _ h9 => h9) rfl dX2_follow_28 ?_
      refine lv_iload_n hx hb dX2_follow_31 rfl (lv_at hl 2 rfl) ?_
      refine lv_iload_n hx hb dX2_follow_32 rfl (lv_at hl 0 rfl) ?_
      refine cl_rd (va_runV (As := [.int (ji_n x), .int (ji_n (sp_os n K A B z x))]) (rest := []) ⟨hx, hb, hml, hown, hts⟩ (ct_target l dC dI cI w n g0 g1 g2 st fm vl K A B z hF hAS hS0 x (sp_os n K A B z x) rfl (by omega)) (cwV 2 hts (ub_V tm_198 tm_199 tm_200 tm_3 tm_201) rfl rfl rfl (by decide +kernel) (by rw [hR]; exact ⟨Nat.le_of_ble_eq_true rfl, Nat.le_of_ble_eq_true rfl⟩)) (pv_rd (q0 := 0) (ci := 0) hN (hP.sub [5, 6, 7, 8, 9, 10, 11, 12] rfl) rfl rfl) rfl rfl hl.1 rfl (lv_room (Nat.le_of_ble_eq_true rfl)) dX2_follow_33 ⟨Nat.zero_le _, Nat.zero_le _⟩) ?_
      refine lv_goto hx hb dX2_follow_36 (tgt := 42) rfl ?_
      exact hend _ _ _ _ _ dX2_follow_42 ⟨by omega, congrArg ji_n (by omega), hP⟩ hS
  · skip
    obtain ⟨sa, hsa⟩ := hE.2.2.2.2.2.2.2.2.2.2.1
    exact hthr 13 ls _ _ "java/lang/IndexOutOfBoundsException" "no whole operation is there" 95 97 99 sa (by decide +kernel) (hts _ (List.mem_cons_of_mem _ tm_336)) (hts _ (List.mem_cons_of_mem _ tm_12)) hsa (ex_all (fun w h => hts w (List.mem_cons_of_mem _ h)) hE xw_3 xv_3 hE.2.2.2.2.1) xo_3 hl.1 dX2_follow_13 dX2_follow_16 dX2_follow_17 dX2_follow_19 dX2_follow_22 (by rw [hR]; exact Nat.le_of_ble_eq_true rfl) (by rw [hR]; exact Nat.le_of_ble_eq_true rfl) hS (fun H1 h1 h2 => ⟨rfl, (by omega), hP.kept (fun k q hk => h2 q.1 ((hP k q hk).lt))⟩)
end
