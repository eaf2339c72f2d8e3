section
/-! numbers: ji_n z is the int of z; rows for instructions whose numbers are all ji_n of something -/
def ji_n (z : Int) : Int32 := Int32.ofInt z
def ji_r (z : Int) : Prop := -2147483648 ≤ z ∧ z ≤ 2147483647
theorem ji_toInt {z : Int} (h : ji_r z) : (ji_n z).toInt = z := Int32.toInt_ofInt_of_le (by have := h.1; omega) (by have := h.2; omega)
theorem ji_of (x : Int32) : ji_r x.toInt ∧ x = ji_n x.toInt := ⟨⟨by have := Int32.le_toInt x; omega, by have := Int32.toInt_lt x; omega⟩, (Int32.ofInt_toInt x).symm⟩
theorem ji_ex (x : Int32) : ∃ z : Int, ji_r z ∧ x = ji_n z := ⟨x.toInt, ji_of x⟩
theorem ji_inj {a b : Int} (ha : ji_r a) (hb : ji_r b) : ji_n a = ji_n b ↔ a = b := ⟨fun h => by have := congrArg Int32.toInt h; rwa [ji_toInt ha, ji_toInt hb] at this, fun h => by rw [h]⟩
theorem ji_lt {a b : Int} (ha : ji_r a) (hb : ji_r b) : ji_n a < ji_n b ↔ a < b := by rw [Int32.lt_iff_toInt_lt, ji_toInt ha, ji_toInt hb]
theorem ji_le {a b : Int} (ha : ji_r a) (hb : ji_r b) : ji_n a ≤ ji_n b ↔ a ≤ b := by rw [Int32.le_iff_toInt_le, ji_toInt ha, ji_toInt hb]
theorem ji_0 : (0 : Int32) = ji_n 0 := by decide
theorem ji_r0 : ji_r 0 := by unfold ji_r; omega
theorem ji_add (a b : Int) : ji_n a + ji_n b = ji_n (a + b) := (Int32.ofInt_add a b).symm
theorem ji_sub (a b : Int) : ji_n a - ji_n b = ji_n (a - b) := (Int32.ofInt_sub a b).symm
theorem ji_mul (a b : Int) : ji_n a * ji_n b = ji_n (a * b) := (Int32.ofInt_mul a b).symm
theorem ji_nI (n : Nat) : nI n = ji_n (n : Int) := (Int32.ofInt_eq_ofNat (n := n)).symm
theorem ji_clamp {n : Nat} (h : n < 2147483648) : (ji_n (n : Int)).toNatClampNeg = n := by
  rw [← ji_nI]; exact nI_clamp (by omega)
theorem ji_in {n N : Nat} (h : n < N) (hN : N < 2147483648) : vp_in (ji_n (n : Int)) N := by
  rw [← ji_nI]; exact vp_in_nI h (by omega)
section JN
variable {p : Program} {l : Launch} {e : Env} {R : Room} {s : State} {m : MethodId} {args : Array Value} {below : List Frame} {meth : Method} {c : Code} {H : Heap} {locs : List Loc} {cells slots : Nat} {Q : State → Prop}
variable {cc : ByteArray} {pc : Nat} {ls : Array Slot} {rest : List Value}
theorem jn_iconst (hexec : p.tables.exec = Jvm.exec) (hb : c.code = cc) {n : Int} (hdg : decode cc pc = .ok (.iconst n, 1)) (k : W p l e R s m args below meth c H locs cells slots Q (F0 m (pc + 1) ls (.int (ji_n n) :: rest))) : W p l e R s m args below meth c H locs cells slots Q (F0 m pc ls rest) := lv_iconst hexec hb hdg rfl k
theorem jn_bipush (hexec : p.tables.exec = Jvm.exec) (hb : c.code = cc) {n : Int} (hdg : decode cc pc = .ok (.bipush n, 2)) (hv : (Int8.ofInt n).toInt32 = ji_n n) (k : W p l e R s m args below meth c H locs cells slots Q (F0 m (pc + 2) ls (.int (ji_n n) :: rest))) : W p l e R s m args below meth c H locs cells slots Q (F0 m pc ls rest) := lv_bipush hexec hb hdg hv k
theorem jn_sipush (hexec : p.tables.exec = Jvm.exec) (hb : c.code = cc) {n : Int} (hdg : decode cc pc = .ok (.sipush n, 3)) (hv : (Int16.ofInt n).toInt32 = ji_n n) (k : W p l e R s m args below meth c H locs cells slots Q (F0 m (pc + 3) ls (.int (ji_n n) :: rest))) : W p l e R s m args below meth c H locs cells slots Q (F0 m pc ls rest) := lv_sipush hexec hb hdg hv k
theorem jn_iadd (hexec : p.tables.exec = Jvm.exec) (hb : c.code = cc) {a b v : Int} (hdg : decode cc pc = .ok (.iadd, 1)) (hv : a + b = v) (k : W p l e R s m args below meth c H locs cells slots Q (F0 m (pc + 1) ls (.int (ji_n v) :: rest))) : W p l e R s m args below meth c H locs cells slots Q (F0 m pc ls (.int (ji_n b) :: .int (ji_n a) :: rest)) := lv_iadd hexec hb hdg (by rw [ji_add, hv]; exact k)
theorem jn_isub (hexec : p.tables.exec = Jvm.exec) (hb : c.code = cc) {a b v : Int} (hdg : decode cc pc = .ok (.isub, 1)) (hv : a - b = v) (k : W p l e R s m args below meth c H locs cells slots Q (F0 m (pc + 1) ls (.int (ji_n v) :: rest))) : W p l e R s m args below meth c H locs cells slots Q (F0 m pc ls (.int (ji_n b) :: .int (ji_n a) :: rest)) := lv_isub hexec hb hdg (by rw [ji_sub, hv]; exact k)
theorem jn_imul (hexec : p.tables.exec = Jvm.exec) (hb : c.code = cc) {a b v : Int} (hdg : decode cc pc = .ok (.imul, 1)) (hv : a * b = v) (k : W p l e R s m args below meth c H locs cells slots Q (F0 m (pc + 1) ls (.int (ji_n v) :: rest))) : W p l e R s m args below meth c H locs cells slots Q (F0 m pc ls (.int (ji_n b) :: .int (ji_n a) :: rest)) := lv_imul hexec hb hdg (by rw [ji_mul, hv]; exact k)
theorem jn_top {x : Int32} {v : Int} (hv : x = ji_n v) (k : W p l e R s m args below meth c H locs cells slots Q (F0 m pc ls (.int (ji_n v) :: rest))) : W p l e R s m args below meth c H locs cells slots Q (F0 m pc ls (.int x :: rest)) := by rw [hv]; exact k
theorem jn_iinc (hexec : p.tables.exec = Jvm.exec) (hb : c.code = cc) {i nL k : Nat} {n : Int} {a v : Int} {lv lv' : List (Nat × Value)} (hdg : decode cc pc = .ok (.iinc i n, 3)) (h : lv_has ls nL lv) (hk : lv[k]? = some (i, .int (ji_n a))) (hv : a + n = v) (hn : i < nL) (hl : (i, Value.int (ji_n v)) :: lv.filter (fun q => !(q.1 == i) && !(q.1 + 1 == i && q.2.category == 2)) = lv')
    (kk : ∀ ls' : Array Slot, lv_has ls' nL lv' → W p l e R s m args below meth c H locs cells slots Q (F0 m (pc + 3) ls' rest)) : W p l e R s m args below meth c H locs cells slots Q (F0 m pc ls rest) := lv_iinc hexec hb hdg h hk (v := ji_n v) (by show ji_n a + ji_n n = ji_n v; rw [ji_add, hv]) hn hl kk
theorem jn_top2 {q0 : Value} {x : Int32} {v : Int} (hv : x = ji_n v) (k : W p l e R s m args below meth c H locs cells slots Q (F0 m pc ls (q0 :: .int (ji_n v) :: rest))) : W p l e R s m args below meth c H locs cells slots Q (F0 m pc ls (q0 :: .int x :: rest)) := by rw [hv]; exact k
theorem jn_top3 {q0 q1 : Value} {x : Int32} {v : Int} (hv : x = ji_n v) (k : W p l e R s m args below meth c H locs cells slots Q (F0 m pc ls (q0 :: q1 :: .int (ji_n v) :: rest))) : W p l e R s m args below meth c H locs cells slots Q (F0 m pc ls (q0 :: q1 :: .int x :: rest)) := by rw [hv]; exact k
theorem jn_icmp_eq (hexec : p.tables.exec = Jvm.exec) (hb : c.code = cc) {a b : Int} {off : Int} {tgt : Nat} (hdg : decode cc pc = .ok (.if_icmp .eq off, 3)) (ht : (pc : Int) + off = (tgt : Int)) (ha : ji_r a) (hb2 : ji_r b)
    (kt : a = b → W p l e R s m args below meth c H locs cells slots Q (F0 m tgt ls rest)) (kf : ¬ a = b → W p l e R s m args below meth c H locs cells slots Q (F0 m (pc + 3) ls rest)) : W p l e R s m args below meth c H locs cells slots Q (F0 m pc ls (.int (ji_n b) :: .int (ji_n a) :: rest)) := lv_icmp_eq hexec hb hdg ht (fun h => kt ((ji_inj ha hb2).mp h)) (fun h => kf (fun q => h ((ji_inj ha hb2).mpr q)))
theorem jn_icmp_ne (hexec : p.tables.exec = Jvm.exec) (hb : c.code = cc) {a b : Int} {off : Int} {tgt : Nat} (hdg : decode cc pc = .ok (.if_icmp .ne off, 3)) (ht : (pc : Int) + off = (tgt : Int)) (ha : ji_r a) (hb2 : ji_r b)
    (kt : ¬ a = b → W p l e R s m args below meth c H locs cells slots Q (F0 m tgt ls rest)) (kf : a = b → W p l e R s m args below meth c H locs cells slots Q (F0 m (pc + 3) ls rest)) : W p l e R s m args below meth c H locs cells slots Q (F0 m pc ls (.int (ji_n b) :: .int (ji_n a) :: rest)) := lv_icmp_ne hexec hb hdg ht (fun h => kt (fun q => h ((ji_inj ha hb2).mpr q))) (fun h => kf ((ji_inj ha hb2).mp h))
theorem jn_icmp_lt (hexec : p.tables.exec = Jvm.exec) (hb : c.code = cc) {a b : Int} {off : Int} {tgt : Nat} (hdg : decode cc pc = .ok (.if_icmp .lt off, 3)) (ht : (pc : Int) + off = (tgt : Int)) (ha : ji_r a) (hb2 : ji_r b)
    (kt : a < b → W p l e R s m args below meth c H locs cells slots Q (F0 m tgt ls rest)) (kf : b ≤ a → W p l e R s m args below meth c H locs cells slots Q (F0 m (pc + 3) ls rest)) : W p l e R s m args below meth c H locs cells slots Q (F0 m pc ls (.int (ji_n b) :: .int (ji_n a) :: rest)) := lv_icmp_lt hexec hb hdg ht (fun h => kt ((ji_lt ha hb2).mp h)) (fun h => kf (by have h2 : ¬ (a < b) := fun q => h ((ji_lt ha hb2).mpr q); omega))
theorem jn_icmp_ge (hexec : p.tables.exec = Jvm.exec) (hb : c.code = cc) {a b : Int} {off : Int} {tgt : Nat} (hdg : decode cc pc = .ok (.if_icmp .ge off, 3)) (ht : (pc : Int) + off = (tgt : Int)) (ha : ji_r a) (hb2 : ji_r b)
    (kt : b ≤ a → W p l e R s m args below meth c H locs cells slots Q (F0 m tgt ls rest)) (kf : a < b → W p l e R s m args below meth c H locs cells slots Q (F0 m (pc + 3) ls rest)) : W p l e R s m args below meth c H locs cells slots Q (F0 m pc ls (.int (ji_n b) :: .int (ji_n a) :: rest)) := lv_icmp_ge hexec hb hdg ht (fun h => kt ((ji_le hb2 ha).mp h)) (fun h => kf (by have h2 : ¬ (b ≤ a) := fun q => h ((ji_le hb2 ha).mpr q); omega))
theorem jn_icmp_gt (hexec : p.tables.exec = Jvm.exec) (hb : c.code = cc) {a b : Int} {off : Int} {tgt : Nat} (hdg : decode cc pc = .ok (.if_icmp .gt off, 3)) (ht : (pc : Int) + off = (tgt : Int)) (ha : ji_r a) (hb2 : ji_r b)
    (kt : b < a → W p l e R s m args below meth c H locs cells slots Q (F0 m tgt ls rest)) (kf : a ≤ b → W p l e R s m args below meth c H locs cells slots Q (F0 m (pc + 3) ls rest)) : W p l e R s m args below meth c H locs cells slots Q (F0 m pc ls (.int (ji_n b) :: .int (ji_n a) :: rest)) := lv_icmp_gt hexec hb hdg ht (fun h => kt ((ji_lt hb2 ha).mp h)) (fun h => kf (by have h2 : ¬ (b < a) := fun q => h ((ji_lt hb2 ha).mpr q); omega))
theorem jn_icmp_le (hexec : p.tables.exec = Jvm.exec) (hb : c.code = cc) {a b : Int} {off : Int} {tgt : Nat} (hdg : decode cc pc = .ok (.if_icmp .le off, 3)) (ht : (pc : Int) + off = (tgt : Int)) (ha : ji_r a) (hb2 : ji_r b)
    (kt : a ≤ b → W p l e R s m args below meth c H locs cells slots Q (F0 m tgt ls rest)) (kf : b < a → W p l e R s m args below meth c H locs cells slots Q (F0 m (pc + 3) ls rest)) : W p l e R s m args below meth c H locs cells slots Q (F0 m pc ls (.int (ji_n b) :: .int (ji_n a) :: rest)) := lv_icmp_le hexec hb hdg ht (fun h => kt ((ji_le ha hb2).mp h)) (fun h => kf (by have h2 : ¬ (a ≤ b) := fun q => h ((ji_le ha hb2).mpr q); omega))
theorem jn_if_eq (hexec : p.tables.exec = Jvm.exec) (hb : c.code = cc) {a : Int} {off : Int} {tgt : Nat} (hdg : decode cc pc = .ok (.ifCond .eq off, 3)) (ht : (pc : Int) + off = (tgt : Int)) (ha : ji_r a)
    (kt : a = 0 → W p l e R s m args below meth c H locs cells slots Q (F0 m tgt ls rest)) (kf : ¬ a = 0 → W p l e R s m args below meth c H locs cells slots Q (F0 m (pc + 3) ls rest)) : W p l e R s m args below meth c H locs cells slots Q (F0 m pc ls (.int (ji_n a) :: rest)) := lv_if_eq hexec hb hdg ht (fun h => kt ((ji_inj ha ji_r0).mp (by rw [ji_0] at h; exact h))) (fun h => kf (fun q => h (by rw [ji_0]; exact (ji_inj ha ji_r0).mpr q)))
theorem jn_if_ne (hexec : p.tables.exec = Jvm.exec) (hb : c.code = cc) {a : Int} {off : Int} {tgt : Nat} (hdg : decode cc pc = .ok (.ifCond .ne off, 3)) (ht : (pc : Int) + off = (tgt : Int)) (ha : ji_r a)
    (kt : ¬ a = 0 → W p l e R s m args below meth c H locs cells slots Q (F0 m tgt ls rest)) (kf : a = 0 → W p l e R s m args below meth c H locs cells slots Q (F0 m (pc + 3) ls rest)) : W p l e R s m args below meth c H locs cells slots Q (F0 m pc ls (.int (ji_n a) :: rest)) := lv_if_ne hexec hb hdg ht (fun h => kt (fun q => h (by rw [ji_0]; exact (ji_inj ha ji_r0).mpr q))) (fun h => kf ((ji_inj ha ji_r0).mp (by rw [ji_0] at h; exact h)))
theorem jn_if_lt (hexec : p.tables.exec = Jvm.exec) (hb : c.code = cc) {a : Int} {off : Int} {tgt : Nat} (hdg : decode cc pc = .ok (.ifCond .lt off, 3)) (ht : (pc : Int) + off = (tgt : Int)) (ha : ji_r a)
    (kt : a < 0 → W p l e R s m args below meth c H locs cells slots Q (F0 m tgt ls rest)) (kf : 0 ≤ a → W p l e R s m args below meth c H locs cells slots Q (F0 m (pc + 3) ls rest)) : W p l e R s m args below meth c H locs cells slots Q (F0 m pc ls (.int (ji_n a) :: rest)) := lv_if_lt hexec hb hdg ht (fun h => kt ((ji_lt ha ji_r0).mp (by rw [ji_0] at h; exact h))) (fun h => kf (by have h2 : ¬ (a < 0) := fun q => h (by rw [ji_0]; exact (ji_lt ha ji_r0).mpr q); omega))
theorem jn_if_ge (hexec : p.tables.exec = Jvm.exec) (hb : c.code = cc) {a : Int} {off : Int} {tgt : Nat} (hdg : decode cc pc = .ok (.ifCond .ge off, 3)) (ht : (pc : Int) + off = (tgt : Int)) (ha : ji_r a)
    (kt : 0 ≤ a → W p l e R s m args below meth c H locs cells slots Q (F0 m tgt ls rest)) (kf : a < 0 → W p l e R s m args below meth c H locs cells slots Q (F0 m (pc + 3) ls rest)) : W p l e R s m args below meth c H locs cells slots Q (F0 m pc ls (.int (ji_n a) :: rest)) := lv_if_ge hexec hb hdg ht (fun h => kt ((ji_le ji_r0 ha).mp (by rw [ji_0] at h; exact h))) (fun h => kf (by have h2 : ¬ (0 ≤ a) := fun q => h (by rw [ji_0]; exact (ji_le ji_r0 ha).mpr q); omega))
theorem jn_if_gt (hexec : p.tables.exec = Jvm.exec) (hb : c.code = cc) {a : Int} {off : Int} {tgt : Nat} (hdg : decode cc pc = .ok (.ifCond .gt off, 3)) (ht : (pc : Int) + off = (tgt : Int)) (ha : ji_r a)
    (kt : 0 < a → W p l e R s m args below meth c H locs cells slots Q (F0 m tgt ls rest)) (kf : a ≤ 0 → W p l e R s m args below meth c H locs cells slots Q (F0 m (pc + 3) ls rest)) : W p l e R s m args below meth c H locs cells slots Q (F0 m pc ls (.int (ji_n a) :: rest)) := lv_if_gt hexec hb hdg ht (fun h => kt ((ji_lt ji_r0 ha).mp (by rw [ji_0] at h; exact h))) (fun h => kf (by have h2 : ¬ (0 < a) := fun q => h (by rw [ji_0]; exact (ji_lt ji_r0 ha).mpr q); omega))
theorem jn_if_le (hexec : p.tables.exec = Jvm.exec) (hb : c.code = cc) {a : Int} {off : Int} {tgt : Nat} (hdg : decode cc pc = .ok (.ifCond .le off, 3)) (ht : (pc : Int) + off = (tgt : Int)) (ha : ji_r a)
    (kt : a ≤ 0 → W p l e R s m args below meth c H locs cells slots Q (F0 m tgt ls rest)) (kf : 0 < a → W p l e R s m args below meth c H locs cells slots Q (F0 m (pc + 3) ls rest)) : W p l e R s m args below meth c H locs cells slots Q (F0 m pc ls (.int (ji_n a) :: rest)) := lv_if_le hexec hb hdg ht (fun h => kt ((ji_le ha ji_r0).mp (by rw [ji_0] at h; exact h))) (fun h => kf (by have h2 : ¬ (a ≤ 0) := fun q => h (by rw [ji_0]; exact (ji_le ha ji_r0).mpr q); omega))
variable {D : va_G} {cl : List vw_C} {A : Nat → Prop} {a : Nat} {tys : List (ClassId × FieldType)} {ws : va_W} {H0 : Heap}
theorem jn_iald (hexec : p.tables.exec = Jvm.exec) (hb : c.code = cc) (hK : va_K D cl tys s) (hP : va_P D cl ws H) (q0 t0 : Nat) {cA : ClassId} {n : Nat} {f : Nat → Int32} (ha : ws[q0]? = some (a, .inl (cA, n, .inl f))) (ht : tys[t0]? = some (cA, .int)) (i : Nat) {z v : Int} (hz : z = (i : Int)) (hi : i < n) (hn : n < 2147483648) (hv : f i = ji_n v) (hdg : decode cc pc = .ok (.iaload, 1))
    (kk : W p l e R s m args below meth c H locs cells slots Q (F0 m (pc + 1) ls (.int (ji_n v) :: rest))) : W p l e R s m args below meth c H locs cells slots Q (F0 m pc ls (.int (ji_n z) :: .ref a :: rest)) := by
  subst hz
  refine va_iald hexec hb hK hP q0 t0 ha ht (ji_in hi hn) hdg ?_
  rw [ji_clamp (by omega), hv]
  exact kk
theorem jn_iast (hexec : p.tables.exec = Jvm.exec) (hb : c.code = cc) (hK : va_K D cl tys s) (hP : va_P D cl ws H) (hD : va_D A ws) (hS : va_S A H0 H locs) (q0 t0 : Nat) {cA : ClassId} {n : Nat} {f : Nat → Int32} (ha : ws[q0]? = some (a, .inl (cA, n, .inl f))) (ht : tys[t0]? = some (cA, .int)) (i : Nat) {z v : Int} (hz : z = (i : Int)) (hi : i < n) (hn : n < 2147483648) (hdg : decode cc pc = .ok (.iastore, 1))
    (kk : ∀ (H1 : Heap) (locs1 : List Loc), va_P D cl (ws.set q0 (a, .inl (cA, n, .inl (upd f i (ji_n v))))) H1 → va_D A (ws.set q0 (a, .inl (cA, n, .inl (upd f i (ji_n v))))) → va_S A H0 H1 locs1 → W p l e R s m args below meth c H1 locs1 cells slots Q (F0 m (pc + 1) ls rest)) : W p l e R s m args below meth c H locs cells slots Q (F0 m pc ls (.int (ji_n v) :: .int (ji_n z) :: .ref a :: rest)) := by
  subst hz
  refine va_iast hexec hb hK hP hD hS q0 t0 ha ht (ji_in hi hn) hdg (fun H1 locs1 h1 h2 h3 => ?_)
  rw [ji_clamp (by omega)] at h1 h2
  exact kk H1 locs1 h1 h2 h3
end JN
end
section
/-! the pure side: lines (K, A, B below n), sizes z, places, labels, bytes, the least closed choice -/
def sp_gd (k a b : Int) : Prop := (k = 0 ∧ 0 ≤ a ∧ a ≤ 15 ∧ b = 0) ∨ (k = 1 ∧ 1 ≤ a ∧ a ≤ 200 ∧ 0 ≤ b ∧ b ≤ 255) ∨ (k = 2 ∧ 0 ≤ a ∧ a ≤ 15 ∧ -1000 ≤ b ∧ b ≤ 1000) ∨ (k = 3 ∧ 0 ≤ a ∧ a ≤ 15 ∧ 0 ≤ b ∧ b ≤ 7)
def sp_gp (K A B : Nat → Int) (n : Nat) : Prop := ∀ j, j < n → sp_gd (K j) (A j) (B j)
def sp_pz (z : Nat → Int) : Nat → Int
  | 0 => 0
  | i + 1 => sp_pz z i + z i
theorem sp_pz_s (z : Nat → Int) (i : Nat) : sp_pz z (i + 1) = sp_pz z i + z i := rfl
theorem sp_pz_congr {z z' : Nat → Int} {n : Nat} (h : ∀ j, j < n → z j = z' j) : ∀ i, i ≤ n → sp_pz z i = sp_pz z' i := by
  intro i
  induction i with
  | zero => intro _; rfl
  | succ i ih =>
    intro hi
    rw [sp_pz_s, sp_pz_s, ih (by omega), h i (by omega)]
def sp_la (K A z : Nat → Int) : Nat → Int → Int
  | 0, _ => -1
  | i + 1, x => if K i = 0 ∧ A i = x then sp_pz z i else sp_la K A z i x
theorem sp_la_s (K A z : Nat → Int) (i : Nat) (x : Int) : sp_la K A z (i + 1) x = if K i = 0 ∧ A i = x then sp_pz z i else sp_la K A z i x := rfl
def sp_uq (K A : Nat → Int) (n : Nat) : Prop := ∀ i j, i < n → j < n → K i = 0 → K j = 0 → A i = A j → i = j
theorem sp_la_at {K A z : Nat → Int} {n : Nat} (hu : sp_uq K A n) {k : Nat} (hk : k < n) (h0 : K k = 0) : sp_la K A z n (A k) = sp_pz z k := by
  have key : ∀ i, k < i → i ≤ n → sp_la K A z i (A k) = sp_pz z k := by
    intro i
    induction i with
    | zero => intro h; omega
    | succ i ih =>
      intro h1 h2
      rw [sp_la_s]
      by_cases hc : K i = 0 ∧ A i = A k
      · have := hu i k (by omega) hk hc.1 h0 hc.2
        rw [if_pos hc, this]
      · rw [if_neg hc]
        have : k ≠ i := fun q => hc (by rw [← q]; exact ⟨h0, rfl⟩)
        exact ih (by omega) (by omega)
  exact key n hk (Nat.le_refl _)
theorem sp_la_no {K A z : Nat → Int} {n : Nat} {x : Int} (h : ∀ k, k < n → ¬ (K k = 0 ∧ A k = x)) : sp_la K A z n x = -1 := by
  induction n with
  | zero => rfl
  | succ i ih =>
    rw [sp_la_s, if_neg (h i (by omega))]
    exact ih (fun k hk => h k (by omega))
theorem sp_la_or (K A z : Nat → Int) (n : Nat) (x : Int) : sp_la K A z n x = -1 ∨ ∃ k, k < n ∧ K k = 0 ∧ A k = x ∧ sp_la K A z n x = sp_pz z k := by
  induction n with
  | zero => exact Or.inl rfl
  | succ i ih =>
    rw [sp_la_s]
    by_cases hc : K i = 0 ∧ A i = x
    · rw [if_pos hc]
      exact Or.inr ⟨i, by omega, hc.1, hc.2, rfl⟩
    · rw [if_neg hc]
      rcases ih with h | ⟨k, h1, h2⟩
      · exact Or.inl h
      · exact Or.inr ⟨k, by omega, h2⟩
def sp_lg (b : Int) : Int := if b = 0 then 3 else 5
theorem sp_lg_or (b : Int) : (b = 0 ∧ sp_lg b = 3) ∨ (b ≠ 0 ∧ sp_lg b = 5) := by
  unfold sp_lg
  by_cases h : b = 0
  · rw [if_pos h]; exact Or.inl ⟨h, rfl⟩
  · rw [if_neg h]; exact Or.inr ⟨h, rfl⟩
def sp_ok (K A B z : Nat → Int) (n : Nat) : Prop := ∀ j, j < n → (K j = 0 ∧ z j = 0) ∨ (K j = 1 ∧ z j = A j) ∨ (K j = 2 ∧ z j = 2) ∨ (K j = 3 ∧ (z j = 2 ∨ z j = sp_lg (B j)))
theorem sp_z_r {K A B z : Nat → Int} {n : Nat} (hg : sp_gp K A B n) (ho : sp_ok K A B z n) : ∀ j, j < n → 0 ≤ z j ∧ z j ≤ 200 := by
  intro j hj
  have h1 := hg j hj
  have h2 := ho j hj
  have h3 := sp_lg_or (B j)
  unfold sp_gd at h1
  omega
theorem sp_pz_b {z : Nat → Int} {n : Nat} (h : ∀ j, j < n → 0 ≤ z j ∧ z j ≤ 200) : ∀ i, i ≤ n → 0 ≤ sp_pz z i ∧ sp_pz z i ≤ 200 * (i : Int) := by
  intro i
  induction i with
  | zero => intro _; exact ⟨Int.le_refl _, Int.le_refl _⟩
  | succ i ih =>
    intro hi
    have h1 := ih (by omega)
    have h2 := h i (by omega)
    rw [sp_pz_s]
    omega
theorem sp_pz_dm {z z' : Nat → Int} {n : Nat} (h0 : ∀ j, j < n → 0 ≤ z j) (hle : ∀ j, j < n → z j ≤ z' j) {a : Nat} : ∀ b, a ≤ b → b ≤ n → 0 ≤ sp_pz z b - sp_pz z a ∧ sp_pz z b - sp_pz z a ≤ sp_pz z' b - sp_pz z' a := by
  intro b
  induction b with
  | zero =>
    intro h1 _
    have : a = 0 := by omega
    subst this
    omega
  | succ b ih =>
    intro h1 h2
    by_cases hab : a = b + 1
    · subst hab; omega
    · have h3 := ih (by omega) (by omega)
      have h4 := h0 b (by omega)
      have h5 := hle b (by omega)
      rw [sp_pz_s, sp_pz_s]
      omega
theorem sp_pz_m {z : Nat → Int} {n : Nat} (h0 : ∀ j, j < n → 0 ≤ z j) {a b : Nat} (h1 : a ≤ b) (h2 : b ≤ n) : sp_pz z a ≤ sp_pz z b := by
  have := (sp_pz_dm h0 (fun j _ => Int.le_refl (z j)) b h1 h2).1
  omega
/-- what was assembled: lines, sizes, labels once -/
def sp_AS (n : Nat) (K A B z : Nat → Int) : Prop := n ≤ 50 ∧ sp_gp K A B n ∧ sp_ok K A B z n ∧ sp_uq K A n
theorem sp_AS_z {n : Nat} {K A B z : Nat → Int} (h : sp_AS n K A B z) : ∀ j, j < n → 0 ≤ z j ∧ z j ≤ 200 := sp_z_r h.2.1 h.2.2.1
theorem sp_AS_p {n : Nat} {K A B z : Nat → Int} (h : sp_AS n K A B z) {i : Nat} (hi : i ≤ n) : 0 ≤ sp_pz z i ∧ sp_pz z i ≤ 10000 := by
  have h1 := sp_pz_b (sp_AS_z h) i hi
  have h2 := h.1
  omega
theorem sp_AS_m {n : Nat} {K A B z : Nat → Int} (h : sp_AS n K A B z) {a b : Nat} (h1 : a ≤ b) (h2 : b ≤ n) : sp_pz z a ≤ sp_pz z b := sp_pz_m (fun j hj => (sp_AS_z h j hj).1) h1 h2
theorem sp_AS_la {n : Nat} {K A B z : Nat → Int} (h : sp_AS n K A B z) {i : Nat} (hi : i ≤ n) (x : Int) : -1 ≤ sp_la K A z i x ∧ sp_la K A z i x ≤ 10000 := by
  rcases sp_la_or K A z i x with h1 | ⟨k, h1, -, -, h2⟩
  · rw [h1]; omega
  · rw [h2]
    have := sp_AS_p h (i := k) (by omega)
    omega
def sp_ds (n : Nat) (K A z : Nat → Int) (j : Nat) : Int := sp_la K A z n (A j) - sp_pz z (j + 1)
theorem sp_AS_ds {n : Nat} {K A B z : Nat → Int} (h : sp_AS n K A B z) {j : Nat} (hj : j < n) : -10001 ≤ sp_ds n K A z j ∧ sp_ds n K A z j ≤ 10000 := by
  have h1 := sp_AS_la h (Nat.le_refl n) (A j)
  have h2 := sp_AS_p h (i := j + 1) (by omega)
  unfold sp_ds
  omega
/-! bytes -/
def sp_hi (v : Int) : Int := v / 256 % 256
def sp_lo (v : Int) : Int := v % 256
def sp_op (c : Int) : Int := if c = 4 then 44 else if c < 4 then 36 + c else 28 + c
def sp_lb (n : Nat) (K A B z : Nat → Int) (j : Nat) (o : Int) : Int :=
  if K j = 1 then B j
  else if K j = 2 then (if o = 0 then sp_hi (sp_la K A z n (A j) + B j) else sp_lo (sp_la K A z n (A j) + B j))
  else if z j = 2 then (if o = 0 then 32 + B j else sp_lo (sp_ds n K A z j))
  else if z j = 5 ∧ o < 2 then (if o = 0 then sp_op (B j) else 3)
  else if o = z j - 3 then 64
  else if o = z j - 2 then sp_hi (sp_ds n K A z j)
  else sp_lo (sp_ds n K A z j)
theorem sp_hi_r (v : Int) : 0 ≤ sp_hi v ∧ sp_hi v ≤ 255 := by unfold sp_hi; omega
theorem sp_lo_r (v : Int) : 0 ≤ sp_lo v ∧ sp_lo v ≤ 255 := by unfold sp_lo; omega
theorem sp_op_r {c : Int} (h : 0 ≤ c ∧ c ≤ 7) : 32 ≤ sp_op c ∧ sp_op c ≤ 47 := by
  unfold sp_op
  split
  · omega
  · split <;> omega
theorem sp_lb_r {n : Nat} {K A B z : Nat → Int} (h : sp_AS n K A B z) {j : Nat} (hj : j < n) (h0 : K j ≠ 0) (o : Int) : 0 ≤ sp_lb n K A B z j o ∧ sp_lb n K A B z j o ≤ 255 := by
  have h1 := h.2.1 j hj
  unfold sp_gd at h1
  have e1 := sp_hi_r (sp_la K A z n (A j) + B j)
  have e2 := sp_lo_r (sp_la K A z n (A j) + B j)
  have e3 := sp_hi_r (sp_ds n K A z j)
  have e4 := sp_lo_r (sp_ds n K A z j)
  unfold sp_lb
  by_cases c1 : K j = 1
  · rw [if_pos c1]; omega
  rw [if_neg c1]
  by_cases c2 : K j = 2
  · rw [if_pos c2]; split <;> assumption
  rw [if_neg c2]
  have hB : 0 ≤ B j ∧ B j ≤ 7 := by omega
  have e5 := sp_op_r hB
  repeat' split
  all_goals omega
def sp_bb (n : Nat) (K A B z : Nat → Int) : Nat → Int → Int
  | 0, _ => -1
  | i + 1, k => if sp_pz z i ≤ k ∧ k < sp_pz z (i + 1) then sp_lb n K A B z i (k - sp_pz z i) else sp_bb n K A B z i k
theorem sp_bb_s (n : Nat) (K A B z : Nat → Int) (i : Nat) (k : Int) : sp_bb n K A B z (i + 1) k = if sp_pz z i ≤ k ∧ k < sp_pz z (i + 1) then sp_lb n K A B z i (k - sp_pz z i) else sp_bb n K A B z i k := rfl
def sp_ba (n : Nat) (K A B z : Nat → Int) (k : Int) : Int := sp_bb n K A B z n k
theorem sp_ba_at {n : Nat} {K A B z : Nat → Int} (h : sp_AS n K A B z) {j : Nat} {k : Int} (hj : j < n) (h1 : sp_pz z j ≤ k) (h2 : k < sp_pz z (j + 1)) : sp_ba n K A B z k = sp_lb n K A B z j (k - sp_pz z j) := by
  have key : ∀ i, j < i → i ≤ n → sp_bb n K A B z i k = sp_lb n K A B z j (k - sp_pz z j) := by
    intro i
    induction i with
    | zero => intro q; omega
    | succ i ih =>
      intro q1 q2
      rw [sp_bb_s]
      by_cases hij : i = j
      · subst hij
        rw [if_pos ⟨h1, h2⟩]
      · have hm := sp_AS_m h (a := j + 1) (b := i) (by omega) (by omega)
        rw [if_neg (by omega)]
        exact ih (by omega) (by omega)
  exact key n hj (Nat.le_refl _)
theorem sp_ba_no {n : Nat} {K A B z : Nat → Int} (h : sp_AS n K A B z) {k : Int} (hk : k < 0 ∨ sp_pz z n ≤ k) : sp_ba n K A B z k = -1 := by
  have key : ∀ i, i ≤ n → sp_bb n K A B z i k = -1 := by
    intro i
    induction i with
    | zero => intro _; rfl
    | succ i ih =>
      intro q
      have h1 := sp_AS_p h (i := i) (by omega)
      have h2 := sp_AS_m h (a := i + 1) (b := n) q (Nat.le_refl _)
      rw [sp_bb_s, if_neg (by omega)]
      exact ih (by omega)
  exact key n (Nat.le_refl _)
theorem sp_line {z : Nat → Int} {k : Int} (hk : 0 ≤ k) : ∀ n : Nat, k < sp_pz z n → ∃ j, j < n ∧ sp_pz z j ≤ k ∧ k < sp_pz z (j + 1) := by
  intro n
  induction n with
  | zero => intro h; have : sp_pz z 0 = 0 := rfl; omega
  | succ i ih =>
    intro h
    by_cases hc : k < sp_pz z i
    · obtain ⟨j, q1, q2⟩ := ih hc
      exact ⟨j, by omega, q2⟩
    · exact ⟨i, by omega, by omega, h⟩
theorem sp_ba_r {n : Nat} {K A B z : Nat → Int} (h : sp_AS n K A B z) {k : Int} (h1 : 0 ≤ k) (h2 : k < sp_pz z n) : 0 ≤ sp_ba n K A B z k ∧ sp_ba n K A B z k ≤ 255 := by
  obtain ⟨j, q1, q2, q3⟩ := sp_line h1 n h2
  rw [sp_ba_at h q1 q2 q3]
  refine sp_lb_r h q1 ?_ _
  intro h0
  have := h.2.2.1 j q1
  rw [sp_pz_s] at q3
  omega
theorem sp_ba_b {n : Nat} {K A B z : Nat → Int} (h : sp_AS n K A B z) (k : Int) : (sp_ba n K A B z k = -1 ∧ (k < 0 ∨ sp_pz z n ≤ k)) ∨ (0 ≤ sp_ba n K A B z k ∧ sp_ba n K A B z k ≤ 255 ∧ 0 ≤ k ∧ k < sp_pz z n) := by
  by_cases hk : k < 0 ∨ sp_pz z n ≤ k
  · exact Or.inl ⟨sp_ba_no h hk, hk⟩
  · have := sp_ba_r h (k := k) (by omega) (by omega)
    exact Or.inr ⟨this.1, this.2, by omega, by omega⟩
def sp_nd (code : Int) : Int := if 32 ≤ code ∧ code ≤ 47 then 2 else if code = 64 then 3 else 1
theorem sp_nd_or (x : Int) : (32 ≤ x ∧ x ≤ 47 ∧ sp_nd x = 2) ∨ (x = 64 ∧ sp_nd x = 3) ∨ (¬ (32 ≤ x ∧ x ≤ 47) ∧ x ≠ 64 ∧ sp_nd x = 1) := by
  unfold sp_nd
  split
  · omega
  · split <;> omega
def sp_os (n : Nat) (K A B z : Nat → Int) (k : Int) : Int := if sp_ba n K A B z k = -1 then 0 else if sp_nd (sp_ba n K A B z k) ≤ sp_pz z n - k then sp_nd (sp_ba n K A B z k) else 0
theorem sp_os_b {n : Nat} {K A B z : Nat → Int} (h : sp_AS n K A B z) (k : Int) : sp_os n K A B z k = 0 ∨ (0 ≤ k ∧ (sp_os n K A B z k = 1 ∨ sp_os n K A B z k = 2 ∨ sp_os n K A B z k = 3) ∧ k + sp_os n K A B z k ≤ sp_pz z n) := by
  have h1 := sp_ba_b h k
  have h2 := sp_nd_or (sp_ba n K A B z k)
  unfold sp_os
  split
  · exact Or.inl rfl
  · split
    · right; omega
    · exact Or.inl rfl
def sp_sb (x : Int) : Int := if 127 < x then x - 256 else x
theorem sp_sb_or (x : Int) : (127 < x ∧ sp_sb x = x - 256) ∨ (x ≤ 127 ∧ sp_sb x = x) := by
  unfold sp_sb
  split <;> omega
def sp_tg (n : Nat) (K A B z : Nat → Int) (k : Int) (sz : Int) : Int := if sz = 2 then k + sz + sp_sb (sp_ba n K A B z (k + 1)) else if sz = 3 then k + sz + (256 * sp_sb (sp_ba n K A B z (k + 1)) + sp_ba n K A B z (k + 2)) else k + sz
def sp_nx (n : Nat) (K A B z : Nat → Int) (k : Int) (t : Int) : Int := if t = 0 then k + sp_os n K A B z k else sp_tg n K A B z k (sp_os n K A B z k)
def sp_ai (n : Nat) (K A B z : Nat → Int) (k : Int) : Int := if sp_ba n K A B z k = 32 ∨ sp_ba n K A B z k = 64 then 1 else 0
theorem sp_ai_or (n : Nat) (K A B z : Nat → Int) (k : Int) : ((sp_ba n K A B z k = 32 ∨ sp_ba n K A B z k = 64) ∧ sp_ai n K A B z k = 1) ∨ (¬ (sp_ba n K A B z k = 32 ∨ sp_ba n K A B z k = 64) ∧ sp_ai n K A B z k = 0) := by
  unfold sp_ai; split <;> omega
theorem sp_ai_b (n : Nat) (K A B z : Nat → Int) (k : Int) : sp_ai n K A B z k = 0 ∨ sp_ai n K A B z k = 1 := by
  have := sp_ai_or n K A B z k; omega
def sp_fl (a b : Int) : Int := if a = 1 ∨ b = 1 then 1 else 0
theorem sp_fl_or (a b : Int) : ((a = 1 ∨ b = 1) ∧ sp_fl a b = 1) ∨ (¬ (a = 1 ∨ b = 1) ∧ sp_fl a b = 0) := by
  unfold sp_fl; split <;> omega
def sp_tr (n : Nat) (K A B z : Nat → Int) (bit : Nat → Int) : Nat → Nat → Int → Int
  | 0, _, h => h
  | r + 1, k, h => if sp_os n K A B z h = 0 then h else sp_tr n K A B z bit r (k + 1) (sp_nx n K A B z h (sp_fl (bit k) (sp_ai n K A B z h)))
theorem sp_tr_s (n : Nat) (K A B z : Nat → Int) (bit : Nat → Int) (r k : Nat) (h : Int) : sp_tr n K A B z bit (r + 1) k h = if sp_os n K A B z h = 0 then h else sp_tr n K A B z bit r (k + 1) (sp_nx n K A B z h (sp_fl (bit k) (sp_ai n K A B z h))) := rfl
theorem sp_tr_e (n : Nat) (K A B z : Nat → Int) (bit : Nat → Int) (r k : Nat) (h : Int) (h0 : sp_os n K A B z h = 0) : sp_tr n K A B z bit r k h = h := by
  cases r with
  | zero => rfl
  | succ r => rw [sp_tr_s, if_pos h0]
theorem sp_nx_or (n : Nat) (K A B z : Nat → Int) (k t : Int) : (t = 0 ∧ sp_nx n K A B z k t = k + sp_os n K A B z k) ∨ (t ≠ 0 ∧ sp_nx n K A B z k t = sp_tg n K A B z k (sp_os n K A B z k)) := by
  unfold sp_nx; split <;> omega
theorem sp_tg_or (n : Nat) (K A B z : Nat → Int) (k s : Int) : (s = 2 ∧ sp_tg n K A B z k s = k + s + sp_sb (sp_ba n K A B z (k + 1))) ∨ (s = 3 ∧ sp_tg n K A B z k s = k + s + (256 * sp_sb (sp_ba n K A B z (k + 1)) + sp_ba n K A B z (k + 2))) ∨ (s ≠ 2 ∧ s ≠ 3 ∧ sp_tg n K A B z k s = k + s) := by
  unfold sp_tg
  split
  · omega
  · split <;> omega
theorem sp_nx_r {n : Nat} {K A B z : Nat → Int} (h : sp_AS n K A B z) {k : Int} (ho : sp_os n K A B z k ≠ 0) (t : Int) : -50000 ≤ sp_nx n K A B z k t ∧ sp_nx n K A B z k t ≤ 50000 := by
  have h1 := sp_os_b h k
  have h2 := sp_AS_p h (Nat.le_refl n)
  have h3 := sp_ba_b h (k + 1)
  have h4 := sp_ba_b h (k + 2)
  have h5 := sp_sb_or (sp_ba n K A B z (k + 1))
  have h6 := sp_nx_or n K A B z k t
  have h7 := sp_tg_or n K A B z k (sp_os n K A B z k)
  omega
/-! the least closed choice -/
def sp_cs (n : Nat) (K A z : Nat → Int) : Prop := ∀ j, j < n → K j = 3 → z j = 2 → -128 ≤ sp_ds n K A z j ∧ sp_ds n K A z j ≤ 127
def sp_lw (n : Nat) (K A B z : Nat → Int) : Prop := ∀ z', sp_ok K A B z' n → sp_cs n K A z' → ∀ j, j < n → z j ≤ z' j
def sp_LC (n : Nat) (K A B z : Nat → Int) : Prop := sp_ok K A B z n ∧ sp_cs n K A z ∧ sp_lw n K A B z
theorem sp_LC_uq {n : Nat} {K A B z z' : Nat → Int} (h : sp_LC n K A B z) (h' : sp_LC n K A B z') : ∀ j, j < n → z j = z' j := by
  intro j hj
  have h1 := h.2.2 z' h'.1 h'.2.1 j hj
  have h2 := h'.2.2 z h.1 h.2.1 j hj
  omega
def sp_df (n : Nat) (K A : Nat → Int) : Prop := ∀ j, j < n → K j = 2 ∨ K j = 3 → ∃ q, q < n ∧ K q = 0 ∧ A q = A j
theorem sp_grow {n : Nat} {K A B z z' : Nat → Int} (hg : sp_gp K A B n) (hu : sp_uq K A n) (hd : sp_df n K A) (ho : sp_ok K A B z n) (hle : ∀ i, i < n → z i ≤ z' i) {j : Nat} (hj : j < n) (h3 : K j = 3) (hnr : ¬ (-128 ≤ sp_ds n K A z j ∧ sp_ds n K A z j ≤ 127)) : ¬ (-128 ≤ sp_ds n K A z' j ∧ sp_ds n K A z' j ≤ 127) := by
  obtain ⟨q, hq, q0, qa⟩ := hd j hj (Or.inr h3)
  have e1 : sp_la K A z n (A j) = sp_pz z q := by rw [← qa]; exact sp_la_at hu hq q0
  have e2 : sp_la K A z' n (A j) = sp_pz z' q := by rw [← qa]; exact sp_la_at hu hq q0
  have h0 : ∀ i, i < n → 0 ≤ z i := fun i hi => (sp_z_r hg ho i hi).1
  unfold sp_ds at hnr ⊢
  rw [e1] at hnr
  rw [e2]
  by_cases hc : q ≤ j + 1
  · have := sp_pz_dm h0 hle (a := q) (j + 1) hc (by omega)
    omega
  · have := sp_pz_dm h0 hle (a := j + 1) q (by omega) (by omega)
    omega
theorem sp_lw_to {n : Nat} {K A B z z2 : Nat → Int} (hg : sp_gp K A B n) (hu : sp_uq K A n) (hd : sp_df n K A) (ho : sp_ok K A B z n) (hl : sp_lw n K A B z) (h : ∀ j, j < n → z2 j = z j ∨ (K j = 3 ∧ z2 j = sp_lg (B j) ∧ ¬ (-128 ≤ sp_ds n K A z j ∧ sp_ds n K A z j ≤ 127))) : sp_lw n K A B z2 := by
  intro z' ho' hc' j hj
  have hle := hl z' ho' hc'
  rcases h j hj with e | ⟨h3, e, hnr⟩
  · rw [e]; exact hle j hj
  · have h4 := sp_grow hg hu hd ho hle hj h3 hnr
    have h5 := ho' j hj
    have h6 : z' j ≠ 2 := fun q => h4 (hc' j hj h3 q)
    omega
theorem sp_ok_to {n : Nat} {K A B z z2 : Nat → Int} (ho : sp_ok K A B z n) (h : ∀ j, j < n → z2 j = z j ∨ (K j = 3 ∧ z2 j = sp_lg (B j))) : sp_ok K A B z2 n := by
  intro j hj
  have h1 := ho j hj
  have h2 := h j hj
  omega
def sp_z0 (K A : Nat → Int) (j : Nat) : Int := if K j = 0 then 0 else if K j = 1 then A j else 2
theorem sp_z0_or (K A : Nat → Int) (j : Nat) : (K j = 0 ∧ sp_z0 K A j = 0) ∨ (K j = 1 ∧ sp_z0 K A j = A j) ∨ (K j ≠ 0 ∧ K j ≠ 1 ∧ sp_z0 K A j = 2) := by
  unfold sp_z0
  split
  · left; exact ⟨by assumption, rfl⟩
  · split
    · right; left; exact ⟨by assumption, rfl⟩
    · right; right; exact ⟨by assumption, by assumption, rfl⟩
theorem sp_z0_ok {n : Nat} {K A B : Nat → Int} (hg : sp_gp K A B n) : sp_ok K A B (sp_z0 K A) n := by
  intro j hj
  have h1 := hg j hj
  unfold sp_gd at h1
  have h2 := sp_z0_or K A j
  omega
theorem sp_z0_lw {n : Nat} {K A B : Nat → Int} (hg : sp_gp K A B n) : sp_lw n K A B (sp_z0 K A) := by
  intro z' ho _ j hj
  have h1 := hg j hj
  unfold sp_gd at h1
  have h2 := sp_z0_or K A j
  have h3 := ho j hj
  have h4 := sp_lg_or (B j)
  omega
/-! how many jumps are long -/
def sp_ct (K z : Nat → Int) : Nat → Nat
  | 0 => 0
  | i + 1 => sp_ct K z i + (if K i = 3 ∧ z i ≠ 2 then 1 else 0)
theorem sp_ct_s (K z : Nat → Int) (i : Nat) : sp_ct K z (i + 1) = sp_ct K z i + (if K i = 3 ∧ z i ≠ 2 then 1 else 0) := rfl
theorem sp_ct_le (K z : Nat → Int) (i : Nat) : sp_ct K z i ≤ i := by
  induction i with
  | zero => exact Nat.le_refl _
  | succ i ih => rw [sp_ct_s]; split <;> omega
theorem sp_ct_all {K z : Nat → Int} : ∀ n, sp_ct K z n = n → ∀ j, j < n → K j = 3 ∧ z j ≠ 2 := by
  intro n
  induction n with
  | zero => intro _ j hj; omega
  | succ i ih =>
    intro h j hj
    rw [sp_ct_s] at h
    have h1 := sp_ct_le K z i
    by_cases hc : K i = 3 ∧ z i ≠ 2
    · rw [if_pos hc] at h
      by_cases hji : j = i
      · rw [hji]; exact hc
      · exact ih (by omega) j (by omega)
    · rw [if_neg hc] at h; omega
theorem sp_ct_up {K z z2 : Nat → Int} {n : Nat} (h : ∀ j, j < n → z2 j = z j ∨ (K j = 3 ∧ z j = 2 ∧ z2 j ≠ 2)) (j : Nat) (hj : K j = 3 ∧ z j = 2 ∧ z2 j ≠ 2) : ∀ i, i ≤ n → sp_ct K z i ≤ sp_ct K z2 i ∧ (j < i → sp_ct K z i + 1 ≤ sp_ct K z2 i) := by
  intro i
  induction i with
  | zero => intro _; exact ⟨Nat.le_refl _, fun q => by omega⟩
  | succ i ih =>
    intro hi
    have h1 := ih (by omega)
    have h2 := h i (by omega)
    rw [sp_ct_s, sp_ct_s]
    by_cases hji : j = i
    · subst hji
      rw [if_neg (fun q => q.2 hj.2.1), if_pos ⟨hj.1, hj.2.2⟩]
      exact ⟨by omega, fun _ => by omega⟩
    · rcases h2 with e | ⟨g1, g2, g3⟩
      · rw [e]
        refine ⟨by omega, fun q => ?_⟩
        have := h1.2 (by omega)
        omega
      · rw [if_neg (fun q => q.2 g2), if_pos ⟨g1, g3⟩]
        exact ⟨by omega, fun q => by have := h1.2 (by omega); omega⟩
theorem sp_ct_cs {n : Nat} {K A z : Nat → Int} (h : sp_ct K z n = n) : sp_cs n K A z := fun j hj _ q => absurd q (sp_ct_all n h j hj).2
/-! definitions of a label -/
def sp_dn (K A : Nat → Int) (x : Int) : Nat → Int
  | 0 => 0
  | i + 1 => sp_dn K A x i + (if K i = 0 ∧ A i = x then 1 else 0)
theorem sp_dn_s (K A : Nat → Int) (x : Int) (i : Nat) : sp_dn K A x (i + 1) = sp_dn K A x i + (if K i = 0 ∧ A i = x then 1 else 0) := rfl
theorem sp_dn_b (K A : Nat → Int) (x : Int) (i : Nat) : 0 ≤ sp_dn K A x i ∧ sp_dn K A x i ≤ (i : Int) := by
  induction i with
  | zero => exact ⟨Int.le_refl _, Int.le_refl _⟩
  | succ i ih => rw [sp_dn_s]; split <;> omega
theorem sp_dn_1 {K A : Nat → Int} {x : Int} {k : Nat} (h0 : K k = 0) (hx : A k = x) : ∀ i, k < i → sp_dn K A x k + 1 ≤ sp_dn K A x i := by
  intro i
  induction i with
  | zero => intro h; omega
  | succ i ih =>
    intro h
    rw [sp_dn_s]
    by_cases hki : k = i
    · subst hki; rw [if_pos ⟨h0, hx⟩]; omega
    · have := ih (by omega)
      split <;> omega
theorem sp_dn_0 {K A : Nat → Int} {x : Int} : ∀ n, sp_dn K A x n = 0 → ∀ k, k < n → ¬ (K k = 0 ∧ A k = x) := by
  intro n h k hk hc
  have h1 := sp_dn_1 hc.1 hc.2 n hk
  have h2 := (sp_dn_b K A x k).1
  omega
theorem sp_dn_ex {K A : Nat → Int} {x : Int} : ∀ n, sp_dn K A x n ≠ 0 → ∃ k, k < n ∧ K k = 0 ∧ A k = x := by
  intro n
  induction n with
  | zero => intro h; exact absurd rfl h
  | succ i ih =>
    intro h
    rw [sp_dn_s] at h
    by_cases hc : K i = 0 ∧ A i = x
    · exact ⟨i, by omega, hc⟩
    · rw [if_neg hc] at h
      obtain ⟨k, h1, h2⟩ := ih (by omega)
      exact ⟨k, by omega, h2⟩
/-- a label is defined twice; a named one is not defined -/
def sp_tw (n : Nat) (K A : Nat → Int) : Prop := ∃ x : Nat, x < 16 ∧ 1 < sp_dn K A (x : Int) n
def sp_un (n : Nat) (K A : Nat → Int) : Prop := ∃ j : Nat, j < n ∧ (K j = 2 ∨ K j = 3) ∧ sp_dn K A (A j) n = 0
theorem sp_tw_uq {n : Nat} {K A B : Nat → Int} (hg : sp_gp K A B n) (h : ¬ sp_tw n K A) : sp_uq K A n := by
  have key : ∀ i j, i < j → j < n → K i = 0 → K j = 0 → A i = A j → False := by
    intro i j hij hj h1 h2 h3
    have g := hg i (by omega)
    unfold sp_gd at g
    refine h ⟨(A i).toNat, by omega, ?_⟩
    have e : (((A i).toNat : Nat) : Int) = A i := by omega
    rw [e]
    have d1 := sp_dn_1 (x := A i) h1 rfl j hij
    have d2 := sp_dn_1 (x := A i) h2 h3.symm n hj
    have d3 := (sp_dn_b K A (A i) i).1
    omega
  intro i j hi hj h1 h2 h3
  by_cases hlt : i < j
  · exact (key i j hlt hj h1 h2 h3).elim
  · by_cases hgt : j < i
    · exact (key j i hgt hi h2 h1 h3.symm).elim
    · omega
theorem sp_un_df {n : Nat} {K A : Nat → Int} (h : ¬ sp_un n K A) : sp_df n K A := by
  intro j hj hk
  have h1 : sp_dn K A (A j) n ≠ 0 := fun q => h ⟨j, hj, hk, q⟩
  exact sp_dn_ex n h1
/-! a line put in, a line taken out -/
def sp_in (K : Nat → Int) (at_ : Nat) (x : Int) (j : Nat) : Int := if j < at_ then K j else if j = at_ then x else K (j - 1)
def sp_rm (K : Nat → Int) (at_ : Nat) (j : Nat) : Int := if j < at_ then K j else K (j + 1)
theorem sp_gp_in {n at_ : Nat} {K A B : Nat → Int} {k a b : Int} (hg : sp_gp K A B n) (hl : sp_gd k a b) (ha : at_ ≤ n) : sp_gp (sp_in K at_ k) (sp_in A at_ a) (sp_in B at_ b) (n + 1) := by
  intro j hj
  unfold sp_in
  by_cases h1 : j < at_
  · rw [if_pos h1, if_pos h1, if_pos h1]; exact hg j (by omega)
  · rw [if_neg h1, if_neg h1, if_neg h1]
    by_cases h2 : j = at_
    · rw [if_pos h2, if_pos h2, if_pos h2]; exact hl
    · rw [if_neg h2, if_neg h2, if_neg h2]; exact hg (j - 1) (by omega)
theorem sp_gp_rm {n at_ : Nat} {K A B : Nat → Int} (hg : sp_gp K A B (n + 1)) : sp_gp (sp_rm K at_) (sp_rm A at_) (sp_rm B at_) n := by
  intro j hj
  unfold sp_rm
  by_cases h1 : j < at_
  · rw [if_pos h1, if_pos h1, if_pos h1]; exact hg j (by omega)
  · rw [if_neg h1, if_neg h1, if_neg h1]; exact hg (j + 1) (by omega)
/-! forms -/
def sp_fm (k z : Int) : Int := if k = 3 then (if z = 2 then 1 else 2) else 0
theorem sp_fm_or (k z : Int) : (k ≠ 3 ∧ sp_fm k z = 0) ∨ (k = 3 ∧ z = 2 ∧ sp_fm k z = 1) ∨ (k = 3 ∧ z ≠ 2 ∧ sp_fm k z = 2) := by
  unfold sp_fm
  split
  · split <;> omega
  · omega
def sp_lc (K z : Nat → Int) : Nat → Int
  | 0 => 0
  | i + 1 => sp_lc K z i + (if sp_fm (K i) (z i) = 2 then 1 else 0)
theorem sp_lc_s (K z : Nat → Int) (i : Nat) : sp_lc K z (i + 1) = sp_lc K z i + (if sp_fm (K i) (z i) = 2 then 1 else 0) := rfl
theorem sp_lc_b (K z : Nat → Int) (i : Nat) : 0 ≤ sp_lc K z i ∧ sp_lc K z i ≤ (i : Int) := by
  induction i with
  | zero => exact ⟨Int.le_refl _, Int.le_refl _⟩
  | succ i ih => rw [sp_lc_s]; split <;> omega
/-! what is wrong with a program, as the reference says it -/
def sp_wu (n : Nat) (K A : Nat → Int) : Nat → Int
  | 0 => 0
  | i + 1 => if 1 < K i ∧ sp_dn K A (A i) n = 0 then 2 else sp_wu n K A i
theorem sp_wu_s (n : Nat) (K A : Nat → Int) (i : Nat) : sp_wu n K A (i + 1) = if 1 < K i ∧ sp_dn K A (A i) n = 0 then 2 else sp_wu n K A i := rfl
theorem sp_wu_or (n : Nat) (K A : Nat → Int) (i : Nat) : (sp_wu n K A i = 2 ∧ ∃ j, j < i ∧ 1 < K j ∧ sp_dn K A (A j) n = 0) ∨ (sp_wu n K A i = 0 ∧ ∀ j, j < i → ¬ (1 < K j ∧ sp_dn K A (A j) n = 0)) := by
  induction i with
  | zero => right; exact ⟨rfl, fun j h => by omega⟩
  | succ i ih =>
    rw [sp_wu_s]
    by_cases hc : 1 < K i ∧ sp_dn K A (A i) n = 0
    · rw [if_pos hc]; left; exact ⟨rfl, i, by omega, hc⟩
    · rw [if_neg hc]
      rcases ih with ⟨h, j, h1, h2⟩ | ⟨h, h1⟩
      · left; exact ⟨h, j, by omega, h2⟩
      · right
        refine ⟨h, fun j hj => ?_⟩
        by_cases hji : j = i
        · rw [hji]; exact hc
        · exact h1 j (by omega)
def sp_wt (n : Nat) (K A : Nat → Int) (w0 : Int) : Nat → Int
  | 0 => w0
  | i + 1 => if 1 < sp_dn K A (i : Int) n then 1 else sp_wt n K A w0 i
theorem sp_wt_s (n : Nat) (K A : Nat → Int) (w0 : Int) (i : Nat) : sp_wt n K A w0 (i + 1) = if 1 < sp_dn K A (i : Int) n then 1 else sp_wt n K A w0 i := rfl
theorem sp_wt_or (n : Nat) (K A : Nat → Int) (w0 : Int) (i : Nat) : (sp_wt n K A w0 i = 1 ∧ ∃ x : Nat, x < i ∧ 1 < sp_dn K A (x : Int) n) ∨ (sp_wt n K A w0 i = w0 ∧ ∀ x : Nat, x < i → ¬ 1 < sp_dn K A (x : Int) n) := by
  induction i with
  | zero => right; exact ⟨rfl, fun j h => by omega⟩
  | succ i ih =>
    rw [sp_wt_s]
    by_cases hc : 1 < sp_dn K A (i : Int) n
    · rw [if_pos hc]; left; exact ⟨rfl, i, by omega, hc⟩
    · rw [if_neg hc]
      rcases ih with ⟨h, j, h1, h2⟩ | ⟨h, h1⟩
      · left; exact ⟨h, j, by omega, h2⟩
      · right
        refine ⟨h, fun j hj => ?_⟩
        by_cases hji : j = i
        · rw [hji]; exact hc
        · exact h1 j (by omega)
def sp_wr (n : Nat) (K A : Nat → Int) : Int := sp_wt n K A (sp_wu n K A n) 16
theorem sp_wr_or {n : Nat} {K A B : Nat → Int} (hg : sp_gp K A B n) : (sp_wr n K A = 1 ∧ sp_tw n K A) ∨ (sp_wr n K A = 2 ∧ ¬ sp_tw n K A ∧ sp_un n K A) ∨ (sp_wr n K A = 0 ∧ ¬ sp_tw n K A ∧ ¬ sp_un n K A) := by
  unfold sp_wr
  rcases sp_wt_or n K A (sp_wu n K A n) 16 with ⟨h, x, h1, h2⟩ | ⟨h, h1⟩
  · left; exact ⟨h, x, h1, h2⟩
  · right
    have ht : ¬ sp_tw n K A := fun ⟨x, q1, q2⟩ => h1 x q1 q2
    rcases sp_wu_or n K A n with ⟨g, j, g1, g2, g3⟩ | ⟨g, g1⟩
    · left
      refine ⟨by rw [h, g], ht, j, g1, ?_, g3⟩
      have := hg j g1
      unfold sp_gd at this
      omega
    · right
      exact ⟨by rw [h, g], ht, fun ⟨j, q1, q2, q3⟩ => g1 j q1 ⟨by omega, q3⟩⟩
end
