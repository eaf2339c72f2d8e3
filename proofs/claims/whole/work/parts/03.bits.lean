/-! bits: masks, shifts, narrowings over ji_n -/
theorem jb_nat (x : Int) : (ji_n x).toBitVec.toNat = (x % 4294967296).toNat := by
  show (BitVec.ofInt 32 x).toNat = _
  rw [BitVec.toNat_ofInt]
  rfl
theorem jb_and255 (x : Int) : ji_n x &&& ji_n 255 = ji_n (x % 256) := by
  rw [pk_and (ji_n x) (m := ji_n 255) 8 (by decide), jb_nat, ji_nI]
  congr 1
  omega
theorem jb_shr8 {x : Int} (h : ji_r x) : ji_n x >>> (ji_n 8 &&& 31) = ji_n (x / 256) := by
  have e := pk_shr (ji_n x) (ji_n 8 &&& 31) 8 (by decide)
  rw [ji_toInt h, Int.shiftRight_eq_div_pow] at e
  have h2 : ji_r (x / 256) := by unfold ji_r at h ⊢; omega
  refine Int32.toInt_inj.mp ?_
  rw [ji_toInt h2, e]
  rfl
theorem jb_i2b {x : Int} (h : 0 ≤ x ∧ x ≤ 255) : (ji_n x).toInt8.toInt32 = ji_n (sp_sb x) := by
  have h1 : ji_r x := by unfold ji_r; omega
  have hs := sp_sb_or x
  have h2 : ji_r (sp_sb x) := by unfold ji_r; omega
  refine Int32.toInt_inj.mp ?_
  rw [ji_toInt h2, Int8.toInt_toInt32, Int32.toInt_toInt8, ji_toInt h1, Int.bmod_def]
  split <;> omega
def sp_sh (x : Int) : Int := if 32767 < x then x - 65536 else x
theorem sp_sh_or (x : Int) : (32767 < x ∧ sp_sh x = x - 65536) ∨ (x ≤ 32767 ∧ sp_sh x = x) := by
  unfold sp_sh
  split <;> omega
theorem jb_i2s {x : Int} (h : 0 ≤ x ∧ x ≤ 65535) : (ji_n x).toInt16.toInt32 = ji_n (sp_sh x) := by
  have h1 : ji_r x := by unfold ji_r; omega
  have hs := sp_sh_or x
  have h2 : ji_r (sp_sh x) := by unfold ji_r; omega
  refine Int32.toInt_inj.mp ?_
  rw [ji_toInt h2, Int16.toInt_toInt32, Int32.toInt_toInt16, ji_toInt h1, Int.bmod_def]
  split <;> omega
def sp_x4 (c : Int) : Int := if c < 4 then c + 4 else c - 4
theorem sp_x4_or (c : Int) : (c < 4 ∧ sp_x4 c = c + 4) ∨ (4 ≤ c ∧ sp_x4 c = c - 4) := by
  unfold sp_x4
  split <;> omega
theorem jb_xor4 {c : Int} (h : 0 ≤ c ∧ c ≤ 7) : ji_n c ^^^ ji_n 4 = ji_n (sp_x4 c) := by
  have : c = 0 ∨ c = 1 ∨ c = 2 ∨ c = 3 ∨ c = 4 ∨ c = 5 ∨ c = 6 ∨ c = 7 := by omega
  rcases this with rfl | rfl | rfl | rfl | rfl | rfl | rfl | rfl <;> decide
theorem sp_op_or {c : Int} : (c = 4 ∧ sp_op c = 44) ∨ (c ≠ 4 ∧ c < 4 ∧ sp_op c = 36 + c) ∨ (c ≠ 4 ∧ 4 ≤ c ∧ sp_op c = 28 + c) := by
  unfold sp_op
  split
  · omega
  · split <;> omega
theorem jb_rem32 (k : Nat) (h : k < 1000) : ji_n (k : Int) - ji_n (k : Int) / ji_n 32 * ji_n 32 = ji_n ((k % 32 : Nat) : Int) := by
  have := pk_rem (a := k) (d := 32) (by omega) (by omega) (by omega)
  exact this
def sp_bt (x : Int32) (j : Nat) : Int := ((x.toBitVec.toNat / 2 ^ j % 2 : Nat) : Int)
theorem sp_bt_or (x : Int32) (j : Nat) : sp_bt x j = 0 ∨ sp_bt x j = 1 := by unfold sp_bt; omega
theorem jb_sl : ∀ n, n < 32 → ((nI n &&& 31).toBitVec.smod 32).toNat = n := by decide
theorem jb_su : ∀ n, n < 32 → (((nI n).toUInt32 &&& Int32.toUInt32 31).toBitVec % 32).toNat = n := by decide
theorem jb_ubit (x : Int32) (j : Nat) (hj : j < 32) : (x.toUInt32 >>> ((ji_n (j : Int)).toUInt32 &&& Int32.toUInt32 31)).toInt32 &&& ji_n 1 = ji_n (sp_bt x j) := by
  rw [pk_and _ (m := ji_n 1) 1 (by decide), ← ji_nI, pk_ushr x (nI j) j (jb_su j hj), ji_nI]
  rfl
theorem jb_par (a : Nat) (j : Nat) (hj : j < 32) (ha : a < 4294967296) : ((a : Int) - 4294967296) / 2 ^ j % 2 = (a : Int) / 2 ^ j % 2 := by
  have e : (4294967296 : Int) = 2 * 2 ^ (31 - j) * 2 ^ j := by
    rw [Int.mul_assoc, ← Int.pow_add]
    have : 31 - j + j = 31 := by omega
    rw [this]; rfl
  have hp : (2 : Int) ^ j ≠ 0 := by
    have : (0 : Int) < 2 ^ j := Int.pow_pos (by decide)
    omega
  rw [e, Int.sub_eq_add_neg, ← Int.neg_mul, Int.add_mul_ediv_right _ _ hp]
  omega
theorem jb_sbit (x : Int32) (j : Nat) (hj : j < 32) : (x >>> (ji_n (j : Int) &&& 31)) &&& ji_n 1 = ji_n (sp_bt x j) := by
  rw [pk_and _ (m := ji_n 1) 1 (by decide), ji_nI]
  have e := pk_shr x (ji_n (j : Int) &&& 31) j (jb_sl j hj)
  rw [Int.shiftRight_eq_div_pow] at e
  congr 1
  unfold sp_bt
  generalize x >>> (ji_n (j : Int) &&& 31) = y at e ⊢
  have hy : y.toInt = y.toBitVec.toInt := rfl
  have hx : x.toInt = x.toBitVec.toInt := rfl
  rw [hy, hx, BitVec.toInt_eq_toNat_cond, BitVec.toInt_eq_toNat_cond] at e
  have l1 := y.toBitVec.isLt
  have l2 := x.toBitVec.isLt
  have p1 := jb_par x.toBitVec.toNat j hj (by omega)
  have c1 : ((2 ^ j : Nat) : Int) = (2 : Int) ^ j := by push_cast; rfl
  push_cast
  have c2 : (((2 : Nat) ^ 32 : Nat) : Int) = 4294967296 := rfl
  rw [c1, c2] at e
  split at e <;> split at e <;> omega
section JB
variable {p : Program} {l : Launch} {e : Env} {R : Room} {s : State} {m : MethodId} {args : Array Value} {below : List Frame} {meth : Method} {c : Code} {H : Heap} {locs : List Loc} {cells slots : Nat} {Q : State → Prop}
variable {cc : ByteArray} {pc : Nat} {ls : Array Slot} {rest : List Value}
theorem jn_and255 (hexec : p.tables.exec = Jvm.exec) (hb : c.code = cc) {x : Int} (hdg : decode cc pc = .ok (.iand, 1)) (k : W p l e R s m args below meth c H locs cells slots Q (F0 m (pc + 1) ls (.int (ji_n (x % 256)) :: rest))) : W p l e R s m args below meth c H locs cells slots Q (F0 m pc ls (.int (ji_n 255) :: .int (ji_n x) :: rest)) := lv_iand hexec hb hdg (by rw [jb_and255]; exact k)
theorem jn_shr8 (hexec : p.tables.exec = Jvm.exec) (hb : c.code = cc) {x : Int} (hdg : decode cc pc = .ok (.ishr, 1)) (hr : ji_r x) (k : W p l e R s m args below meth c H locs cells slots Q (F0 m (pc + 1) ls (.int (ji_n (x / 256)) :: rest))) : W p l e R s m args below meth c H locs cells slots Q (F0 m pc ls (.int (ji_n 8) :: .int (ji_n x) :: rest)) := lv_ishr hexec hb hdg (by rw [jb_shr8 hr]; exact k)
theorem jn_i2b (hexec : p.tables.exec = Jvm.exec) (hb : c.code = cc) {x : Int} (hdg : decode cc pc = .ok (.i2b, 1)) (hr : 0 ≤ x ∧ x ≤ 255) (k : W p l e R s m args below meth c H locs cells slots Q (F0 m (pc + 1) ls (.int (ji_n (sp_sb x)) :: rest))) : W p l e R s m args below meth c H locs cells slots Q (F0 m pc ls (.int (ji_n x) :: rest)) := lv_i2b hexec hb hdg (jb_i2b hr) k
theorem jn_i2s (hexec : p.tables.exec = Jvm.exec) (hb : c.code = cc) {x : Int} (hdg : decode cc pc = .ok (.i2s, 1)) (hr : 0 ≤ x ∧ x ≤ 65535) (k : W p l e R s m args below meth c H locs cells slots Q (F0 m (pc + 1) ls (.int (ji_n (sp_sh x)) :: rest))) : W p l e R s m args below meth c H locs cells slots Q (F0 m pc ls (.int (ji_n x) :: rest)) := lv_i2s hexec hb hdg (jb_i2s hr) k
theorem jn_xor4 (hexec : p.tables.exec = Jvm.exec) (hb : c.code = cc) {x : Int} (hdg : decode cc pc = .ok (.ixor, 1)) (hr : 0 ≤ x ∧ x ≤ 7) (k : W p l e R s m args below meth c H locs cells slots Q (F0 m (pc + 1) ls (.int (ji_n (sp_x4 x)) :: rest))) : W p l e R s m args below meth c H locs cells slots Q (F0 m pc ls (.int (ji_n 4) :: .int (ji_n x) :: rest)) := lv_ixor hexec hb hdg (by rw [jb_xor4 hr]; exact k)
theorem jn_rem32 (hexec : p.tables.exec = Jvm.exec) (hb : c.code = cc) {x : Nat} (hdg : decode cc pc = .ok (.irem, 1)) (hr : x < 1000) (k : W p l e R s m args below meth c H locs cells slots Q (F0 m (pc + 1) ls (.int (ji_n ((x % 32 : Nat) : Int)) :: rest))) : W p l e R s m args below meth c H locs cells slots Q (F0 m pc ls (.int (ji_n 32) :: .int (ji_n (x : Int)) :: rest)) := lv_irem hexec hb hdg (by decide) (by rw [jb_rem32 x hr]; exact k)
theorem jn_iushr (hexec : p.tables.exec = Jvm.exec) (hb : c.code = cc) {x : Int32} {j : Nat} (hdg : decode cc pc = .ok (.iushr, 1)) (k : W p l e R s m args below meth c H locs cells slots Q (F0 m (pc + 1) ls (.int (x.toUInt32 >>> ((ji_n (j : Int)).toUInt32 &&& Int32.toUInt32 31)).toInt32 :: rest))) : W p l e R s m args below meth c H locs cells slots Q (F0 m pc ls (.int (ji_n (j : Int)) :: .int x :: rest)) := lv_iushr hexec hb hdg rfl k
theorem jn_ubit (hexec : p.tables.exec = Jvm.exec) (hb : c.code = cc) {x : Int32} {j : Nat} (hj : j < 32) (hdg : decode cc pc = .ok (.iand, 1)) (k : W p l e R s m args below meth c H locs cells slots Q (F0 m (pc + 1) ls (.int (ji_n (sp_bt x j)) :: rest))) : W p l e R s m args below meth c H locs cells slots Q (F0 m pc ls (.int (ji_n 1) :: .int (x.toUInt32 >>> ((ji_n (j : Int)).toUInt32 &&& Int32.toUInt32 31)).toInt32 :: rest)) := lv_iand hexec hb hdg (by rw [jb_ubit x j hj]; exact k)
theorem jn_sbit (hexec : p.tables.exec = Jvm.exec) (hb : c.code = cc) {x : Int32} {j : Nat} (hj : j < 32) (hdg : decode cc pc = .ok (.iand, 1)) (k : W p l e R s m args below meth c H locs cells slots Q (F0 m (pc + 1) ls (.int (ji_n (sp_bt x j)) :: rest))) : W p l e R s m args below meth c H locs cells slots Q (F0 m pc ls (.int (ji_n 1) :: .int (x >>> (ji_n (j : Int) &&& 31)) :: rest)) := lv_iand hexec hb hdg (by rw [jb_sbit x j hj]; exact k)
end JB
/-! answers 0 or 1 -/
def sp_wi (x lo hi : Int) : Int := if lo ≤ x ∧ x ≤ hi then 1 else 0
theorem sp_wi_or (x lo hi : Int) : (lo ≤ x ∧ x ≤ hi ∧ sp_wi x lo hi = 1) ∨ (¬ (lo ≤ x ∧ x ≤ hi) ∧ sp_wi x lo hi = 0) := by
  unfold sp_wi
  split
  · left; omega
  · right; omega
theorem sp_wi_b (x lo hi : Int) : sp_wi x lo hi = 0 ∨ sp_wi x lo hi = 1 := by have := sp_wi_or x lo hi; omega
def sp_gl (k a b : Int) : Int := if (k = 0 ∧ 0 ≤ a ∧ a ≤ 15 ∧ b = 0) ∨ (k = 1 ∧ 1 ≤ a ∧ a ≤ 200 ∧ 0 ≤ b ∧ b ≤ 255) ∨ (k = 2 ∧ 0 ≤ a ∧ a ≤ 15 ∧ -1000 ≤ b ∧ b ≤ 1000) ∨ (k = 3 ∧ 0 ≤ a ∧ a ≤ 15 ∧ 0 ≤ b ∧ b ≤ 7) then 1 else 0
theorem sp_gl_or (k a b : Int) : (sp_gd k a b ∧ sp_gl k a b = 1) ∨ (¬ sp_gd k a b ∧ sp_gl k a b = 0) := by
  unfold sp_gd sp_gl
  split
  · left; exact ⟨by assumption, rfl⟩
  · right; exact ⟨by assumption, rfl⟩
theorem nb_b {z : Int} (h : z = 0 ∨ z = 1) : narrow .boolean (.int (ji_n z)) = .int (ji_n z) := by
  rcases h with rfl | rfl <;> rfl
