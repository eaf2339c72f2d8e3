/-! more of the pure side: forms of a byte that omega can use -/
def sp_pb (v o : Int) : Int := if o = 0 then sp_hi v else sp_lo v
theorem sp_pb_or (v o : Int) : (o = 0 ∧ sp_pb v o = v / 256 % 256) ∨ (o ≠ 0 ∧ sp_pb v o = v % 256) := by
  unfold sp_pb sp_hi sp_lo
  split <;> omega
theorem sp_lb_1 {n : Nat} {K A B z : Nat → Int} {j : Nat} {o : Int} (h : K j = 1) : sp_lb n K A B z j o = B j := by
  unfold sp_lb; rw [if_pos h]
theorem sp_lb_2 {n : Nat} {K A B z : Nat → Int} {j : Nat} {o : Int} (h : K j = 2) : sp_lb n K A B z j o = sp_pb (sp_la K A z n (A j) + B j) o := by
  unfold sp_lb sp_pb; rw [if_neg (by omega), if_pos h]
theorem sp_lb_or {n : Nat} {K A B z : Nat → Int} {j : Nat} (o : Int) (h : K j = 3) : (z j = 2 ∧ o = 0 ∧ sp_lb n K A B z j o = 32 + B j) ∨ (z j = 2 ∧ o ≠ 0 ∧ sp_lb n K A B z j o = sp_ds n K A z j % 256) ∨ (z j = 5 ∧ o = 0 ∧ sp_lb n K A B z j o = sp_op (B j)) ∨ (z j = 5 ∧ o < 2 ∧ o ≠ 0 ∧ sp_lb n K A B z j o = 3) ∨
    (z j ≠ 2 ∧ ¬ (z j = 5 ∧ o < 2) ∧ o = z j - 3 ∧ sp_lb n K A B z j o = 64) ∨ (z j ≠ 2 ∧ ¬ (z j = 5 ∧ o < 2) ∧ o = z j - 2 ∧ sp_lb n K A B z j o = sp_ds n K A z j / 256 % 256) ∨ (z j ≠ 2 ∧ ¬ (z j = 5 ∧ o < 2) ∧ o ≠ z j - 3 ∧ o ≠ z j - 2 ∧ sp_lb n K A B z j o = sp_ds n K A z j % 256) := by
  unfold sp_lb sp_hi sp_lo
  rw [if_neg (by omega), if_neg (by omega)]
  repeat' split
  all_goals omega
/-! what the arrays hold -/
def as_F (n : Nat) (K A B : Nat → Int) (g0 g1 g2 : Nat → Int32) : Prop := (∀ j, j < n → g0 j = ji_n (K j)) ∧ (∀ j, j < n → g1 j = ji_n (A j)) ∧ ∀ j, j < n → g2 j = ji_n (B j)
def as_S (n : Nat) (K A z : Nat → Int) (st fm vl : Nat → Int32) : Prop := (∀ j, j < n + 1 → st j = ji_n (sp_pz z j)) ∧ (∀ j, j < n → fm j = ji_n (sp_fm (K j) (z j))) ∧ ∀ x : Int, 0 ≤ x → x < 16 → vl x.toNat = ji_n (sp_la K A z n x)
/-! arrays that a shift or a copy leaves -/
theorem as_in {f : Nat → Int32} {K : Nat → Int} {n i : Nat} {x : Int} (h : ∀ j, j < n → f j = ji_n (K j)) (hi : i ≤ n) : ∀ j, j < n + 1 → upd (va_cpy f f i (i + 1) (n - i)) i (ji_n x) j = ji_n (sp_in K i x j) := by
  intro j hj
  unfold sp_in
  by_cases h1 : j < i
  · rw [if_pos h1, pk_un (by omega), pk_cpy_out (by omega)]; exact h j (by omega)
  · rw [if_neg h1]
    by_cases h2 : j = i
    · rw [if_pos h2, h2, pk_us]
    · rw [if_neg h2, pk_un h2, pk_cpy_in (by omega) (by omega), show i + (j - (i + 1)) = j - 1 by omega]
      exact h (j - 1) (by omega)
theorem as_rm {f : Nat → Int32} {K : Nat → Int} {n i : Nat} (h : ∀ j, j < n + 1 → f j = ji_n (K j)) (hi : i < n + 1) : ∀ j, j < n → va_cpy f f (i + 1) i (n - i) j = ji_n (sp_rm K i j) := by
  intro j hj
  unfold sp_rm
  by_cases h1 : j < i
  · rw [if_pos h1, pk_cpy_out (by omega)]; exact h j (by omega)
  · rw [if_neg h1, pk_cpy_in (by omega) (by omega), show i + 1 + (j - i) = j + 1 by omega]
    exact h (j + 1) (by omega)
theorem as_cp {f g : Nat → Int32} {K : Nat → Int} {n : Nat} (h : ∀ j, j < n → g j = ji_n (K j)) : ∀ j, j < n → va_cpy g f 0 0 n j = ji_n (K j) := by
  intro j hj
  rw [pk_cpy_in (by omega) (by omega), show 0 + (j - 0) = j by omega]
  exact h j hj
/-! a round of the class: the jumps that do not reach grow -/
def sp_nr (n : Nat) (K A z : Nat → Int) (j : Nat) : Prop := K j = 3 ∧ z j = 2 ∧ ¬ (-128 ≤ sp_ds n K A z j ∧ sp_ds n K A z j ≤ 127)
def sp_lz (n : Nat) (K A B z : Nat → Int) (j : Nat) : Int := if K j = 3 ∧ z j = 2 ∧ ¬ (-128 ≤ sp_ds n K A z j ∧ sp_ds n K A z j ≤ 127) then sp_lg (B j) else z j
theorem sp_lz_or (n : Nat) (K A B z : Nat → Int) (j : Nat) : (K j = 3 ∧ z j = 2 ∧ ¬ (-128 ≤ sp_ds n K A z j ∧ sp_ds n K A z j ≤ 127) ∧ sp_lz n K A B z j = sp_lg (B j)) ∨ (¬ (K j = 3 ∧ z j = 2 ∧ ¬ (-128 ≤ sp_ds n K A z j ∧ sp_ds n K A z j ≤ 127)) ∧ sp_lz n K A B z j = z j) := by
  unfold sp_lz
  split
  · left; rename_i h; exact ⟨h.1, h.2.1, h.2.2, rfl⟩
  · right; rename_i h; exact ⟨h, rfl⟩
def sp_cg (n : Nat) (K A z : Nat → Int) : Nat → Int
  | 0 => 0
  | i + 1 => if K i = 3 ∧ z i = 2 ∧ ¬ (-128 ≤ sp_ds n K A z i ∧ sp_ds n K A z i ≤ 127) then 1 else sp_cg n K A z i
theorem sp_cg_s (n : Nat) (K A z : Nat → Int) (i : Nat) : sp_cg n K A z (i + 1) = if K i = 3 ∧ z i = 2 ∧ ¬ (-128 ≤ sp_ds n K A z i ∧ sp_ds n K A z i ≤ 127) then 1 else sp_cg n K A z i := rfl
theorem sp_cg_or (n : Nat) (K A z : Nat → Int) (i : Nat) : (sp_cg n K A z i = 1 ∧ ∃ j, j < i ∧ K j = 3 ∧ z j = 2 ∧ ¬ (-128 ≤ sp_ds n K A z j ∧ sp_ds n K A z j ≤ 127)) ∨ (sp_cg n K A z i = 0 ∧ ∀ j, j < i → ¬ (K j = 3 ∧ z j = 2 ∧ ¬ (-128 ≤ sp_ds n K A z j ∧ sp_ds n K A z j ≤ 127))) := by
  induction i with
  | zero => right; exact ⟨rfl, fun j h => by omega⟩
  | succ i ih =>
    rw [sp_cg_s]
    by_cases hc : K i = 3 ∧ z i = 2 ∧ ¬ (-128 ≤ sp_ds n K A z i ∧ sp_ds n K A z i ≤ 127)
    · rw [if_pos hc]; left; exact ⟨rfl, i, by omega, hc⟩
    · rw [if_neg hc]
      rcases ih with ⟨h, j, h1, h2⟩ | ⟨h, h1⟩
      · left; exact ⟨h, j, by omega, h2⟩
      · right
        refine ⟨h, fun j hj => ?_⟩
        by_cases hji : j = i
        · rw [hji]; exact hc
        · exact h1 j (by omega)
theorem sp_lz_AS {n : Nat} {K A B z : Nat → Int} (h : sp_AS n K A B z) : sp_AS n K A B (sp_lz n K A B z) := by
  refine ⟨h.1, h.2.1, sp_ok_to h.2.2.1 (fun j hj => ?_), h.2.2.2⟩
  rcases sp_lz_or n K A B z j with ⟨h1, -, -, h2⟩ | ⟨-, h2⟩
  · right; exact ⟨h1, h2⟩
  · left; exact h2
theorem sp_lz_lw {n : Nat} {K A B z : Nat → Int} (h : sp_AS n K A B z) (hd : sp_df n K A) (hl : sp_lw n K A B z) : sp_lw n K A B (sp_lz n K A B z) := by
  refine sp_lw_to h.2.1 h.2.2.2 hd h.2.2.1 hl (fun j hj => ?_)
  rcases sp_lz_or n K A B z j with ⟨h1, h2, h3, h4⟩ | ⟨-, h2⟩
  · right; exact ⟨h1, h4, h3⟩
  · left; exact h2
theorem sp_lz_ct {n : Nat} {K A B z : Nat → Int} (h : sp_cg n K A z n = 1) : sp_ct K z n + 1 ≤ sp_ct K (sp_lz n K A B z) n := by
  rcases sp_cg_or n K A z n with ⟨-, j, h1, h2, h3, h4⟩ | ⟨h0, -⟩
  · refine (sp_ct_up (n := n) (fun i hi => ?_) j ?_ n (Nat.le_refl n)).2 h1
    · rcases sp_lz_or n K A B z i with ⟨q1, q2, q3, q4⟩ | ⟨-, q2⟩
      · right; refine ⟨q1, q2, ?_⟩; have := sp_lg_or (B i); omega
      · left; exact q2
    · refine ⟨h2, h3, ?_⟩
      have := sp_lg_or (B j)
      rcases sp_lz_or n K A B z j with ⟨q1, q2, q3, q4⟩ | ⟨q1, -⟩
      · omega
      · exact absurd ⟨h2, h3, h4⟩ q1
  · omega
theorem sp_cg_cs {n : Nat} {K A z : Nat → Int} (h : sp_cg n K A z n = 0) : sp_cs n K A z := by
  rcases sp_cg_or n K A z n with ⟨h0, -⟩ | ⟨-, h1⟩
  · omega
  · intro j hj h3 h2
    have := h1 j hj
    omega
/-! answers of the calls -/
def sp_ad (n : Nat) (z : Nat → Int) (x : Int) : Int := if 0 ≤ x ∧ x < (n : Int) then sp_pz z x.toNat else -1
def sp_fo (n : Nat) (K z : Nat → Int) (x : Int) : Int := if 0 ≤ x ∧ x < (n : Int) then sp_fm (K x.toNat) (z x.toNat) else -1
def sp_ju (x : Int) : Int := if 1 < x then 1 else 0
theorem sp_ju_or (x : Int) : (1 < x ∧ sp_ju x = 1) ∨ (x ≤ 1 ∧ sp_ju x = 0) := by unfold sp_ju; split <;> omega
def sp_ez (x : Int) : Int := if x = 0 then 1 else 0
theorem sp_ez_or (x : Int) : (x = 0 ∧ sp_ez x = 1) ∨ (x ≠ 0 ∧ sp_ez x = 0) := by unfold sp_ez; split <;> omega
def sp_fw (n : Nat) (K A B z : Nat → Int) (x t : Int) : Int := if sp_os n K A B z x = 0 then 0 else sp_nx n K A B z x t
def sp_tc (n : Nat) (K A B z : Nat → Int) (x : Int) (bits : Int32) (m : Int) : Int := if 0 ≤ m ∧ m ≤ 40 then sp_tr n K A B z (fun k => sp_bt bits (k % 32)) m.toNat 0 x else -1
theorem sp_tr_n {n : Nat} {K A B z : Nat → Int} {bit : Nat → Int} {r k : Nat} {h : Int} (h0 : sp_os n K A B z h ≠ 0) : sp_tr n K A B z bit (r + 1) k h = sp_tr n K A B z bit r (k + 1) (sp_nx n K A B z h (sp_fl (bit k) (sp_ai n K A B z h))) := by rw [sp_tr_s, if_neg h0]
theorem sp_la_out {n : Nat} {K A B z : Nat → Int} (hg : sp_gp K A B n) {x : Int} (h : ¬ (0 ≤ x ∧ x ≤ 15)) : sp_la K A z n x = -1 := by
  refine sp_la_no (fun k hk q => ?_)
  have := hg k hk
  unfold sp_gd at this
  omega
theorem as_hole {f : Nat → Int32} {K : Nat → Int} {n i : Nat} {x : Int} (h : ∀ j, j ≤ n → j ≠ i → f j = ji_n (sp_in K i 0 j)) : ∀ j, j < n + 1 → upd f i (ji_n x) j = ji_n (sp_in K i x j) := by
  intro j hj
  by_cases hji : j = i
  · rw [hji, pk_us]; unfold sp_in; rw [if_neg (by omega), if_pos rfl]
  · rw [pk_un hji, h j (by omega) hji]; unfold sp_in; rw [if_neg hji, if_neg hji]
theorem as_hole0 {f : Nat → Int32} {K : Nat → Int} {n : Nat} (h : ∀ j, j < n → f j = ji_n (K j)) : ∀ j, j ≤ n → j ≠ n → f j = ji_n (sp_in K n 0 j) := by
  intro j h1 h2
  unfold sp_in
  rw [if_pos (by omega)]; exact h j (by omega)
theorem as_holeS {f : Nat → Int32} {K : Nat → Int} {n i : Nat} {v : Int} (h : ∀ j, j ≤ n → j ≠ i + 1 → f j = ji_n (sp_in K (i + 1) 0 j)) (hv : v = K i) : ∀ j, j ≤ n → j ≠ i → upd f (i + 1) (ji_n v) j = ji_n (sp_in K i 0 j) := by
  intro j h1 h2
  by_cases hji : j = i + 1
  · rw [hji, pk_us, hv]; unfold sp_in; rw [if_neg (by omega), if_neg (by omega)]; rfl
  · rw [pk_un hji, h j h1 hji]
    unfold sp_in
    by_cases hlt : j < i
    · rw [if_pos hlt, if_pos (by omega)]
    · rw [if_neg hlt, if_neg (by omega), if_neg hji, if_neg h2]
theorem as_rmS {f : Nat → Int32} {K : Nat → Int} {n a i : Nat} {v : Int} (h : ∀ j, j < n → f j = ji_n (if a ≤ j ∧ j < i then K (j + 1) else K j)) (hai : a ≤ i) (hv : v = K (i + 1)) : ∀ j, j < n → upd f i (ji_n v) j = ji_n (if a ≤ j ∧ j < i + 1 then K (j + 1) else K j) := by
  intro j hj
  by_cases hji : j = i
  · rw [hji, pk_us, if_pos ⟨hai, by omega⟩, hv]
  · rw [pk_un hji, h j hj]
    by_cases hc : a ≤ j ∧ j < i
    · rw [if_pos hc, if_pos ⟨hc.1, by omega⟩]
    · rw [if_neg hc, if_neg (by omega)]
theorem as_rmE {f : Nat → Int32} {K : Nat → Int} {n a : Nat} (h : ∀ j, j < n + 1 → f j = ji_n (if a ≤ j ∧ j < n then K (j + 1) else K j)) : ∀ j, j < n → f j = ji_n (sp_rm K a j) := by
  intro j hj
  rw [h j (by omega)]
  unfold sp_rm
  by_cases hc : j < a
  · rw [if_neg (by omega), if_pos hc]
  · rw [if_pos ⟨by omega, hj⟩, if_neg hc]
/-! the reference in a round -/
def sp_up (z : Nat → Int) (i : Nat) (v : Int) (j : Nat) : Int := if j = i then v else z j
theorem sp_up_or (z : Nat → Int) (i : Nat) (v : Int) (j : Nat) : (j = i ∧ sp_up z i v j = v) ∨ (j ≠ i ∧ sp_up z i v j = z j) := by
  unfold sp_up
  split
  · left; exact ⟨by assumption, rfl⟩
  · right; exact ⟨by assumption, rfl⟩
def sp_rd (n : Nat) (K A B z : Nat → Int) (r i : Nat) (mo : Int) : Prop := sp_AS n K A B z ∧ sp_lw n K A B z ∧ ((mo = 1 ∧ r + 1 ≤ sp_ct K z n) ∨ (mo = 0 ∧ r ≤ sp_ct K z n ∧ ∀ j, j < i → ¬ (K j = 3 ∧ z j = 2 ∧ ¬ (-128 ≤ sp_ds n K A z j ∧ sp_ds n K A z j ≤ 127))))
theorem sp_rd_k {n : Nat} {K A B z : Nat → Int} {r i : Nat} {mo : Int} (h : sp_rd n K A B z r i mo) (hi : ¬ (K i = 3 ∧ z i = 2 ∧ ¬ (-128 ≤ sp_ds n K A z i ∧ sp_ds n K A z i ≤ 127))) : sp_rd n K A B z r (i + 1) mo := by
  refine ⟨h.1, h.2.1, ?_⟩
  rcases h.2.2 with h1 | ⟨h1, h2, h3⟩
  · exact Or.inl h1
  · right
    refine ⟨h1, h2, fun j hj => ?_⟩
    by_cases hji : j = i
    · rw [hji]; exact hi
    · exact h3 j (by omega)
theorem sp_rd_u {n : Nat} {K A B z : Nat → Int} {r i : Nat} {mo : Int} (hd : sp_df n K A) (h : sp_rd n K A B z r i mo) (hin : i < n) (hi : K i = 3 ∧ z i = 2 ∧ ¬ (-128 ≤ sp_ds n K A z i ∧ sp_ds n K A z i ≤ 127)) : sp_rd n K A B (sp_up z i (sp_lg (B i))) r (i + 1) 1 := by
  have hl := sp_lg_or (B i)
  refine ⟨⟨h.1.1, h.1.2.1, sp_ok_to h.1.2.2.1 (fun j hj => ?_), h.1.2.2.2⟩, sp_lw_to h.1.2.1 h.1.2.2.2 hd h.1.2.2.1 h.2.1 (fun j hj => ?_), Or.inl ⟨rfl, ?_⟩⟩
  · rcases sp_up_or z i (sp_lg (B i)) j with ⟨q, e⟩ | ⟨q, e⟩
    · right; rw [q] at e ⊢; exact ⟨hi.1, e⟩
    · left; exact e
  · rcases sp_up_or z i (sp_lg (B i)) j with ⟨q, e⟩ | ⟨q, e⟩
    · right; rw [q] at e ⊢; exact ⟨hi.1, e, hi.2.2⟩
    · left; exact e
  · have hc : sp_ct K z n + 1 ≤ sp_ct K (sp_up z i (sp_lg (B i))) n := by
      refine (sp_ct_up (n := n) (fun j hj => ?_) i ?_ n (Nat.le_refl n)).2 hin
      · rcases sp_up_or z i (sp_lg (B i)) j with ⟨q, e⟩ | ⟨q, e⟩
        · right; rw [q] at e ⊢; exact ⟨hi.1, hi.2.1, by omega⟩
        · left; exact e
      · rcases sp_up_or z i (sp_lg (B i)) i with ⟨q, e⟩ | ⟨q, e⟩
        · exact ⟨hi.1, hi.2.1, by omega⟩
        · exact absurd rfl q
    rcases h.2.2 with h1 | ⟨h1, h2, h3⟩ <;> omega
theorem sp_rd_e {n : Nat} {K A B z : Nat → Int} {r : Nat} {mo : Int} (h : sp_rd n K A B z r n mo) : sp_AS n K A B z ∧ sp_lw n K A B z ∧ ((mo = 1 ∧ r + 1 ≤ sp_ct K z n) ∨ (mo = 0 ∧ sp_cs n K A z)) := by
  refine ⟨h.1, h.2.1, ?_⟩
  rcases h.2.2 with h1 | ⟨h1, h2, h3⟩
  · exact Or.inl h1
  · right
    refine ⟨h1, fun j hj q1 q2 => ?_⟩
    have := h3 j hj
    omega
