set_option maxHeartbeats 4000000 in
set_option maxRecDepth 100000 in
theorem ct_shift (l : Launch) (size_ : Nat) (dC : Nat → ClassId) (dI : Nat → Nat → Nat) (cI : ClassId) (v : Nat → Nat) (n : Nat) (f0 f1 f2 : Nat → Int32) (x y k : Nat) (h4 : x + k ≤ 50) (h5 : y + k ≤ 50) : Met l yX1_shift wsX1_shift { frames := 1, cells := 0, slots := 0, locals := 18 } (va_Pc [.ref (v 0), .int (ji_n (x : Int)), .int (ji_n (y : Int)), .int (ji_n (k : Int))] (wr_B (dC, dI) vwCl (wo_P v cI n f0 f1 f2) size_ (kn_K dC dI cI))) (wr_Qv (fun H => va_P (dC, dI) vwCl (wo_P v cI n (va_cpy f0 f0 x y k) (va_cpy f1 f1 x y k) (va_cpy f2 f2 x y k)) H) (va_A (wo_P v cI n f0 f1 f2) size_)) 0 0 (va_A (wo_P v cI n f0 f1 f2) size_) := by
  refine st_wv (cc := cX1_shift) (maxL := 4) (by decide) rfl (Nat.le_of_ble_eq_true rfl) (lv := [(0, .ref (v 0)), (1, .int (ji_n (x : Int))), (2, .int (ji_n (y : Int))), (3, .int (ji_n (k : Int)))]) rfl ?_
  intro p e s m args below meth c R Q ls A9 hx hb hts hown hml hR hP hD hA hS hN hl hend
  have hK := hN.1
  have hinX1 : ∀ w ∈ u_ws RX1 TX1 4, w ∈ wsX1_shift := fun w h => List.mem_cons_of_mem _ (inX1 w h)
  have hfl9 := (hts _ (List.mem_cons_of_mem _ tm_27))
  have hfl15 := (hts _ (List.mem_cons_of_mem _ tm_29))
  have hfl18 := (hts _ (List.mem_cons_of_mem _ tm_31))
  have hlink := (hts _ (List.mem_cons_of_mem _ tm_102))
  have hnat := (hts _ (List.mem_cons_of_mem _ tm_104))
  have hstat := (hts _ (List.mem_cons_of_mem _ tm_103))
  have hini := (hts _ (List.mem_cons_of_mem _ tm_6))
  refine lv_aload_n hx hb dX1_shift_0 rfl (lv_at hl 0 rfl) ?_
  refine va_get (ci := 1) (C := RX1) (T := TX1) (N := 4) hx hb hts hinX1 hown hK hP 0 rfl rfl 0 (by decide) hfl9 (fun _ h9 => h9) rfl dX1_shift_1 ?_
  refine lv_iload_n hx hb dX1_shift_4 rfl (lv_at hl 1 rfl) ?_
  refine lv_aload_n hx hb dX1_shift_5 rfl (lv_at hl 0 rfl) ?_
  refine va_get (ci := 1) (C := RX1) (T := TX1) (N := 4) hx hb hts hinX1 hown hK hP 0 rfl rfl 0 (by decide) hfl9 (fun _ h9 => h9) rfl dX1_shift_6 ?_
  refine lv_iload_n hx hb dX1_shift_9 rfl (lv_at hl 2 rfl) ?_
  refine lv_iload_n hx hb dX1_shift_10 rfl (lv_at hl 3 rfl) ?_
  refine jn_copy hx hb (hml.trans hl.1.symm) hown hlink hnat hstat hini hK hP hD hS 1 1 0 rfl rfl rfl x y k (by omega) (by omega) (by omega) (by omega) (by omega) (by decide) (by decide) (by rw [hR]; exact Nat.le_of_ble_eq_true rfl) (by rw [hR]; exact Nat.le_of_ble_eq_true rfl) dX1_shift_11 (fun H locs hP hD hS => ?_)
  have hP : va_P (dC, dI) vwCl (wo_P v cI n (va_cpy f0 f0 x y k) f1 f2) H := hP
  have hD : va_D A9 (wo_P v cI n (va_cpy f0 f0 x y k) f1 f2) := hD
  refine lv_aload_n hx hb dX1_shift_14 rfl (lv_at hl 0 rfl) ?_
  refine va_get (ci := 1) (C := RX1) (T := TX1) (N := 4) hx hb hts hinX1 hown hK hP 0 rfl rfl 1 (by decide) hfl15 (fun _ h9 => h9) rfl dX1_shift_15 ?_
  refine lv_iload_n hx hb dX1_shift_18 rfl (lv_at hl 1 rfl) ?_
  refine lv_aload_n hx hb dX1_shift_19 rfl (lv_at hl 0 rfl) ?_
  refine va_get (ci := 1) (C := RX1) (T := TX1) (N := 4) hx hb hts hinX1 hown hK hP 0 rfl rfl 1 (by decide) hfl15 (fun _ h9 => h9) rfl dX1_shift_20 ?_
  refine lv_iload_n hx hb dX1_shift_23 rfl (lv_at hl 2 rfl) ?_
  refine lv_iload_n hx hb dX1_shift_24 rfl (lv_at hl 3 rfl) ?_
  refine jn_copy hx hb (hml.trans hl.1.symm) hown hlink hnat hstat hini hK hP hD hS 2 2 0 rfl rfl rfl x y k (by omega) (by omega) (by omega) (by omega) (by omega) (by decide) (by decide) (by rw [hR]; exact Nat.le_of_ble_eq_true rfl) (by rw [hR]; exact Nat.le_of_ble_eq_true rfl) dX1_shift_25 (fun H locs hP hD hS => ?_)
  have hP : va_P (dC, dI) vwCl (wo_P v cI n (va_cpy f0 f0 x y k) (va_cpy f1 f1 x y k) f2) H := hP
  have hD : va_D A9 (wo_P v cI n (va_cpy f0 f0 x y k) (va_cpy f1 f1 x y k) f2) := hD
  refine lv_aload_n hx hb dX1_shift_28 rfl (lv_at hl 0 rfl) ?_
  refine va_get (ci := 1) (C := RX1) (T := TX1) (N := 4) hx hb hts hinX1 hown hK hP 0 rfl rfl 2 (by decide) hfl18 (fun _ h9 => h9) rfl dX1_shift_29 ?_
  refine lv_iload_n hx hb dX1_shift_32 rfl (lv_at hl 1 rfl) ?_
  refine lv_aload_n hx hb dX1_shift_33 rfl (lv_at hl 0 rfl) ?_
  refine va_get (ci := 1) (C := RX1) (T := TX1) (N := 4) hx hb hts hinX1 hown hK hP 0 rfl rfl 2 (by decide) hfl18 (fun _ h9 => h9) rfl dX1_shift_34 ?_
  refine lv_iload_n hx hb dX1_shift_37 rfl (lv_at hl 2 rfl) ?_
  refine lv_iload_n hx hb dX1_shift_38 rfl (lv_at hl 3 rfl) ?_
  refine jn_copy hx hb (hml.trans hl.1.symm) hown hlink hnat hstat hini hK hP hD hS 3 3 0 rfl rfl rfl x y k (by omega) (by omega) (by omega) (by omega) (by omega) (by decide) (by decide) (by rw [hR]; exact Nat.le_of_ble_eq_true rfl) (by rw [hR]; exact Nat.le_of_ble_eq_true rfl) dX1_shift_39 (fun H locs hP hD hS => ?_)
  have hP : va_P (dC, dI) vwCl (wo_P v cI n (va_cpy f0 f0 x y k) (va_cpy f1 f1 x y k) (va_cpy f2 f2 x y k)) H := hP
  have hD : va_D A9 (wo_P v cI n (va_cpy f0 f0 x y k) (va_cpy f1 f1 x y k) (va_cpy f2 f2 x y k)) := hD
  exact hend _ _ _ _ dX1_shift_42 hP hS

set_option maxHeartbeats 4000000 in
set_option maxRecDepth 100000 in
theorem ct_open (l : Launch) (size_ : Nat) (dC : Nat → ClassId) (dI : Nat → Nat → Nat) (cI : ClassId) (v : Nat → Nat) (n : Nat) (f0 f1 f2 : Nat → Int32) (K A B : Nat → Int) (hn : n ≤ 50) (hF : as_F n K A B f0 f1 f2) (y k a b : Int) (r1 : ji_r y) (r2 : ji_r k) (r3 : ji_r a) (r4 : ji_r b) : Met l yX1_open wsX1_open { frames := 2, cells := 0, slots := 0, locals := 41 } (va_Pc [.ref (v 0), .int (ji_n y), .int (ji_n k), .int (ji_n a), .int (ji_n b)] (wr_B (dC, dI) vwCl (wo_P v cI n f0 f1 f2) size_ (kn_K dC dI cI))) (wr_Qi (fun r H => (r = ji_n 1 ∧ n < 50 ∧ ∃ i : Nat, y = (i : Int) ∧ i ≤ n ∧ ∃ q0 q1 q2 : Nat → Int32, va_P (dC, dI) vwCl (wo_P v cI (n + 1) q0 q1 q2) H ∧ as_F (n + 1) (sp_in K i k) (sp_in A i a) (sp_in B i b) q0 q1 q2) ∨ (r = ji_n 0 ∧ ¬ (n < 50 ∧ 0 ≤ y ∧ y ≤ (n : Int)) ∧ va_P (dC, dI) vwCl (wo_P v cI n f0 f1 f2) H)) (va_A (wo_P v cI n f0 f1 f2) size_)) 0 0 (va_A (wo_P v cI n f0 f1 f2) size_) := by
  refine st_wi (cc := cX1_open) (maxL := 5) (ret := some .boolean) (ty := .boolean) (by decide) rfl rfl (Nat.le_of_ble_eq_true rfl) (lv := [(0, .ref (v 0)), (1, .int (ji_n y)), (2, .int (ji_n k)), (3, .int (ji_n a)), (4, .int (ji_n b))]) rfl (fun v H h => by rcases h with ⟨h, -⟩ | ⟨h, -⟩ <;> rw [h] <;> rfl) ?_
  intro p e s m args below meth c R Q ls A9 hx hb hts hown hml hR hP hD hA hS hN hl hend
  have hK := hN.1
  have hinX1 : ∀ w ∈ u_ws RX1 TX1 4, w ∈ wsX1_open := fun w h => List.mem_cons_of_mem _ (inX1 w h)
  have hfl9 := (hts _ (List.mem_cons_of_mem _ tm_27))
  have hfl15 := (hts _ (List.mem_cons_of_mem _ tm_29))
  have hfl18 := (hts _ (List.mem_cons_of_mem _ tm_31))
  have hfl21 := (hts _ (List.mem_cons_of_mem _ tm_33))
  refine lv_aload_n hx hb dX1_open_0 rfl (lv_at hl 0 rfl) ?_
  refine va_get (ci := 1) (C := RX1) (T := TX1) (N := 4) hx hb hts hinX1 hown hK hP 0 rfl rfl 3 (by decide) hfl21 (fun _ h9 => h9) rfl dX1_open_1 ?_
  refine jn_bipush hx hb dX1_open_4 (by decide) ?_
  refine jn_icmp_ge hx hb dX1_open_6 (tgt := 21) rfl (by unfold ji_r; omega) (by unfold ji_r; omega) (fun hc1 => ?_) (fun hc1 => ?_)
  · skip
    refine jn_iconst hx hb dX1_open_21 ?_
    exact hend _ _ _ _ _ dX1_open_22 (Or.inr ⟨rfl, by omega, hP⟩) hS
  · skip
    refine lv_iload_n hx hb dX1_open_9 rfl (lv_at hl 1 rfl) ?_
    refine jn_if_lt hx hb dX1_open_10 (tgt := 21) rfl r1 (fun hc2 => ?_) (fun hc2 => ?_)
    · skip
      refine jn_iconst hx hb dX1_open_21 ?_
      exact hend _ _ _ _ _ dX1_open_22 (Or.inr ⟨rfl, by omega, hP⟩) hS
    · skip
      refine lv_iload_n hx hb dX1_open_13 rfl (lv_at hl 1 rfl) ?_
      refine lv_aload_n hx hb dX1_open_14 rfl (lv_at hl 0 rfl) ?_
      refine va_get (ci := 1) (C := RX1) (T := TX1) (N := 4) hx hb hts hinX1 hown hK hP 0 rfl rfl 3 (by decide) hfl21 (fun _ h9 => h9) rfl dX1_open_15 ?_
      refine jn_icmp_le hx hb dX1_open_18 (tgt := 23) rfl r1 (by unfold ji_r; omega) (fun hc3 => ?_) (fun hc3 => ?_)
      · skip
        obtain ⟨i, rfl⟩ : ∃ i : Nat, y = (i : Int) := ⟨y.toNat, by omega⟩
        refine lv_aload_n hx hb dX1_open_23 rfl (lv_at hl 0 rfl) ?_
        refine lv_iload_n hx hb dX1_open_24 rfl (lv_at hl 1 rfl) ?_
        refine lv_iload_n hx hb dX1_open_25 rfl (lv_at hl 1 rfl) ?_
        refine jn_iconst hx hb dX1_open_26 ?_
        refine jn_iadd hx hb dX1_open_27 (v := (i : Int) + 1) rfl ?_
        refine lv_aload_n hx hb dX1_open_28 rfl (lv_at hl 0 rfl) ?_
        refine va_get (ci := 1) (C := RX1) (T := TX1) (N := 4) hx hb hts hinX1 hown hK hP 0 rfl rfl 3 (by decide) hfl21 (fun _ h9 => h9) rfl dX1_open_29 ?_
        refine lv_iload_n hx hb dX1_open_32 rfl (lv_at hl 1 rfl) ?_
        refine jn_isub hx hb dX1_open_33 (v := (n : Int) - (i : Int)) rfl ?_
        refine jn_top (v := ((n - i : Nat) : Int)) (congrArg ji_n (by omega)) ?_
        refine jn_top2 (v := ((i + 1 : Nat) : Int)) (congrArg ji_n (by omega)) ?_
        refine cl_wv (wc := wo_P v cI n f0 f1 f2) (wr := []) [0, 1, 2, 3] [] rfl rfl (by decide) (by decide) (by decide) hP hD hS hA (va_runV (As := [.int (ji_n (i : Int)), .int (ji_n ((i + 1 : Nat) : Int)), .int (ji_n ((n - i : Nat) : Int))]) (rest := []) ⟨hx, hb, hml, hown, hts⟩ (ct_shift l s.heap.size dC dI cI v n f0 f1 f2 i (i + 1) (n - i) (by omega) (by omega)) (cwV 3 hts (ub_V tm_98 tm_100 tm_s0 tm_2 tm_101) rfl rfl rfl (by decide +kernel) (by rw [hR]; exact ⟨Nat.le_of_ble_eq_true rfl, Nat.le_of_ble_eq_true rfl⟩)) (pv_wr (q0 := 0) (ci := 1) hN hP hD rfl rfl) rfl rfl hl.1 rfl (lv_room (Nat.le_of_ble_eq_true rfl)) dX1_open_34 ⟨Nat.zero_le _, Nat.zero_le _⟩) (fun H locs hPs hj hS => ?_)
        obtain ⟨hP, hD⟩ := hj (wo_P v cI n (va_cpy f0 f0 i (i + 1) (n - i)) (va_cpy f1 f1 i (i + 1) (n - i)) (va_cpy f2 f2 i (i + 1) (n - i))) rfl hPs
        have hP : va_P (dC, dI) vwCl (wo_P v cI n (va_cpy f0 f0 i (i + 1) (n - i)) (va_cpy f1 f1 i (i + 1) (n - i)) (va_cpy f2 f2 i (i + 1) (n - i))) H := hP
        have hD : va_D A9 (wo_P v cI n (va_cpy f0 f0 i (i + 1) (n - i)) (va_cpy f1 f1 i (i + 1) (n - i)) (va_cpy f2 f2 i (i + 1) (n - i))) := hD
        refine lv_aload_n hx hb dX1_open_37 rfl (lv_at hl 0 rfl) ?_
        refine va_get (ci := 1) (C := RX1) (T := TX1) (N := 4) hx hb hts hinX1 hown hK hP 0 rfl rfl 0 (by decide) hfl9 (fun _ h9 => h9) rfl dX1_open_38 ?_
        refine lv_iload_n hx hb dX1_open_41 rfl (lv_at hl 1 rfl) ?_
        refine lv_iload_n hx hb dX1_open_42 rfl (lv_at hl 2 rfl) ?_
        refine jn_iast hx hb hK hP hD hS 1 0 rfl rfl i (by omega) (by omega) (by decide) dX1_open_43 (fun H locs hP hD hS => ?_)
        have hP : va_P (dC, dI) vwCl (wo_P v cI n (upd (va_cpy f0 f0 i (i + 1) (n - i)) i (ji_n k)) (va_cpy f1 f1 i (i + 1) (n - i)) (va_cpy f2 f2 i (i + 1) (n - i))) H := hP
        have hD : va_D A9 (wo_P v cI n (upd (va_cpy f0 f0 i (i + 1) (n - i)) i (ji_n k)) (va_cpy f1 f1 i (i + 1) (n - i)) (va_cpy f2 f2 i (i + 1) (n - i))) := hD
        refine lv_aload_n hx hb dX1_open_44 rfl (lv_at hl 0 rfl) ?_
        refine va_get (ci := 1) (C := RX1) (T := TX1) (N := 4) hx hb hts hinX1 hown hK hP 0 rfl rfl 1 (by decide) hfl15 (fun _ h9 => h9) rfl dX1_open_45 ?_
        refine lv_iload_n hx hb dX1_open_48 rfl (lv_at hl 1 rfl) ?_
        refine lv_iload_n hx hb dX1_open_49 rfl (lv_at hl 3 rfl) ?_
        refine jn_iast hx hb hK hP hD hS 2 0 rfl rfl i (by omega) (by omega) (by decide) dX1_open_50 (fun H locs hP hD hS => ?_)
        have hP : va_P (dC, dI) vwCl (wo_P v cI n (upd (va_cpy f0 f0 i (i + 1) (n - i)) i (ji_n k)) (upd (va_cpy f1 f1 i (i + 1) (n - i)) i (ji_n a)) (va_cpy f2 f2 i (i + 1) (n - i))) H := hP
        have hD : va_D A9 (wo_P v cI n (upd (va_cpy f0 f0 i (i + 1) (n - i)) i (ji_n k)) (upd (va_cpy f1 f1 i (i + 1) (n - i)) i (ji_n a)) (va_cpy f2 f2 i (i + 1) (n - i))) := hD
        refine lv_aload_n hx hb dX1_open_51 rfl (lv_at hl 0 rfl) ?_
        refine va_get (ci := 1) (C := RX1) (T := TX1) (N := 4) hx hb hts hinX1 hown hK hP 0 rfl rfl 2 (by decide) hfl18 (fun _ h9 => h9) rfl dX1_open_52 ?_
        refine lv_iload_n hx hb dX1_open_55 rfl (lv_at hl 1 rfl) ?_
        refine lv_iload hx hb dX1_open_56 (lv_at hl 4 rfl) ?_
        refine jn_iast hx hb hK hP hD hS 3 0 rfl rfl i (by omega) (by omega) (by decide) dX1_open_58 (fun H locs hP hD hS => ?_)
        have hP : va_P (dC, dI) vwCl (wo_P v cI n (upd (va_cpy f0 f0 i (i + 1) (n - i)) i (ji_n k)) (upd (va_cpy f1 f1 i (i + 1) (n - i)) i (ji_n a)) (upd (va_cpy f2 f2 i (i + 1) (n - i)) i (ji_n b))) H := hP
        have hD : va_D A9 (wo_P v cI n (upd (va_cpy f0 f0 i (i + 1) (n - i)) i (ji_n k)) (upd (va_cpy f1 f1 i (i + 1) (n - i)) i (ji_n a)) (upd (va_cpy f2 f2 i (i + 1) (n - i)) i (ji_n b))) := hD
        refine lv_aload_n hx hb dX1_open_59 rfl (lv_at hl 0 rfl) ?_
        refine lv_dup hx hb dX1_open_60 rfl ?_
        refine va_get (ci := 1) (C := RX1) (T := TX1) (N := 4) hx hb hts hinX1 hown hK hP 0 rfl rfl 3 (by decide) hfl21 (fun _ h9 => h9) rfl dX1_open_61 ?_
        refine jn_iconst hx hb dX1_open_64 ?_
        refine jn_iadd hx hb dX1_open_65 (v := (n : Int) + 1) rfl ?_
        refine jn_top (v := ((n + 1 : Nat) : Int)) (congrArg ji_n (by omega)) ?_
        refine va_put (ci := 1) (C := RX1) (T := TX1) (N := 4) (ty := .int) hx hb hts hinX1 tyX1 tyX1_ok nmX1 hown hK hP hD hS 0 rfl rfl 3 (by decide) hfl21 (fun _ h9 => h9) rfl (by decide +kernel) rfl rfl (Nat.le_of_ble_eq_true rfl) dX1_open_66 (fun H locs hP hD hS => ?_)
        have hP : va_P (dC, dI) vwCl (wo_P v cI (n + 1) (upd (va_cpy f0 f0 i (i + 1) (n - i)) i (ji_n k)) (upd (va_cpy f1 f1 i (i + 1) (n - i)) i (ji_n a)) (upd (va_cpy f2 f2 i (i + 1) (n - i)) i (ji_n b))) H := hP
        have hD : va_D A9 (wo_P v cI (n + 1) (upd (va_cpy f0 f0 i (i + 1) (n - i)) i (ji_n k)) (upd (va_cpy f1 f1 i (i + 1) (n - i)) i (ji_n a)) (upd (va_cpy f2 f2 i (i + 1) (n - i)) i (ji_n b))) := hD
        refine jn_iconst hx hb dX1_open_69 ?_
        exact hend _ _ _ _ _ dX1_open_70 (Or.inl ⟨rfl, by omega, i, rfl, by omega, _, _, _, hP, as_in hF.1 (by omega), as_in hF.2.1 (by omega), as_in hF.2.2 (by omega)⟩) hS
      · skip
        refine jn_iconst hx hb dX1_open_21 ?_
        exact hend _ _ _ _ _ dX1_open_22 (Or.inr ⟨rfl, by omega, hP⟩) hS

set_option maxHeartbeats 4000000 in
set_option maxRecDepth 100000 in
theorem ct_close (l : Launch) (size_ : Nat) (dC : Nat → ClassId) (dI : Nat → Nat → Nat) (cI : ClassId) (v : Nat → Nat) (n : Nat) (f0 f1 f2 : Nat → Int32) (K A B : Nat → Int) (hn : n ≤ 50) (hF : as_F n K A B f0 f1 f2) (y : Int) (r1 : ji_r y) : Met l yX1_close wsX1_close { frames := 2, cells := 0, slots := 0, locals := 41 } (va_Pc [.ref (v 0), .int (ji_n y)] (wr_B (dC, dI) vwCl (wo_P v cI n f0 f1 f2) size_ (kn_K dC dI cI))) (wr_Qi (fun r H => (r = ji_n 1 ∧ ∃ i m : Nat, y = (i : Int) ∧ n = m + 1 ∧ i < n ∧ ∃ q0 q1 q2 : Nat → Int32, va_P (dC, dI) vwCl (wo_P v cI m q0 q1 q2) H ∧ as_F m (sp_rm K i) (sp_rm A i) (sp_rm B i) q0 q1 q2) ∨ (r = ji_n 0 ∧ ¬ (0 ≤ y ∧ y < (n : Int)) ∧ va_P (dC, dI) vwCl (wo_P v cI n f0 f1 f2) H)) (va_A (wo_P v cI n f0 f1 f2) size_)) 0 0 (va_A (wo_P v cI n f0 f1 f2) size_) := by
  refine st_wi (cc := cX1_close) (maxL := 2) (ret := some .boolean) (ty := .boolean) (by decide) rfl rfl (Nat.le_of_ble_eq_true rfl) (lv := [(0, .ref (v 0)), (1, .int (ji_n y))]) rfl (fun v H h => by rcases h with ⟨h, -⟩ | ⟨h, -⟩ <;> rw [h] <;> rfl) ?_
  intro p e s m args below meth c R Q ls A9 hx hb hts hown hml hR hP hD hA hS hN hl hend
  have hK := hN.1
  have hinX1 : ∀ w ∈ u_ws RX1 TX1 4, w ∈ wsX1_close := fun w h => List.mem_cons_of_mem _ (inX1 w h)
  have hfl21 := (hts _ (List.mem_cons_of_mem _ tm_33))
  refine lv_aload_n hx hb dX1_close_0 rfl (lv_at hl 0 rfl) ?_
  refine lv_iload_n hx hb dX1_close_1 rfl (lv_at hl 1 rfl) ?_
  refine cl_rd (va_runV (As := [.int (ji_n y)]) (rest := []) ⟨hx, hb, hml, hown, hts⟩ (ct_has l dC dI cI v n f0 f1 f2 y r1 hn) (cwV 1 hts (ub_V tm_113 tm_114 tm_115 tm_2 tm_116) rfl rfl rfl (by decide +kernel) (by rw [hR]; exact ⟨Nat.le_of_ble_eq_true rfl, Nat.le_of_ble_eq_true rfl⟩)) (pv_rd (q0 := 0) (ci := 1) hN hP rfl rfl) rfl rfl hl.1 rfl (lv_room (Nat.le_of_ble_eq_true rfl)) dX1_close_2 ⟨Nat.zero_le _, Nat.zero_le _⟩) ?_
  have hw := sp_wi_or y 0 ((n : Int) - 1)
  refine jn_if_ne hx hb dX1_close_5 (tgt := 10) rfl (by unfold ji_r; omega) (fun hc1 => ?_) (fun hc1 => ?_)
  · skip
    obtain ⟨i, rfl⟩ : ∃ i : Nat, y = (i : Int) := ⟨y.toNat, by omega⟩
    obtain ⟨n, rfl⟩ : ∃ n9 : Nat, n = n9 + 1 := ⟨n - 1, by omega⟩
    refine lv_aload_n hx hb dX1_close_10 rfl (lv_at hl 0 rfl) ?_
    refine lv_iload_n hx hb dX1_close_11 rfl (lv_at hl 1 rfl) ?_
    refine jn_iconst hx hb dX1_close_12 ?_
    refine jn_iadd hx hb dX1_close_13 (v := (i : Int) + 1) rfl ?_
    refine lv_iload_n hx hb dX1_close_14 rfl (lv_at hl 1 rfl) ?_
    refine lv_aload_n hx hb dX1_close_15 rfl (lv_at hl 0 rfl) ?_
    refine va_get (ci := 1) (C := RX1) (T := TX1) (N := 4) hx hb hts hinX1 hown hK hP 0 rfl rfl 3 (by decide) hfl21 (fun _ h9 => h9) rfl dX1_close_16 ?_
    refine lv_iload_n hx hb dX1_close_19 rfl (lv_at hl 1 rfl) ?_
    refine jn_isub hx hb dX1_close_20 (v := ((n + 1 : Nat) : Int) - (i : Int)) rfl ?_
    refine jn_iconst hx hb dX1_close_21 ?_
    refine jn_isub hx hb dX1_close_22 (v := (((n + 1 : Nat) : Int) - (i : Int)) - 1) rfl ?_
    refine jn_top (v := ((n - i : Nat) : Int)) (congrArg ji_n (by omega)) ?_
    refine jn_top3 (v := ((i + 1 : Nat) : Int)) (congrArg ji_n (by omega)) ?_
    refine cl_wv (wc := wo_P v cI (n + 1) f0 f1 f2) (wr := []) [0, 1, 2, 3] [] rfl rfl (by decide) (by decide) (by decide) hP hD hS hA (va_runV (As := [.int (ji_n ((i + 1 : Nat) : Int)), .int (ji_n (i : Int)), .int (ji_n ((n - i : Nat) : Int))]) (rest := []) ⟨hx, hb, hml, hown, hts⟩ (ct_shift l s.heap.size dC dI cI v (n + 1) f0 f1 f2 (i + 1) i (n - i) (by omega) (by omega)) (cwV 3 hts (ub_V tm_98 tm_100 tm_s0 tm_2 tm_101) rfl rfl rfl (by decide +kernel) (by rw [hR]; exact ⟨Nat.le_of_ble_eq_true rfl, Nat.le_of_ble_eq_true rfl⟩)) (pv_wr (q0 := 0) (ci := 1) hN hP hD rfl rfl) rfl rfl hl.1 rfl (lv_room (Nat.le_of_ble_eq_true rfl)) dX1_close_23 ⟨Nat.zero_le _, Nat.zero_le _⟩) (fun H locs hPs hj hS => ?_)
    obtain ⟨hP, hD⟩ := hj (wo_P v cI (n + 1) (va_cpy f0 f0 (i + 1) i (n - i)) (va_cpy f1 f1 (i + 1) i (n - i)) (va_cpy f2 f2 (i + 1) i (n - i))) rfl hPs
    have hP : va_P (dC, dI) vwCl (wo_P v cI (n + 1) (va_cpy f0 f0 (i + 1) i (n - i)) (va_cpy f1 f1 (i + 1) i (n - i)) (va_cpy f2 f2 (i + 1) i (n - i))) H := hP
    have hD : va_D A9 (wo_P v cI (n + 1) (va_cpy f0 f0 (i + 1) i (n - i)) (va_cpy f1 f1 (i + 1) i (n - i)) (va_cpy f2 f2 (i + 1) i (n - i))) := hD
    refine lv_aload_n hx hb dX1_close_26 rfl (lv_at hl 0 rfl) ?_
    refine lv_dup hx hb dX1_close_27 rfl ?_
    refine va_get (ci := 1) (C := RX1) (T := TX1) (N := 4) hx hb hts hinX1 hown hK hP 0 rfl rfl 3 (by decide) hfl21 (fun _ h9 => h9) rfl dX1_close_28 ?_
    refine jn_iconst hx hb dX1_close_31 ?_
    refine jn_isub hx hb dX1_close_32 (v := ((n + 1 : Nat) : Int) - 1) rfl ?_
    refine jn_top (v := (n : Int)) (congrArg ji_n (by omega)) ?_
    refine va_put (ci := 1) (C := RX1) (T := TX1) (N := 4) (ty := .int) hx hb hts hinX1 tyX1 tyX1_ok nmX1 hown hK hP hD hS 0 rfl rfl 3 (by decide) hfl21 (fun _ h9 => h9) rfl (by decide +kernel) rfl rfl (Nat.le_of_ble_eq_true rfl) dX1_close_33 (fun H locs hP hD hS => ?_)
    have hP : va_P (dC, dI) vwCl (wo_P v cI n (va_cpy f0 f0 (i + 1) i (n - i)) (va_cpy f1 f1 (i + 1) i (n - i)) (va_cpy f2 f2 (i + 1) i (n - i))) H := hP
    have hD : va_D A9 (wo_P v cI n (va_cpy f0 f0 (i + 1) i (n - i)) (va_cpy f1 f1 (i + 1) i (n - i)) (va_cpy f2 f2 (i + 1) i (n - i))) := hD
    refine jn_iconst hx hb dX1_close_36 ?_
    exact hend _ _ _ _ _ dX1_close_37 (Or.inl ⟨rfl, i, n, rfl, rfl, by omega, _, _, _, hP, as_rm hF.1 (by omega), as_rm hF.2.1 (by omega), as_rm hF.2.2 (by omega)⟩) hS
  · skip
    refine jn_iconst hx hb dX1_close_8 ?_
    exact hend _ _ _ _ _ dX1_close_9 (Or.inr ⟨rfl, by omega, hP⟩) hS

set_option maxHeartbeats 4000000 in
set_option maxRecDepth 100000 in
theorem ct_copyFrom (l : Launch) (size_ : Nat) (dC : Nat → ClassId) (dI : Nat → Nat → Nat) (cI : ClassId) (v : Nat → Nat) (n : Nat) (f0 f1 f2 : Nat → Int32) (u : Nat → Nat) (k : Nat) (g0 g1 g2 : Nat → Int32) (hk : k ≤ 50) : Met l yX1_copyFrom wsX1_copyFrom { frames := 1, cells := 0, slots := 0, locals := 18 } (va_Pc [.ref (v 0), .ref (u 0)] (wr_B (dC, dI) vwCl (wo_P v cI n f0 f1 f2 ++ wo_P u cI k g0 g1 g2) size_ (kn_K dC dI cI))) (wr_Qv (fun H => va_P (dC, dI) vwCl (wo_P v cI k (va_cpy g0 f0 0 0 k) (va_cpy g1 f1 0 0 k) (va_cpy g2 f2 0 0 k) ++ wo_P u cI k g0 g1 g2) H) (va_A (wo_P v cI n f0 f1 f2 ++ wo_P u cI k g0 g1 g2) size_)) 0 0 (va_A (wo_P v cI n f0 f1 f2 ++ wo_P u cI k g0 g1 g2) size_) := by
  refine st_wv (cc := cX1_copyFrom) (maxL := 2) (by decide) rfl (Nat.le_of_ble_eq_true rfl) (lv := [(0, .ref (v 0)), (1, .ref (u 0))]) rfl ?_
  intro p e s m args below meth c R Q ls A9 hx hb hts hown hml hR hP hD hA hS hN hl hend
  have hK := hN.1
  have hinX1 : ∀ w ∈ u_ws RX1 TX1 4, w ∈ wsX1_copyFrom := fun w h => List.mem_cons_of_mem _ (inX1 w h)
  have hfl9 := (hts _ (List.mem_cons_of_mem _ tm_27))
  have hfl15 := (hts _ (List.mem_cons_of_mem _ tm_29))
  have hfl18 := (hts _ (List.mem_cons_of_mem _ tm_31))
  have hfl21 := (hts _ (List.mem_cons_of_mem _ tm_33))
  have hlink := (hts _ (List.mem_cons_of_mem _ tm_102))
  have hnat := (hts _ (List.mem_cons_of_mem _ tm_104))
  have hstat := (hts _ (List.mem_cons_of_mem _ tm_103))
  have hini := (hts _ (List.mem_cons_of_mem _ tm_6))
  refine lv_aload_n hx hb dX1_copyFrom_0 rfl (lv_at hl 1 rfl) ?_
  refine va_get (ci := 1) (C := RX1) (T := TX1) (N := 4) hx hb hts hinX1 hown hK hP 4 rfl rfl 0 (by decide) hfl9 (fun _ h9 => h9) rfl dX1_copyFrom_1 ?_
  refine jn_iconst hx hb dX1_copyFrom_4 ?_
  refine lv_aload_n hx hb dX1_copyFrom_5 rfl (lv_at hl 0 rfl) ?_
  refine va_get (ci := 1) (C := RX1) (T := TX1) (N := 4) hx hb hts hinX1 hown hK hP 0 rfl rfl 0 (by decide) hfl9 (fun _ h9 => h9) rfl dX1_copyFrom_6 ?_
  refine jn_iconst hx hb dX1_copyFrom_9 ?_
  refine lv_aload_n hx hb dX1_copyFrom_10 rfl (lv_at hl 1 rfl) ?_
  refine va_get (ci := 1) (C := RX1) (T := TX1) (N := 4) hx hb hts hinX1 hown hK hP 4 rfl rfl 3 (by decide) hfl21 (fun _ h9 => h9) rfl dX1_copyFrom_11 ?_
  refine jn_copy hx hb (hml.trans hl.1.symm) hown hlink hnat hstat hini hK hP hD hS 5 1 0 rfl rfl rfl 0 0 k (by omega) (by omega) (by omega) (by omega) (by omega) (by decide) (by decide) (by rw [hR]; exact Nat.le_of_ble_eq_true rfl) (by rw [hR]; exact Nat.le_of_ble_eq_true rfl) dX1_copyFrom_14 (fun H locs hP hD hS => ?_)
  have hP : va_P (dC, dI) vwCl (wo_P v cI n (va_cpy g0 f0 0 0 k) f1 f2 ++ wo_P u cI k g0 g1 g2) H := hP
  have hD : va_D A9 (wo_P v cI n (va_cpy g0 f0 0 0 k) f1 f2 ++ wo_P u cI k g0 g1 g2) := hD
  refine lv_aload_n hx hb dX1_copyFrom_17 rfl (lv_at hl 1 rfl) ?_
  refine va_get (ci := 1) (C := RX1) (T := TX1) (N := 4) hx hb hts hinX1 hown hK hP 4 rfl rfl 1 (by decide) hfl15 (fun _ h9 => h9) rfl dX1_copyFrom_18 ?_
  refine jn_iconst hx hb dX1_copyFrom_21 ?_
  refine lv_aload_n hx hb dX1_copyFrom_22 rfl (lv_at hl 0 rfl) ?_
  refine va_get (ci := 1) (C := RX1) (T := TX1) (N := 4) hx hb hts hinX1 hown hK hP 0 rfl rfl 1 (by decide) hfl15 (fun _ h9 => h9) rfl dX1_copyFrom_23 ?_
  refine jn_iconst hx hb dX1_copyFrom_26 ?_
  refine lv_aload_n hx hb dX1_copyFrom_27 rfl (lv_at hl 1 rfl) ?_
  refine va_get (ci := 1) (C := RX1) (T := TX1) (N := 4) hx hb hts hinX1 hown hK hP 4 rfl rfl 3 (by decide) hfl21 (fun _ h9 => h9) rfl dX1_copyFrom_28 ?_
  refine jn_copy hx hb (hml.trans hl.1.symm) hown hlink hnat hstat hini hK hP hD hS 6 2 0 rfl rfl rfl 0 0 k (by omega) (by omega) (by omega) (by omega) (by omega) (by decide) (by decide) (by rw [hR]; exact Nat.le_of_ble_eq_true rfl) (by rw [hR]; exact Nat.le_of_ble_eq_true rfl) dX1_copyFrom_31 (fun H locs hP hD hS => ?_)
  have hP : va_P (dC, dI) vwCl (wo_P v cI n (va_cpy g0 f0 0 0 k) (va_cpy g1 f1 0 0 k) f2 ++ wo_P u cI k g0 g1 g2) H := hP
  have hD : va_D A9 (wo_P v cI n (va_cpy g0 f0 0 0 k) (va_cpy g1 f1 0 0 k) f2 ++ wo_P u cI k g0 g1 g2) := hD
  refine lv_aload_n hx hb dX1_copyFrom_34 rfl (lv_at hl 1 rfl) ?_
  refine va_get (ci := 1) (C := RX1) (T := TX1) (N := 4) hx hb hts hinX1 hown hK hP 4 rfl rfl 2 (by decide) hfl18 (fun _ h9 => h9) rfl dX1_copyFrom_35 ?_
  refine jn_iconst hx hb dX1_copyFrom_38 ?_
  refine lv_aload_n hx hb dX1_copyFrom_39 rfl (lv_at hl 0 rfl) ?_
  refine va_get (ci := 1) (C := RX1) (T := TX1) (N := 4) hx hb hts hinX1 hown hK hP 0 rfl rfl 2 (by decide) hfl18 (fun _ h9 => h9) rfl dX1_copyFrom_40 ?_
  refine jn_iconst hx hb dX1_copyFrom_43 ?_
  refine lv_aload_n hx hb dX1_copyFrom_44 rfl (lv_at hl 1 rfl) ?_
  refine va_get (ci := 1) (C := RX1) (T := TX1) (N := 4) hx hb hts hinX1 hown hK hP 4 rfl rfl 3 (by decide) hfl21 (fun _ h9 => h9) rfl dX1_copyFrom_45 ?_
  refine jn_copy hx hb (hml.trans hl.1.symm) hown hlink hnat hstat hini hK hP hD hS 7 3 0 rfl rfl rfl 0 0 k (by omega) (by omega) (by omega) (by omega) (by omega) (by decide) (by decide) (by rw [hR]; exact Nat.le_of_ble_eq_true rfl) (by rw [hR]; exact Nat.le_of_ble_eq_true rfl) dX1_copyFrom_48 (fun H locs hP hD hS => ?_)
  have hP : va_P (dC, dI) vwCl (wo_P v cI n (va_cpy g0 f0 0 0 k) (va_cpy g1 f1 0 0 k) (va_cpy g2 f2 0 0 k) ++ wo_P u cI k g0 g1 g2) H := hP
  have hD : va_D A9 (wo_P v cI n (va_cpy g0 f0 0 0 k) (va_cpy g1 f1 0 0 k) (va_cpy g2 f2 0 0 k) ++ wo_P u cI k g0 g1 g2) := hD
  refine lv_aload_n hx hb dX1_copyFrom_51 rfl (lv_at hl 0 rfl) ?_
  refine lv_aload_n hx hb dX1_copyFrom_52 rfl (lv_at hl 1 rfl) ?_
  refine va_get (ci := 1) (C := RX1) (T := TX1) (N := 4) hx hb hts hinX1 hown hK hP 4 rfl rfl 3 (by decide) hfl21 (fun _ h9 => h9) rfl dX1_copyFrom_53 ?_
  refine va_put (ci := 1) (C := RX1) (T := TX1) (N := 4) (ty := .int) hx hb hts hinX1 tyX1 tyX1_ok nmX1 hown hK hP hD hS 0 rfl rfl 3 (by decide) hfl21 (fun _ h9 => h9) rfl (by decide +kernel) rfl rfl (Nat.le_of_ble_eq_true rfl) dX1_copyFrom_56 (fun H locs hP hD hS => ?_)
  have hP : va_P (dC, dI) vwCl (wo_P v cI k (va_cpy g0 f0 0 0 k) (va_cpy g1 f1 0 0 k) (va_cpy g2 f2 0 0 k) ++ wo_P u cI k g0 g1 g2) H := hP
  have hD : va_D A9 (wo_P v cI k (va_cpy g0 f0 0 0 k) (va_cpy g1 f1 0 0 k) (va_cpy g2 f2 0 0 k) ++ wo_P u cI k g0 g1 g2) := hD
  exact hend _ _ _ _ dX1_copyFrom_59 hP hS
