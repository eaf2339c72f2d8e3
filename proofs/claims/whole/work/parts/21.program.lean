set_option maxHeartbeats 4000000 in
set_option maxRecDepth 100000 in
theorem ct_has (l : Launch) (dC : Nat → ClassId) (dI : Nat → Nat → Nat) (cI : ClassId) (v : Nat → Nat) (n : Nat) (f0 f1 f2 : Nat → Int32) (x : Int) (r1 : ji_r x) (hn : n ≤ 50) : Met l yX1_has wsX1_has { frames := 0, cells := 0, slots := 0, locals := 0 } (va_Pc [.ref (v 0), .int (ji_n x)] (fun U => va_P (dC, dI) vwCl (wo_P v cI n f0 f1 f2) U.heap ∧ kn_K dC dI cI U)) (vp_Si (fun r => r = ji_n (sp_wi x 0 ((n : Int) - 1)))) 0 0 (fun _ => False) := by
  refine st_rd (cc := cX1_has) (maxL := 2) (ret := some .boolean) (ty := .boolean) (by decide) rfl rfl (Nat.le_of_ble_eq_true rfl) (lv := [(0, .ref (v 0)), (1, .int (ji_n x))]) rfl (fun v h => by rw [h]; exact nb_b (sp_wi_b _ _ _)) ?_
  intro p e s m args below meth c R Q ls hx hb hts hown hml hR hB hl hend
  obtain ⟨hP, hN⟩ := hB
  have hK := hN.1
  have hinX1 : ∀ w ∈ u_ws RX1 TX1 4, w ∈ wsX1_has := fun w h => List.mem_cons_of_mem _ (inX1 w h)
  have hfl21 := (hts _ (List.mem_cons_of_mem _ tm_33))
  have hw := sp_wi_or x 0 ((n : Int) - 1)
  refine jn_iconst hx hb dX1_has_0 ?_
  refine lv_iload_n hx hb dX1_has_1 rfl (lv_at hl 1 rfl) ?_
  refine jn_icmp_gt hx hb dX1_has_2 (tgt := 17) rfl (by unfold ji_r; omega) r1 (fun hc1 => ?_) (fun hc1 => ?_)
  · skip
    refine jn_iconst hx hb dX1_has_17 ?_
    exact hend _ _ _ dX1_has_18 (congrArg ji_n (by omega))
  · skip
    refine lv_iload_n hx hb dX1_has_5 rfl (lv_at hl 1 rfl) ?_
    refine lv_aload_n hx hb dX1_has_6 rfl (lv_at hl 0 rfl) ?_
    refine va_get (ci := 1) (C := RX1) (T := TX1) (N := 4) hx hb hts hinX1 hown hK hP 0 rfl rfl 3 (by decide) hfl21 (fun _ h9 => h9) rfl dX1_has_7 ?_
    refine jn_icmp_ge hx hb dX1_has_10 (tgt := 17) rfl r1 (by unfold ji_r; omega) (fun hc2 => ?_) (fun hc2 => ?_)
    · skip
      refine jn_iconst hx hb dX1_has_17 ?_
      exact hend _ _ _ dX1_has_18 (congrArg ji_n (by omega))
    · skip
      refine jn_iconst hx hb dX1_has_13 ?_
      refine lv_goto hx hb dX1_has_14 (tgt := 18) rfl ?_
      exact hend _ _ _ dX1_has_18 (congrArg ji_n (by omega))

set_option maxHeartbeats 4000000 in
set_option maxRecDepth 100000 in
theorem ct_countDefined (l : Launch) (dC : Nat → ClassId) (dI : Nat → Nat → Nat) (cI : ClassId) (v : Nat → Nat) (n : Nat) (f0 f1 f2 : Nat → Int32) (K A B : Nat → Int) (hn : n ≤ 50) (hg : sp_gp K A B n) (h0 : ∀ j, j < n → f0 j = ji_n (K j)) (h1 : ∀ j, j < n → f1 j = ji_n (A j)) (x : Int) (r1 : ji_r x) : Met l yX1_countDefined wsX1_countDefined { frames := 0, cells := 0, slots := 0, locals := 0 } (va_Pc [.ref (v 0), .int (ji_n x)] (fun U => va_P (dC, dI) vwCl (wo_P v cI n f0 f1 f2) U.heap ∧ kn_K dC dI cI U)) (vp_Si (fun r => r = ji_n (sp_dn K A x n))) 0 0 (fun _ => False) := by
  refine st_rd (cc := cX1_countDefined) (maxL := 4) (ret := some .int) (ty := .int) (by decide) rfl rfl (Nat.le_of_ble_eq_true rfl) (lv := [(0, .ref (v 0)), (1, .int (ji_n x))]) rfl (fun v h => rfl) ?_
  intro p e s m args below meth c R Q ls hx hb hts hown hml hR hB hl hend
  obtain ⟨hP, hN⟩ := hB
  have hK := hN.1
  have hinX1 : ∀ w ∈ u_ws RX1 TX1 4, w ∈ wsX1_countDefined := fun w h => List.mem_cons_of_mem _ (inX1 w h)
  have hfl9 := (hts _ (List.mem_cons_of_mem _ tm_27))
  have hfl15 := (hts _ (List.mem_cons_of_mem _ tm_29))
  have hfl21 := (hts _ (List.mem_cons_of_mem _ tm_33))
  refine jn_iconst hx hb dX1_countDefined_0 ?_
  refine lv_istore_n (lv' := [(2, .int (ji_n 0)), (0, .ref (v 0)), (1, .int (ji_n x))]) hx hb dX1_countDefined_1 rfl hl (by decide) rfl (fun ls hl => ?_)
  refine jn_iconst hx hb dX1_countDefined_2 ?_
  refine lv_istore_n (lv' := [(3, .int (ji_n 0)), (2, .int (ji_n 0)), (0, .ref (v 0)), (1, .int (ji_n x))]) hx hb dX1_countDefined_3 rfl hl (by decide) rfl (fun ls hl => ?_)
  have loop1 : ∀ i : Nat, i ≤ n → ∀ ls : Array Slot, lv_has ls 4 [(3, .int (ji_n (i : Int))), (2, .int (ji_n (sp_dn K A x i))), (0, .ref (v 0)), (1, .int (ji_n x))] → W p l e R s m args below meth c s.heap [] 0 0 Q (F0 m 4 ls []) := by
    refine lp_up n ?_
    intro i hi_i ih2 ls hl
    have hd := sp_dn_b K A x i
    refine lv_iload_n hx hb dX1_countDefined_4 rfl (lv_at hl 0 rfl) ?_
    refine lv_aload_n hx hb dX1_countDefined_5 rfl (lv_at hl 2 rfl) ?_
    refine va_get (ci := 1) (C := RX1) (T := TX1) (N := 4) hx hb hts hinX1 hown hK hP 0 rfl rfl 3 (by decide) hfl21 (fun _ h9 => h9) rfl dX1_countDefined_6 ?_
    refine jn_icmp_ge hx hb dX1_countDefined_9 (tgt := 40) rfl (by unfold ji_r; omega) (by unfold ji_r; omega) (fun hc3 => ?_) (fun hc3 => ?_)
    · skip
      have he : i = n := by omega
      refine lv_iload_n hx hb dX1_countDefined_40 rfl (lv_at hl 1 rfl) ?_
      exact hend _ _ _ dX1_countDefined_41 (congrArg ji_n (by rw [he]))
    · skip
      have hgi := hg i (by omega)
      unfold sp_gd at hgi
      refine lv_aload_n hx hb dX1_countDefined_12 rfl (lv_at hl 2 rfl) ?_
      refine va_get (ci := 1) (C := RX1) (T := TX1) (N := 4) hx hb hts hinX1 hown hK hP 0 rfl rfl 0 (by decide) hfl9 (fun _ h9 => h9) rfl dX1_countDefined_13 ?_
      refine lv_iload_n hx hb dX1_countDefined_16 rfl (lv_at hl 0 rfl) ?_
      refine jn_iald hx hb hK hP 1 0 rfl rfl i (by omega) (by omega) (by decide) (v := K i) (h0 i (by omega)) dX1_countDefined_17 ?_
      refine jn_if_ne hx hb dX1_countDefined_18 (tgt := 34) rfl (by unfold ji_r; omega) (fun hc4 => ?_) (fun hc4 => ?_)
      · skip
        refine jn_iinc (lv' := [(3, .int (ji_n ((i : Int) + 1))), (2, .int (ji_n (sp_dn K A x i))), (0, .ref (v 0)), (1, .int (ji_n x))]) (k := 0) (v := (i : Int) + 1) hx hb dX1_countDefined_34 hl rfl rfl (by decide) rfl (fun ls hl => ?_)
        refine lv_goto hx hb dX1_countDefined_37 (tgt := 4) rfl ?_
        have hl : lv_has ls 4 [(3, .int (ji_n ((i + 1 : Nat) : Int))), (2, .int (ji_n (sp_dn K A x (i + 1)))), (0, .ref (v 0)), (1, .int (ji_n x))] := by
          have hl2 := lv_sub hl (l' := [(3, .int (ji_n ((i : Int) + 1))), (2, .int (ji_n (sp_dn K A x i))), (0, .ref (v 0)), (1, .int (ji_n x))]) [0, 1, 2, 3] rfl
          rw [show (ji_n ((i : Int) + 1)) = (ji_n ((i + 1 : Nat) : Int)) from (congrArg ji_n (by omega))] at hl2
          rw [show (ji_n (sp_dn K A x i)) = (ji_n (sp_dn K A x (i + 1))) from (congrArg ji_n (by rw [sp_dn_s]; split <;> omega))] at hl2
          exact hl2
        exact ih2 (by omega) ls hl 
      · skip
        refine lv_aload_n hx hb dX1_countDefined_21 rfl (lv_at hl 2 rfl) ?_
        refine va_get (ci := 1) (C := RX1) (T := TX1) (N := 4) hx hb hts hinX1 hown hK hP 0 rfl rfl 1 (by decide) hfl15 (fun _ h9 => h9) rfl dX1_countDefined_22 ?_
        refine lv_iload_n hx hb dX1_countDefined_25 rfl (lv_at hl 0 rfl) ?_
        refine jn_iald hx hb hK hP 2 0 rfl rfl i (by omega) (by omega) (by decide) (v := A i) (h1 i (by omega)) dX1_countDefined_26 ?_
        refine lv_iload_n hx hb dX1_countDefined_27 rfl (lv_at hl 3 rfl) ?_
        refine jn_icmp_ne hx hb dX1_countDefined_28 (tgt := 34) rfl (by unfold ji_r; omega) r1 (fun hc5 => ?_) (fun hc5 => ?_)
        · skip
          refine jn_iinc (lv' := [(3, .int (ji_n ((i : Int) + 1))), (2, .int (ji_n (sp_dn K A x i))), (0, .ref (v 0)), (1, .int (ji_n x))]) (k := 0) (v := (i : Int) + 1) hx hb dX1_countDefined_34 hl rfl rfl (by decide) rfl (fun ls hl => ?_)
          refine lv_goto hx hb dX1_countDefined_37 (tgt := 4) rfl ?_
          have hl : lv_has ls 4 [(3, .int (ji_n ((i + 1 : Nat) : Int))), (2, .int (ji_n (sp_dn K A x (i + 1)))), (0, .ref (v 0)), (1, .int (ji_n x))] := by
            have hl2 := lv_sub hl (l' := [(3, .int (ji_n ((i : Int) + 1))), (2, .int (ji_n (sp_dn K A x i))), (0, .ref (v 0)), (1, .int (ji_n x))]) [0, 1, 2, 3] rfl
            rw [show (ji_n ((i : Int) + 1)) = (ji_n ((i + 1 : Nat) : Int)) from (congrArg ji_n (by omega))] at hl2
            rw [show (ji_n (sp_dn K A x i)) = (ji_n (sp_dn K A x (i + 1))) from (congrArg ji_n (by rw [sp_dn_s]; split <;> omega))] at hl2
            exact hl2
          exact ih2 (by omega) ls hl 
        · skip
          refine jn_iinc (lv' := [(2, .int (ji_n ((sp_dn K A x i) + 1))), (3, .int (ji_n (i : Int))), (0, .ref (v 0)), (1, .int (ji_n x))]) (k := 1) (v := (sp_dn K A x i) + 1) hx hb dX1_countDefined_31 hl rfl rfl (by decide) rfl (fun ls hl => ?_)
          refine jn_iinc (lv' := [(3, .int (ji_n ((i : Int) + 1))), (2, .int (ji_n ((sp_dn K A x i) + 1))), (0, .ref (v 0)), (1, .int (ji_n x))]) (k := 1) (v := (i : Int) + 1) hx hb dX1_countDefined_34 hl rfl rfl (by decide) rfl (fun ls hl => ?_)
          refine lv_goto hx hb dX1_countDefined_37 (tgt := 4) rfl ?_
          have hl : lv_has ls 4 [(3, .int (ji_n ((i + 1 : Nat) : Int))), (2, .int (ji_n (sp_dn K A x (i + 1)))), (0, .ref (v 0)), (1, .int (ji_n x))] := by
            have hl2 := lv_sub hl (l' := [(3, .int (ji_n ((i : Int) + 1))), (2, .int (ji_n ((sp_dn K A x i) + 1))), (0, .ref (v 0)), (1, .int (ji_n x))]) [0, 1, 2, 3] rfl
            rw [show (ji_n ((i : Int) + 1)) = (ji_n ((i + 1 : Nat) : Int)) from (congrArg ji_n (by omega))] at hl2
            rw [show (ji_n ((sp_dn K A x i) + 1)) = (ji_n (sp_dn K A x (i + 1))) from (congrArg ji_n (by rw [sp_dn_s]; split <;> omega))] at hl2
            exact hl2
          exact ih2 (by omega) ls hl 
  have hl : lv_has ls 4 [(3, .int (ji_n ((0 : Nat) : Int))), (2, .int (ji_n (sp_dn K A x 0))), (0, .ref (v 0)), (1, .int (ji_n x))] := lv_sub hl [0, 1, 2, 3] rfl
  exact loop1 0 (by omega) ls hl 

set_option maxHeartbeats 4000000 in
set_option maxRecDepth 100000 in
theorem ct_definesTwice (l : Launch) (dC : Nat → ClassId) (dI : Nat → Nat → Nat) (cI : ClassId) (v : Nat → Nat) (n : Nat) (f0 f1 f2 : Nat → Int32) (K A B : Nat → Int) (hn : n ≤ 50) (hg : sp_gp K A B n) (h0 : ∀ j, j < n → f0 j = ji_n (K j)) (h1 : ∀ j, j < n → f1 j = ji_n (A j)) : Met l yX1_definesTwice wsX1_definesTwice { frames := 1, cells := 0, slots := 0, locals := 23 } (va_Pc [.ref (v 0)] (fun U => va_P (dC, dI) vwCl (wo_P v cI n f0 f1 f2) U.heap ∧ kn_K dC dI cI U)) (vp_Si (fun r => (r = ji_n 1 ∧ sp_tw n K A) ∨ (r = ji_n 0 ∧ ¬ sp_tw n K A))) 0 0 (fun _ => False) := by
  refine st_rd (cc := cX1_definesTwice) (maxL := 2) (ret := some .boolean) (ty := .boolean) (by decide) rfl rfl (Nat.le_of_ble_eq_true rfl) (lv := [(0, .ref (v 0))]) rfl (fun v h => by rcases h with ⟨h, -⟩ | ⟨h, -⟩ <;> rw [h] <;> rfl) ?_
  intro p e s m args below meth c R Q ls hx hb hts hown hml hR hB hl hend
  obtain ⟨hP, hN⟩ := hB
  have hK := hN.1
  refine jn_iconst hx hb dX1_definesTwice_0 ?_
  refine lv_istore_n (lv' := [(1, .int (ji_n 0)), (0, .ref (v 0))]) hx hb dX1_definesTwice_1 rfl hl (by decide) rfl (fun ls hl => ?_)
  have loop1 : ∀ i : Nat, i ≤ 16 → ∀ ls : Array Slot, lv_has ls 2 [(1, .int (ji_n (i : Int))), (0, .ref (v 0))] → (∀ x : Nat, x < i → sp_dn K A (x : Int) n ≤ 1) → W p l e R s m args below meth c s.heap [] 0 0 Q (F0 m 2 ls []) := by
    refine lp_up 16 ?_
    intro i hi_i ih2 ls hl hq
    refine lv_iload_n hx hb dX1_definesTwice_2 rfl (lv_at hl 0 rfl) ?_
    refine jn_bipush hx hb dX1_definesTwice_3 (by decide) ?_
    refine jn_icmp_ge hx hb dX1_definesTwice_5 (tgt := 25) rfl (by unfold ji_r; omega) (by unfold ji_r; omega) (fun hc3 => ?_) (fun hc3 => ?_)
    · skip
      refine jn_iconst hx hb dX1_definesTwice_25 ?_
      exact hend _ _ _ dX1_definesTwice_26 (Or.inr ⟨rfl, fun ⟨x, q1, q2⟩ => by have := hq x (by omega); omega⟩)
    · skip
      refine lv_aload_n hx hb dX1_definesTwice_8 rfl (lv_at hl 1 rfl) ?_
      refine lv_iload_n hx hb dX1_definesTwice_9 rfl (lv_at hl 0 rfl) ?_
      refine cl_rd (va_runV (As := [.int (ji_n (i : Int))]) (rest := []) ⟨hx, hb, hml, hown, hts⟩ (ct_countDefined l dC dI cI v n f0 f1 f2 K A B hn hg h0 h1 (i : Int) (by unfold ji_r; omega)) (cwV 1 hts (ub_V tm_215 tm_217 tm_s6 tm_2 tm_218) rfl rfl rfl (by decide +kernel) (by rw [hR]; exact ⟨Nat.le_of_ble_eq_true rfl, Nat.le_of_ble_eq_true rfl⟩)) (pv_rd (q0 := 0) (ci := 1) hN hP rfl rfl) rfl rfl hl.1 rfl (lv_room (Nat.le_of_ble_eq_true rfl)) dX1_definesTwice_10 ⟨Nat.zero_le _, Nat.zero_le _⟩) ?_
      have hd10 := sp_dn_b K A (i : Int) n
      refine jn_iconst hx hb dX1_definesTwice_13 ?_
      refine jn_icmp_le hx hb dX1_definesTwice_14 (tgt := 19) rfl (by unfold ji_r; omega) (by unfold ji_r; omega) (fun hc4 => ?_) (fun hc4 => ?_)
      · skip
        refine jn_iinc (lv' := [(1, .int (ji_n ((i : Int) + 1))), (0, .ref (v 0))]) (k := 0) (v := (i : Int) + 1) hx hb dX1_definesTwice_19 hl rfl rfl (by decide) rfl (fun ls hl => ?_)
        refine lv_goto hx hb dX1_definesTwice_22 (tgt := 2) rfl ?_
        have hl : lv_has ls 2 [(1, .int (ji_n ((i + 1 : Nat) : Int))), (0, .ref (v 0))] := by
          have hl2 := lv_sub hl (l' := [(1, .int (ji_n ((i : Int) + 1))), (0, .ref (v 0))]) [0, 1] rfl
          rw [show (ji_n ((i : Int) + 1)) = (ji_n ((i + 1 : Nat) : Int)) from (congrArg ji_n (by omega))] at hl2
          exact hl2
        exact ih2 (by omega) ls hl (fun x h => by rcases Nat.lt_succ_iff_lt_or_eq.mp h with h | h; exact hq x h; rw [h]; omega)
      · skip
        refine jn_iconst hx hb dX1_definesTwice_17 ?_
        exact hend _ _ _ dX1_definesTwice_18 (Or.inl ⟨rfl, i, by omega, by omega⟩)
  have hl : lv_has ls 2 [(1, .int (ji_n ((0 : Nat) : Int))), (0, .ref (v 0))] := lv_sub hl [0, 1] rfl
  exact loop1 0 (by omega) ls hl (fun x h => absurd h (Nat.not_lt_zero x))

set_option maxHeartbeats 4000000 in
set_option maxRecDepth 100000 in
theorem ct_namesUndefined (l : Launch) (dC : Nat → ClassId) (dI : Nat → Nat → Nat) (cI : ClassId) (v : Nat → Nat) (n : Nat) (f0 f1 f2 : Nat → Int32) (K A B : Nat → Int) (hn : n ≤ 50) (hg : sp_gp K A B n) (h0 : ∀ j, j < n → f0 j = ji_n (K j)) (h1 : ∀ j, j < n → f1 j = ji_n (A j)) : Met l yX1_namesUndefined wsX1_namesUndefined { frames := 1, cells := 0, slots := 0, locals := 23 } (va_Pc [.ref (v 0)] (fun U => va_P (dC, dI) vwCl (wo_P v cI n f0 f1 f2) U.heap ∧ kn_K dC dI cI U)) (vp_Si (fun r => (r = ji_n 1 ∧ sp_un n K A) ∨ (r = ji_n 0 ∧ ¬ sp_un n K A))) 0 0 (fun _ => False) := by
  refine st_rd (cc := cX1_namesUndefined) (maxL := 3) (ret := some .boolean) (ty := .boolean) (by decide) rfl rfl (Nat.le_of_ble_eq_true rfl) (lv := [(0, .ref (v 0))]) rfl (fun v h => by rcases h with ⟨h, -⟩ | ⟨h, -⟩ <;> rw [h] <;> rfl) ?_
  intro p e s m args below meth c R Q ls hx hb hts hown hml hR hB hl hend
  obtain ⟨hP, hN⟩ := hB
  have hK := hN.1
  have hinX1 : ∀ w ∈ u_ws RX1 TX1 4, w ∈ wsX1_namesUndefined := fun w h => List.mem_cons_of_mem _ (inX1 w h)
  have hfl9 := (hts _ (List.mem_cons_of_mem _ tm_27))
  have hfl15 := (hts _ (List.mem_cons_of_mem _ tm_29))
  have hfl21 := (hts _ (List.mem_cons_of_mem _ tm_33))
  refine jn_iconst hx hb dX1_namesUndefined_0 ?_
  refine lv_istore_n (lv' := [(1, .int (ji_n 0)), (0, .ref (v 0))]) hx hb dX1_namesUndefined_1 rfl hl (by decide) rfl (fun ls hl => ?_)
  have loop1 : ∀ i : Nat, i ≤ n → ∀ ls : Array Slot, lv_has ls 3 [(1, .int (ji_n (i : Int))), (0, .ref (v 0))] → (∀ j : Nat, j < i → ¬ ((K j = 2 ∨ K j = 3) ∧ sp_dn K A (A j) n = 0)) → W p l e R s m args below meth c s.heap [] 0 0 Q (F0 m 2 ls []) := by
    refine lp_up n ?_
    intro i hi_i ih2 ls hl hq
    refine lv_iload_n hx hb dX1_namesUndefined_2 rfl (lv_at hl 0 rfl) ?_
    refine lv_aload_n hx hb dX1_namesUndefined_3 rfl (lv_at hl 1 rfl) ?_
    refine va_get (ci := 1) (C := RX1) (T := TX1) (N := 4) hx hb hts hinX1 hown hK hP 0 rfl rfl 3 (by decide) hfl21 (fun _ h9 => h9) rfl dX1_namesUndefined_4 ?_
    refine jn_icmp_ge hx hb dX1_namesUndefined_7 (tgt := 61) rfl (by unfold ji_r; omega) (by unfold ji_r; omega) (fun hc3 => ?_) (fun hc3 => ?_)
    · skip
      refine jn_iconst hx hb dX1_namesUndefined_61 ?_
      exact hend _ _ _ dX1_namesUndefined_62 (Or.inr ⟨rfl, fun ⟨x, q1, q2, q3⟩ => hq x (by omega) ⟨q2, q3⟩⟩)
    · skip
      have hgi := hg i (by omega)
      unfold sp_gd at hgi
      refine lv_aload_n hx hb dX1_namesUndefined_10 rfl (lv_at hl 1 rfl) ?_
      refine va_get (ci := 1) (C := RX1) (T := TX1) (N := 4) hx hb hts hinX1 hown hK hP 0 rfl rfl 0 (by decide) hfl9 (fun _ h9 => h9) rfl dX1_namesUndefined_11 ?_
      refine lv_iload_n hx hb dX1_namesUndefined_14 rfl (lv_at hl 0 rfl) ?_
      refine jn_iald hx hb hK hP 1 0 rfl rfl i (by omega) (by omega) (by decide) (v := K i) (h0 i (by omega)) dX1_namesUndefined_15 ?_
      refine jn_iconst hx hb dX1_namesUndefined_16 ?_
      refine jn_icmp_eq hx hb dX1_namesUndefined_17 (tgt := 30) rfl (by unfold ji_r; omega) (by unfold ji_r; omega) (fun hc4 => ?_) (fun hc4 => ?_)
      · skip
        refine jn_iconst hx hb dX1_namesUndefined_30 ?_
        refine lv_goto hx hb dX1_namesUndefined_31 (tgt := 35) rfl ?_
        refine lv_istore_n (lv' := [(2, .int (ji_n 1)), (1, .int (ji_n (i : Int))), (0, .ref (v 0))]) hx hb dX1_namesUndefined_35 rfl hl (by decide) rfl (fun ls hl => ?_)
        refine lv_iload_n hx hb dX1_namesUndefined_36 rfl (lv_at hl 0 rfl) ?_
        refine jn_if_eq hx hb dX1_namesUndefined_37 (tgt := 55) rfl (by unfold ji_r; omega) (fun hc5 => ?_) (fun hc5 => ?_)
        · skip
          exfalso; omega
        · skip
          refine lv_aload_n hx hb dX1_namesUndefined_40 rfl (lv_at hl 2 rfl) ?_
          refine lv_aload_n hx hb dX1_namesUndefined_41 rfl (lv_at hl 2 rfl) ?_
          refine va_get (ci := 1) (C := RX1) (T := TX1) (N := 4) hx hb hts hinX1 hown hK hP 0 rfl rfl 1 (by decide) hfl15 (fun _ h9 => h9) rfl dX1_namesUndefined_42 ?_
          refine lv_iload_n hx hb dX1_namesUndefined_45 rfl (lv_at hl 1 rfl) ?_
          refine jn_iald hx hb hK hP 2 0 rfl rfl i (by omega) (by omega) (by decide) (v := A i) (h1 i (by omega)) dX1_namesUndefined_46 ?_
          refine cl_rd (va_runV (As := [.int (ji_n (A i))]) (rest := []) ⟨hx, hb, hml, hown, hts⟩ (ct_countDefined l dC dI cI v n f0 f1 f2 K A B hn hg h0 h1 (A i) (by unfold ji_r; omega)) (cwV 1 hts (ub_V tm_215 tm_217 tm_s6 tm_2 tm_218) rfl rfl rfl (by decide +kernel) (by rw [hR]; exact ⟨Nat.le_of_ble_eq_true rfl, Nat.le_of_ble_eq_true rfl⟩)) (pv_rd (q0 := 0) (ci := 1) hN hP rfl rfl) rfl rfl hl.1 rfl (lv_room (Nat.le_of_ble_eq_true rfl)) dX1_namesUndefined_47 ⟨Nat.zero_le _, Nat.zero_le _⟩) ?_
          have hd47 := sp_dn_b K A (A i) n
          refine jn_if_ne hx hb dX1_namesUndefined_50 (tgt := 55) rfl (by unfold ji_r; omega) (fun hc6 => ?_) (fun hc6 => ?_)
          · skip
            refine jn_iinc (lv' := [(1, .int (ji_n ((i : Int) + 1))), (2, .int (ji_n 1)), (0, .ref (v 0))]) (k := 1) (v := (i : Int) + 1) hx hb dX1_namesUndefined_55 hl rfl rfl (by decide) rfl (fun ls hl => ?_)
            refine lv_goto hx hb dX1_namesUndefined_58 (tgt := 2) rfl ?_
            have hl : lv_has ls 3 [(1, .int (ji_n ((i + 1 : Nat) : Int))), (0, .ref (v 0))] := by
              have hl2 := lv_sub hl (l' := [(1, .int (ji_n ((i : Int) + 1))), (0, .ref (v 0))]) [0, 2] rfl
              rw [show (ji_n ((i : Int) + 1)) = (ji_n ((i + 1 : Nat) : Int)) from (congrArg ji_n (by omega))] at hl2
              exact hl2
            exact ih2 (by omega) ls hl (fun x h => by rcases Nat.lt_succ_iff_lt_or_eq.mp h with h | h; exact hq x h; rw [h]; omega)
          · skip
            refine jn_iconst hx hb dX1_namesUndefined_53 ?_
            exact hend _ _ _ dX1_namesUndefined_54 (Or.inl ⟨rfl, i, by omega, by omega, by omega⟩)
      · skip
        refine lv_aload_n hx hb dX1_namesUndefined_20 rfl (lv_at hl 1 rfl) ?_
        refine va_get (ci := 1) (C := RX1) (T := TX1) (N := 4) hx hb hts hinX1 hown hK hP 0 rfl rfl 0 (by decide) hfl9 (fun _ h9 => h9) rfl dX1_namesUndefined_21 ?_
        refine lv_iload_n hx hb dX1_namesUndefined_24 rfl (lv_at hl 0 rfl) ?_
        refine jn_iald hx hb hK hP 1 0 rfl rfl i (by omega) (by omega) (by decide) (v := K i) (h0 i (by omega)) dX1_namesUndefined_25 ?_
        refine jn_iconst hx hb dX1_namesUndefined_26 ?_
        refine jn_icmp_ne hx hb dX1_namesUndefined_27 (tgt := 34) rfl (by unfold ji_r; omega) (by unfold ji_r; omega) (fun hc7 => ?_) (fun hc7 => ?_)
        · skip
          refine jn_iconst hx hb dX1_namesUndefined_34 ?_
          refine lv_istore_n (lv' := [(2, .int (ji_n 0)), (1, .int (ji_n (i : Int))), (0, .ref (v 0))]) hx hb dX1_namesUndefined_35 rfl hl (by decide) rfl (fun ls hl => ?_)
          refine lv_iload_n hx hb dX1_namesUndefined_36 rfl (lv_at hl 0 rfl) ?_
          refine jn_if_eq hx hb dX1_namesUndefined_37 (tgt := 55) rfl (by unfold ji_r; omega) (fun hc8 => ?_) (fun hc8 => ?_)
          · skip
            refine jn_iinc (lv' := [(1, .int (ji_n ((i : Int) + 1))), (2, .int (ji_n 0)), (0, .ref (v 0))]) (k := 1) (v := (i : Int) + 1) hx hb dX1_namesUndefined_55 hl rfl rfl (by decide) rfl (fun ls hl => ?_)
            refine lv_goto hx hb dX1_namesUndefined_58 (tgt := 2) rfl ?_
            have hl : lv_has ls 3 [(1, .int (ji_n ((i + 1 : Nat) : Int))), (0, .ref (v 0))] := by
              have hl2 := lv_sub hl (l' := [(1, .int (ji_n ((i : Int) + 1))), (0, .ref (v 0))]) [0, 2] rfl
              rw [show (ji_n ((i : Int) + 1)) = (ji_n ((i + 1 : Nat) : Int)) from (congrArg ji_n (by omega))] at hl2
              exact hl2
            exact ih2 (by omega) ls hl (fun x h => by rcases Nat.lt_succ_iff_lt_or_eq.mp h with h | h; exact hq x h; rw [h]; omega)
          · skip
            exfalso; omega
        · skip
          refine jn_iconst hx hb dX1_namesUndefined_30 ?_
          refine lv_goto hx hb dX1_namesUndefined_31 (tgt := 35) rfl ?_
          refine lv_istore_n (lv' := [(2, .int (ji_n 1)), (1, .int (ji_n (i : Int))), (0, .ref (v 0))]) hx hb dX1_namesUndefined_35 rfl hl (by decide) rfl (fun ls hl => ?_)
          refine lv_iload_n hx hb dX1_namesUndefined_36 rfl (lv_at hl 0 rfl) ?_
          refine jn_if_eq hx hb dX1_namesUndefined_37 (tgt := 55) rfl (by unfold ji_r; omega) (fun hc9 => ?_) (fun hc9 => ?_)
          · skip
            exfalso; omega
          · skip
            refine lv_aload_n hx hb dX1_namesUndefined_40 rfl (lv_at hl 2 rfl) ?_
            refine lv_aload_n hx hb dX1_namesUndefined_41 rfl (lv_at hl 2 rfl) ?_
            refine va_get (ci := 1) (C := RX1) (T := TX1) (N := 4) hx hb hts hinX1 hown hK hP 0 rfl rfl 1 (by decide) hfl15 (fun _ h9 => h9) rfl dX1_namesUndefined_42 ?_
            refine lv_iload_n hx hb dX1_namesUndefined_45 rfl (lv_at hl 1 rfl) ?_
            refine jn_iald hx hb hK hP 2 0 rfl rfl i (by omega) (by omega) (by decide) (v := A i) (h1 i (by omega)) dX1_namesUndefined_46 ?_
            refine cl_rd (va_runV (As := [.int (ji_n (A i))]) (rest := []) ⟨hx, hb, hml, hown, hts⟩ (ct_countDefined l dC dI cI v n f0 f1 f2 K A B hn hg h0 h1 (A i) (by unfold ji_r; omega)) (cwV 1 hts (ub_V tm_215 tm_217 tm_s6 tm_2 tm_218) rfl rfl rfl (by decide +kernel) (by rw [hR]; exact ⟨Nat.le_of_ble_eq_true rfl, Nat.le_of_ble_eq_true rfl⟩)) (pv_rd (q0 := 0) (ci := 1) hN hP rfl rfl) rfl rfl hl.1 rfl (lv_room (Nat.le_of_ble_eq_true rfl)) dX1_namesUndefined_47 ⟨Nat.zero_le _, Nat.zero_le _⟩) ?_
            have hd47 := sp_dn_b K A (A i) n
            refine jn_if_ne hx hb dX1_namesUndefined_50 (tgt := 55) rfl (by unfold ji_r; omega) (fun hc10 => ?_) (fun hc10 => ?_)
            · skip
              refine jn_iinc (lv' := [(1, .int (ji_n ((i : Int) + 1))), (2, .int (ji_n 1)), (0, .ref (v 0))]) (k := 1) (v := (i : Int) + 1) hx hb dX1_namesUndefined_55 hl rfl rfl (by decide) rfl (fun ls hl => ?_)
              refine lv_goto hx hb dX1_namesUndefined_58 (tgt := 2) rfl ?_
              have hl : lv_has ls 3 [(1, .int (ji_n ((i + 1 : Nat) : Int))), (0, .ref (v 0))] := by
                have hl2 := lv_sub hl (l' := [(1, .int (ji_n ((i : Int) + 1))), (0, .ref (v 0))]) [0, 2] rfl
                rw [show (ji_n ((i : Int) + 1)) = (ji_n ((i + 1 : Nat) : Int)) from (congrArg ji_n (by omega))] at hl2
                exact hl2
              exact ih2 (by omega) ls hl (fun x h => by rcases Nat.lt_succ_iff_lt_or_eq.mp h with h | h; exact hq x h; rw [h]; omega)
            · skip
              refine jn_iconst hx hb dX1_namesUndefined_53 ?_
              exact hend _ _ _ dX1_namesUndefined_54 (Or.inl ⟨rfl, i, by omega, by omega, by omega⟩)
  have hl : lv_has ls 3 [(1, .int (ji_n ((0 : Nat) : Int))), (0, .ref (v 0))] := lv_sub hl [0, 1] rfl
  exact loop1 0 (by omega) ls hl (fun x h => absurd h (Nat.not_lt_zero x))
