set_option maxHeartbeats 4000000 in
set_option maxRecDepth 100000 in
theorem cd_insert (l : Launch) (size_ : Nat) (dC : Nat → ClassId) (dI : Nat → Nat → Nat) (cI : ClassId) (u v w : Nat → Nat) (nP : Nat) (f0 f1 f2 : Nat → Int32) (n : Nat) (g0 g1 g2 st fm vl : Nat → Int32) (K A B : Nat → Int) (hn : nP ≤ 50) (hF : as_F nP K A B f0 f1 f2) (y k a b : Int) (r1 : ji_r y) (r2 : ji_r k) (r3 : ji_r a) (r4 : ji_r b) : Met l yX2_insert wsX2_insert { frames := 3, cells := 0, slots := 0, locals := 65 } (va_Pc [.ref (u 0), .int (ji_n y), .int (ji_n k), .int (ji_n a), .int (ji_n b)] (wr_B (dC, dI) vwCl (wo_D u v w cI nP f0 f1 f2 n g0 g1 g2 st fm vl) size_ (kn_K dC dI cI))) (wr_Qi (fun r H => (r = ji_n 1 ∧ sp_gd k a b ∧ nP < 50 ∧ ∃ i : Nat, y = (i : Int) ∧ i ≤ nP ∧ ∃ q0 q1 q2 : Nat → Int32, va_P (dC, dI) vwCl (wo_D u v w cI (nP + 1) q0 q1 q2 n g0 g1 g2 st fm vl) H ∧ as_F (nP + 1) (sp_in K i k) (sp_in A i a) (sp_in B i b) q0 q1 q2) ∨ (r = ji_n 0 ∧ ¬ (sp_gd k a b ∧ nP < 50 ∧ 0 ≤ y ∧ y ≤ (nP : Int)) ∧ va_P (dC, dI) vwCl (wo_D u v w cI nP f0 f1 f2 n g0 g1 g2 st fm vl) H)) (va_A (wo_D u v w cI nP f0 f1 f2 n g0 g1 g2 st fm vl) size_)) 0 0 (va_A (wo_D u v w cI nP f0 f1 f2 n g0 g1 g2 st fm vl) size_) := by
  refine st_wi (cc := cX2_insert) (maxL := 5) (ret := some .boolean) (ty := .boolean) (by decide) rfl rfl (Nat.le_of_ble_eq_true rfl) (lv := [(0, .ref (u 0)), (1, .int (ji_n y)), (2, .int (ji_n k)), (3, .int (ji_n a)), (4, .int (ji_n b))]) rfl (fun v H h => by rcases h with ⟨h, -⟩ | ⟨h, -⟩ <;> rw [h] <;> rfl) ?_
  intro p e s m args below meth c R Q ls A9 hx hb hts hown hml hR hP hD hA hS hN hl hend
  have hK := hN.1
  have hinX2 : ∀ w ∈ u_ws RX2 TX2 2, w ∈ wsX2_insert := fun w h => List.mem_cons_of_mem _ (inX2 w h)
  have hfl10 := (hts _ (List.mem_cons_of_mem _ tm_74))
  refine lv_iload_n hx hb dX2_insert_0 rfl (lv_at hl 2 rfl) ?_
  refine lv_iload_n hx hb dX2_insert_1 rfl (lv_at hl 3 rfl) ?_
  refine lv_iload hx hb dX2_insert_2 (lv_at hl 4 rfl) ?_
  refine cl_rd (va_runS (As := [.int (ji_n k), .int (ji_n a), .int (ji_n b)]) (rest := []) ⟨hx, hb, hml, hown, hts⟩ (ct_isLine l k a b r2 r3 r4) (va_cwS 3 hts (ub_S tm_85 tm_86 tm_1 tm_87) rfl rfl rfl (by decide +kernel) (by rw [hR]; exact ⟨Nat.le_of_ble_eq_true rfl, Nat.le_of_ble_eq_true rfl⟩)) ⟨fun _ _ _ _ q => q, fun U _ _ => ⟨rfl, trivial⟩⟩ rfl rfl hl.1 rfl (lv_room (Nat.le_of_ble_eq_true rfl)) dX2_insert_4 ⟨Nat.zero_le _, Nat.zero_le _⟩) ?_
  have hgl := sp_gl_or k a b
  refine jn_if_eq hx hb dX2_insert_7 (tgt := 29) rfl (by unfold ji_r; omega) (fun hc1 => ?_) (fun hc1 => ?_)
  · skip
    refine jn_iconst hx hb dX2_insert_29 ?_
    exact hend _ _ _ _ _ dX2_insert_30 (Or.inr ⟨rfl, by rintro ⟨q, -⟩; rcases hgl with h | h <;> first | omega | exact h.1 q, hP⟩) hS
  · skip
    refine lv_aload_n hx hb dX2_insert_10 rfl (lv_at hl 0 rfl) ?_
    refine va_get (ci := 2) (C := RX2) (T := TX2) (N := 2) hx hb hts hinX2 hown hK hP 0 rfl rfl 0 (by decide) hfl10 (fun _ h9 => h9) rfl dX2_insert_11 ?_
    refine lv_iload_n hx hb dX2_insert_14 rfl (lv_at hl 1 rfl) ?_
    refine lv_iload_n hx hb dX2_insert_15 rfl (lv_at hl 2 rfl) ?_
    refine lv_iload_n hx hb dX2_insert_16 rfl (lv_at hl 3 rfl) ?_
    refine lv_iload hx hb dX2_insert_17 (lv_at hl 4 rfl) ?_
    refine cl_wi (wc := wo_P v cI nP f0 f1 f2) (wr := [0, 5, 6, 7, 8, 9, 10, 11, 12].filterMap (fun i => (wo_D u v w cI nP f0 f1 f2 n g0 g1 g2 st fm vl)[i]?)) [1, 2, 3, 4] [0, 5, 6, 7, 8, 9, 10, 11, 12] rfl rfl (by decide) (by decide) (by decide) hP hD hS hA (va_runV (As := [.int (ji_n y), .int (ji_n k), .int (ji_n a), .int (ji_n b)]) (rest := []) ⟨hx, hb, hml, hown, hts⟩ (ct_open l s.heap.size dC dI cI v nP f0 f1 f2 K A B hn hF y k a b r1 r2 r3 r4) (cwV 4 hts (ub_V tm_94 tm_95 tm_96 tm_2 tm_97) rfl rfl rfl (by decide +kernel) (by rw [hR]; exact ⟨Nat.le_of_ble_eq_true rfl, Nat.le_of_ble_eq_true rfl⟩)) (pv_wr (q0 := 0) (ci := 1) hN (hP.sub [1, 2, 3, 4] rfl) (hD.sub [1, 2, 3, 4] (by decide) rfl) rfl rfl) rfl rfl hl.1 rfl (lv_room (Nat.le_of_ble_eq_true rfl)) dX2_insert_19 ⟨Nat.zero_le _, Nat.zero_le _⟩) (fun r9 H locs hPs hj hS => ?_)
    rcases hPs with ⟨rfl, hlt, i, rfl, hi, q0, q1, q2, hPs, hF2⟩ | ⟨rfl, hno, hPs⟩
    · skip
      obtain ⟨hP, hD⟩ := hj (wo_P v cI (nP + 1) q0 q1 q2) rfl hPs
      have hP := hP.sub (ws' := wo_D u v w cI (nP + 1) q0 q1 q2 n g0 g1 g2 st fm vl) [0, 9, 10, 11, 12, 1, 2, 3, 4, 5, 6, 7, 8] rfl
      have hD := hD.sub (ws' := wo_D u v w cI (nP + 1) q0 q1 q2 n g0 g1 g2 st fm vl) [0, 9, 10, 11, 12, 1, 2, 3, 4, 5, 6, 7, 8] (by decide) rfl
      refine jn_if_eq hx hb dX2_insert_22 (tgt := 29) rfl (by unfold ji_r; omega) (fun hc2 => ?_) (fun hc2 => ?_)
      · skip
        exfalso; omega
      · skip
        refine jn_iconst hx hb dX2_insert_25 ?_
        refine lv_goto hx hb dX2_insert_26 (tgt := 30) rfl ?_
        exact hend _ _ _ _ _ dX2_insert_30 (Or.inl ⟨rfl, by rcases hgl with h | h <;> first | exact h.1 | omega, hlt, i, rfl, hi, _, _, _, hP, hF2⟩) hS
    · skip
      obtain ⟨hP, hD⟩ := hj (wo_P v cI nP f0 f1 f2) rfl hPs
      have hP := hP.sub (ws' := wo_D u v w cI nP f0 f1 f2 n g0 g1 g2 st fm vl) [0, 9, 10, 11, 12, 1, 2, 3, 4, 5, 6, 7, 8] rfl
      have hD := hD.sub (ws' := wo_D u v w cI nP f0 f1 f2 n g0 g1 g2 st fm vl) [0, 9, 10, 11, 12, 1, 2, 3, 4, 5, 6, 7, 8] (by decide) rfl
      refine jn_if_eq hx hb dX2_insert_22 (tgt := 29) rfl (by unfold ji_r; omega) (fun hc3 => ?_) (fun hc3 => ?_)
      · skip
        refine jn_iconst hx hb dX2_insert_29 ?_
        exact hend _ _ _ _ _ dX2_insert_30 (Or.inr ⟨rfl, fun q => hno q.2, hP⟩) hS
      · skip
        exfalso; omega

set_option maxHeartbeats 4000000 in
set_option maxRecDepth 100000 in
theorem cd_remove (l : Launch) (size_ : Nat) (dC : Nat → ClassId) (dI : Nat → Nat → Nat) (cI : ClassId) (u v w : Nat → Nat) (nP : Nat) (f0 f1 f2 : Nat → Int32) (n : Nat) (g0 g1 g2 st fm vl : Nat → Int32) (K A B : Nat → Int) (hn : nP ≤ 50) (hF : as_F nP K A B f0 f1 f2) (y : Int) (r1 : ji_r y) : Met l yX2_remove wsX2_remove { frames := 3, cells := 0, slots := 0, locals := 62 } (va_Pc [.ref (u 0), .int (ji_n y)] (wr_B (dC, dI) vwCl (wo_D u v w cI nP f0 f1 f2 n g0 g1 g2 st fm vl) size_ (kn_K dC dI cI))) (wr_Qi (fun r H => (r = ji_n 1 ∧ ∃ i m : Nat, y = (i : Int) ∧ nP = m + 1 ∧ i < nP ∧ ∃ q0 q1 q2 : Nat → Int32, va_P (dC, dI) vwCl (wo_D u v w cI m q0 q1 q2 n g0 g1 g2 st fm vl) H ∧ as_F m (sp_rm K i) (sp_rm A i) (sp_rm B i) q0 q1 q2) ∨ (r = ji_n 0 ∧ ¬ (0 ≤ y ∧ y < (nP : Int)) ∧ va_P (dC, dI) vwCl (wo_D u v w cI nP f0 f1 f2 n g0 g1 g2 st fm vl) H)) (va_A (wo_D u v w cI nP f0 f1 f2 n g0 g1 g2 st fm vl) size_)) 0 0 (va_A (wo_D u v w cI nP f0 f1 f2 n g0 g1 g2 st fm vl) size_) := by
  refine st_wi (cc := cX2_remove) (maxL := 2) (ret := some .boolean) (ty := .boolean) (by decide) rfl rfl (Nat.le_of_ble_eq_true rfl) (lv := [(0, .ref (u 0)), (1, .int (ji_n y))]) rfl (fun v H h => by rcases h with ⟨h, -⟩ | ⟨h, -⟩ <;> rw [h] <;> rfl) ?_
  intro p e s m args below meth c R Q ls A9 hx hb hts hown hml hR hP hD hA hS hN hl hend
  have hK := hN.1
  have hinX2 : ∀ w ∈ u_ws RX2 TX2 2, w ∈ wsX2_remove := fun w h => List.mem_cons_of_mem _ (inX2 w h)
  have hfl10 := (hts _ (List.mem_cons_of_mem _ tm_74))
  refine lv_aload_n hx hb dX2_remove_0 rfl (lv_at hl 0 rfl) ?_
  refine va_get (ci := 2) (C := RX2) (T := TX2) (N := 2) hx hb hts hinX2 hown hK hP 0 rfl rfl 0 (by decide) hfl10 (fun _ h9 => h9) rfl dX2_remove_1 ?_
  refine lv_iload_n hx hb dX2_remove_4 rfl (lv_at hl 1 rfl) ?_
  refine cl_wi (wc := wo_P v cI nP f0 f1 f2) (wr := [0, 5, 6, 7, 8, 9, 10, 11, 12].filterMap (fun i => (wo_D u v w cI nP f0 f1 f2 n g0 g1 g2 st fm vl)[i]?)) [1, 2, 3, 4] [0, 5, 6, 7, 8, 9, 10, 11, 12] rfl rfl (by decide) (by decide) (by decide) hP hD hS hA (va_runV (As := [.int (ji_n y)]) (rest := []) ⟨hx, hb, hml, hown, hts⟩ (ct_close l s.heap.size dC dI cI v nP f0 f1 f2 K A B hn hF y r1) (cwV 1 hts (ub_V tm_109 tm_110 tm_111 tm_2 tm_112) rfl rfl rfl (by decide +kernel) (by rw [hR]; exact ⟨Nat.le_of_ble_eq_true rfl, Nat.le_of_ble_eq_true rfl⟩)) (pv_wr (q0 := 0) (ci := 1) hN (hP.sub [1, 2, 3, 4] rfl) (hD.sub [1, 2, 3, 4] (by decide) rfl) rfl rfl) rfl rfl hl.1 rfl (lv_room (Nat.le_of_ble_eq_true rfl)) dX2_remove_5 ⟨Nat.zero_le _, Nat.zero_le _⟩) (fun r9 H locs hPs hj hS => ?_)
  rcases hPs with ⟨rfl, i, k, rfl, hk, hi, q0, q1, q2, hPs, hF2⟩ | ⟨rfl, hno, hPs⟩
  · skip
    obtain ⟨hP, hD⟩ := hj (wo_P v cI k q0 q1 q2) rfl hPs
    have hP := hP.sub (ws' := wo_D u v w cI k q0 q1 q2 n g0 g1 g2 st fm vl) [0, 9, 10, 11, 12, 1, 2, 3, 4, 5, 6, 7, 8] rfl
    have hD := hD.sub (ws' := wo_D u v w cI k q0 q1 q2 n g0 g1 g2 st fm vl) [0, 9, 10, 11, 12, 1, 2, 3, 4, 5, 6, 7, 8] (by decide) rfl
    exact hend _ _ _ _ _ dX2_remove_8 (Or.inl ⟨rfl, i, k, rfl, hk, hi, _, _, _, hP, hF2⟩) hS
  · skip
    obtain ⟨hP, hD⟩ := hj (wo_P v cI nP f0 f1 f2) rfl hPs
    have hP := hP.sub (ws' := wo_D u v w cI nP f0 f1 f2 n g0 g1 g2 st fm vl) [0, 9, 10, 11, 12, 1, 2, 3, 4, 5, 6, 7, 8] rfl
    have hD := hD.sub (ws' := wo_D u v w cI nP f0 f1 f2 n g0 g1 g2 st fm vl) [0, 9, 10, 11, 12, 1, 2, 3, 4, 5, 6, 7, 8] (by decide) rfl
    exact hend _ _ _ _ _ dX2_remove_8 (Or.inr ⟨rfl, hno, hP⟩) hS
