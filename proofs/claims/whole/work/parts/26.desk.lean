set_option maxHeartbeats 4000000 in
set_option maxRecDepth 100000 in
theorem cd_lines (l : Launch) (dC : Nat → ClassId) (dI : Nat → Nat → Nat) (cI : ClassId) (u v w : Nat → Nat) (nP : Nat) (f0 f1 f2 : Nat → Int32) (n : Nat) (g0 g1 g2 st fm vl : Nat → Int32) : Met l yX2_lines wsX2_lines { frames := 0, cells := 0, slots := 0, locals := 0 } (va_Pc [.ref (u 0)] (fun U => va_P (dC, dI) vwCl (wo_D u v w cI nP f0 f1 f2 n g0 g1 g2 st fm vl) U.heap ∧ kn_K dC dI cI U)) (vp_Si (fun r => r = ji_n (nP : Int))) 0 0 (fun _ => False) := by
  refine st_rd (cc := cX2_lines) (maxL := 1) (ret := some .int) (ty := .int) (by decide) rfl rfl (Nat.le_of_ble_eq_true rfl) (lv := [(0, .ref (u 0))]) rfl (fun v h => rfl) ?_
  intro p e s m args below meth c R Q ls hx hb hts hown hml hR hB hl hend
  obtain ⟨hP, hN⟩ := hB
  have hK := hN.1
  have hinX2 : ∀ w ∈ u_ws RX2 TX2 2, w ∈ wsX2_lines := fun w h => List.mem_cons_of_mem _ (inX2 w h)
  have hfl10 := (hts _ (List.mem_cons_of_mem _ tm_74))
  have hinX1 : ∀ w ∈ u_ws RX1 TX1 4, w ∈ wsX2_lines := fun w h => List.mem_cons_of_mem _ (inX1 w h)
  refine lv_aload_n hx hb dX2_lines_0 rfl (lv_at hl 0 rfl) ?_
  refine va_get (ci := 2) (C := RX2) (T := TX2) (N := 2) hx hb hts hinX2 hown hK hP 0 rfl rfl 0 (by decide) hfl10 (fun _ h9 => h9) rfl dX2_lines_1 ?_
  refine va_getN (ci := 1) (C := RX1) (T := TX1) (N := 4) hx hb hts hinX1 hown hK hP 1 rfl rfl 3 (by decide) (va_Nw.use rfl (nw_0 hN)) (fun _ h9 => h9) rfl dX2_lines_4 ?_
  exact hend _ _ _ dX2_lines_7 rfl

set_option maxHeartbeats 4000000 in
set_option maxRecDepth 100000 in
theorem cd_at (l : Launch) (dC : Nat → ClassId) (dI : Nat → Nat → Nat) (cI : ClassId) (u v w : Nat → Nat) (nP : Nat) (f0 f1 f2 : Nat → Int32) (n : Nat) (g0 g1 g2 st fm vl : Nat → Int32) (K A B z : Nat → Int) (hF : as_F n K A B g0 g1 g2) (hAS : sp_AS n K A B z) (hS : as_S n K A z st fm vl) (x : Int) (r1 : ji_r x) : Met l yX2_at wsX2_at { frames := 4, cells := 0, slots := 0, locals := 90 } (va_Pc [.ref (u 0), .int (ji_n x)] (fun U => va_P (dC, dI) vwCl (wo_D u v w cI nP f0 f1 f2 n g0 g1 g2 st fm vl) U.heap ∧ kn_K dC dI cI U)) (vp_Si (fun r => r = ji_n (sp_ba n K A B z x))) 0 0 (fun _ => False) := by
  refine st_rd (cc := cX2_at) (maxL := 2) (ret := some .int) (ty := .int) (by decide) rfl rfl (Nat.le_of_ble_eq_true rfl) (lv := [(0, .ref (u 0)), (1, .int (ji_n x))]) rfl (fun v h => rfl) ?_
  intro p e s m args below meth c R Q ls hx hb hts hown hml hR hB hl hend
  obtain ⟨hP, hN⟩ := hB
  have hK := hN.1
  have hinX2 : ∀ w ∈ u_ws RX2 TX2 2, w ∈ wsX2_at := fun w h => List.mem_cons_of_mem _ (inX2 w h)
  have hfl19 := (hts _ (List.mem_cons_of_mem _ tm_75))
  have hS0 := hS
  have hn := hAS.1
  have hg := hAS.2.1
  have ho := hAS.2.2.1
  obtain ⟨hst, hfm, hvl⟩ := hS
  refine lv_aload_n hx hb dX2_at_0 rfl (lv_at hl 0 rfl) ?_
  refine va_get (ci := 2) (C := RX2) (T := TX2) (N := 2) hx hb hts hinX2 hown hK hP 0 rfl rfl 1 (by decide) hfl19 (fun _ h9 => h9) rfl dX2_at_1 ?_
  refine lv_iload_n hx hb dX2_at_4 rfl (lv_at hl 1 rfl) ?_
  refine cl_rd (va_runV (As := [.int (ji_n x)]) (rest := []) ⟨hx, hb, hml, hown, hts⟩ (ct_byteAt l dC dI cI w n g0 g1 g2 st fm vl K A B z hF hAS hS0 x r1) (cwV 1 hts (ub_V tm_125 tm_126 tm_127 tm_3 tm_128) rfl rfl rfl (by decide +kernel) (by rw [hR]; exact ⟨Nat.le_of_ble_eq_true rfl, Nat.le_of_ble_eq_true rfl⟩)) (pv_rd (q0 := 0) (ci := 0) hN (hP.sub [5, 6, 7, 8, 9, 10, 11, 12] rfl) rfl rfl) rfl rfl hl.1 rfl (lv_room (Nat.le_of_ble_eq_true rfl)) dX2_at_5 ⟨Nat.zero_le _, Nat.zero_le _⟩) ?_
  exact hend _ _ _ dX2_at_8 rfl

set_option maxHeartbeats 4000000 in
set_option maxRecDepth 100000 in
theorem cd_address (l : Launch) (dC : Nat → ClassId) (dI : Nat → Nat → Nat) (cI : ClassId) (u v w : Nat → Nat) (nP : Nat) (f0 f1 f2 : Nat → Int32) (n : Nat) (g0 g1 g2 st fm vl : Nat → Int32) (K A B z : Nat → Int) (hF : as_F n K A B g0 g1 g2) (hAS : sp_AS n K A B z) (hS : as_S n K A z st fm vl) (x : Int) (r1 : ji_r x) : Met l yX2_address wsX2_address { frames := 1, cells := 0, slots := 0, locals := 21 } (va_Pc [.ref (u 0), .int (ji_n x)] (fun U => va_P (dC, dI) vwCl (wo_D u v w cI nP f0 f1 f2 n g0 g1 g2 st fm vl) U.heap ∧ kn_K dC dI cI U)) (vp_Si (fun r => r = ji_n (sp_ad n z x))) 0 0 (fun _ => False) := by
  refine st_rd (cc := cX2_address) (maxL := 2) (ret := some .int) (ty := .int) (by decide) rfl rfl (Nat.le_of_ble_eq_true rfl) (lv := [(0, .ref (u 0)), (1, .int (ji_n x))]) rfl (fun v h => rfl) ?_
  intro p e s m args below meth c R Q ls hx hb hts hown hml hR hB hl hend
  obtain ⟨hP, hN⟩ := hB
  have hK := hN.1
  have hinX2 : ∀ w ∈ u_ws RX2 TX2 2, w ∈ wsX2_address := fun w h => List.mem_cons_of_mem _ (inX2 w h)
  have hfl19 := (hts _ (List.mem_cons_of_mem _ tm_75))
  have hinX0 : ∀ w ∈ u_ws RX0 TX0 4, w ∈ wsX2_address := fun w h => List.mem_cons_of_mem _ (inX0 w h)
  have hS0 := hS
  have hn := hAS.1
  have hg := hAS.2.1
  have ho := hAS.2.2.1
  obtain ⟨hst, hfm, hvl⟩ := hS
  refine lv_aload_n hx hb dX2_address_0 rfl (lv_at hl 0 rfl) ?_
  refine va_get (ci := 2) (C := RX2) (T := TX2) (N := 2) hx hb hts hinX2 hown hK hP 0 rfl rfl 1 (by decide) hfl19 (fun _ h9 => h9) rfl dX2_address_1 ?_
  refine va_getN (ci := 0) (C := RX0) (T := TX0) (N := 4) hx hb hts hinX0 hown hK hP 5 rfl rfl 0 (by decide) (va_Nw.use rfl (nw_1 hN)) (fun _ h9 => h9) rfl dX2_address_4 ?_
  refine lv_iload_n hx hb dX2_address_7 rfl (lv_at hl 1 rfl) ?_
  refine cl_rd (va_runV (As := [.int (ji_n x)]) (rest := []) ⟨hx, hb, hml, hown, hts⟩ (ct_has l dC dI cI (fun i => w (i + 4)) n g0 g1 g2 x r1 hn) (cwV 1 hts (ub_V tm_159 tm_114 tm_115 tm_2 tm_116) rfl rfl rfl (by decide +kernel) (by rw [hR]; exact ⟨Nat.le_of_ble_eq_true rfl, Nat.le_of_ble_eq_true rfl⟩)) (pv_rd (q0 := 0) (ci := 1) hN (hP.sub [9, 10, 11, 12] rfl) rfl rfl) rfl rfl hl.1 rfl (lv_room (Nat.le_of_ble_eq_true rfl)) dX2_address_8 ⟨Nat.zero_le _, Nat.zero_le _⟩) ?_
  have hw := sp_wi_or x 0 ((n : Int) - 1)
  refine jn_if_eq hx hb dX2_address_11 (tgt := 26) rfl (by unfold ji_r; omega) (fun hc1 => ?_) (fun hc1 => ?_)
  · skip
    refine jn_iconst hx hb dX2_address_26 ?_
    exact hend _ _ _ dX2_address_27 (congrArg ji_n (by unfold sp_ad; rw [if_neg (by omega)]))
  · skip
    refine lv_aload_n hx hb dX2_address_14 rfl (lv_at hl 0 rfl) ?_
    refine va_get (ci := 2) (C := RX2) (T := TX2) (N := 2) hx hb hts hinX2 hown hK hP 0 rfl rfl 1 (by decide) hfl19 (fun _ h9 => h9) rfl dX2_address_15 ?_
    refine va_getN (ci := 0) (C := RX0) (T := TX0) (N := 4) hx hb hts hinX0 hown hK hP 5 rfl rfl 1 (by decide) (va_Nw.use rfl (nw_2 hN)) (fun _ h9 => h9) rfl dX2_address_18 ?_
    refine lv_iload_n hx hb dX2_address_21 rfl (lv_at hl 1 rfl) ?_
    refine jn_iald hx hb hK hP 6 0 rfl rfl x.toNat (by omega) (by omega) (by decide) (v := sp_pz z x.toNat) (hst x.toNat (by omega)) dX2_address_22 ?_
    refine lv_goto hx hb dX2_address_23 (tgt := 27) rfl ?_
    exact hend _ _ _ dX2_address_27 (congrArg ji_n (by unfold sp_ad; rw [if_pos (by omega)]))

set_option maxHeartbeats 4000000 in
set_option maxRecDepth 100000 in
theorem cd_form (l : Launch) (dC : Nat → ClassId) (dI : Nat → Nat → Nat) (cI : ClassId) (u v w : Nat → Nat) (nP : Nat) (f0 f1 f2 : Nat → Int32) (n : Nat) (g0 g1 g2 st fm vl : Nat → Int32) (K A B z : Nat → Int) (hF : as_F n K A B g0 g1 g2) (hAS : sp_AS n K A B z) (hS : as_S n K A z st fm vl) (x : Int) (r1 : ji_r x) : Met l yX2_form wsX2_form { frames := 1, cells := 0, slots := 0, locals := 21 } (va_Pc [.ref (u 0), .int (ji_n x)] (fun U => va_P (dC, dI) vwCl (wo_D u v w cI nP f0 f1 f2 n g0 g1 g2 st fm vl) U.heap ∧ kn_K dC dI cI U)) (vp_Si (fun r => r = ji_n (sp_fo n K z x))) 0 0 (fun _ => False) := by
  refine st_rd (cc := cX2_form) (maxL := 2) (ret := some .int) (ty := .int) (by decide) rfl rfl (Nat.le_of_ble_eq_true rfl) (lv := [(0, .ref (u 0)), (1, .int (ji_n x))]) rfl (fun v h => rfl) ?_
  intro p e s m args below meth c R Q ls hx hb hts hown hml hR hB hl hend
  obtain ⟨hP, hN⟩ := hB
  have hK := hN.1
  have hinX2 : ∀ w ∈ u_ws RX2 TX2 2, w ∈ wsX2_form := fun w h => List.mem_cons_of_mem _ (inX2 w h)
  have hfl19 := (hts _ (List.mem_cons_of_mem _ tm_75))
  have hinX0 : ∀ w ∈ u_ws RX0 TX0 4, w ∈ wsX2_form := fun w h => List.mem_cons_of_mem _ (inX0 w h)
  have hS0 := hS
  have hn := hAS.1
  have hg := hAS.2.1
  have ho := hAS.2.2.1
  obtain ⟨hst, hfm, hvl⟩ := hS
  refine lv_aload_n hx hb dX2_form_0 rfl (lv_at hl 0 rfl) ?_
  refine va_get (ci := 2) (C := RX2) (T := TX2) (N := 2) hx hb hts hinX2 hown hK hP 0 rfl rfl 1 (by decide) hfl19 (fun _ h9 => h9) rfl dX2_form_1 ?_
  refine va_getN (ci := 0) (C := RX0) (T := TX0) (N := 4) hx hb hts hinX0 hown hK hP 5 rfl rfl 0 (by decide) (va_Nw.use rfl (nw_1 hN)) (fun _ h9 => h9) rfl dX2_form_4 ?_
  refine lv_iload_n hx hb dX2_form_7 rfl (lv_at hl 1 rfl) ?_
  refine cl_rd (va_runV (As := [.int (ji_n x)]) (rest := []) ⟨hx, hb, hml, hown, hts⟩ (ct_has l dC dI cI (fun i => w (i + 4)) n g0 g1 g2 x r1 hn) (cwV 1 hts (ub_V tm_159 tm_114 tm_115 tm_2 tm_116) rfl rfl rfl (by decide +kernel) (by rw [hR]; exact ⟨Nat.le_of_ble_eq_true rfl, Nat.le_of_ble_eq_true rfl⟩)) (pv_rd (q0 := 0) (ci := 1) hN (hP.sub [9, 10, 11, 12] rfl) rfl rfl) rfl rfl hl.1 rfl (lv_room (Nat.le_of_ble_eq_true rfl)) dX2_form_8 ⟨Nat.zero_le _, Nat.zero_le _⟩) ?_
  have hw := sp_wi_or x 0 ((n : Int) - 1)
  refine jn_if_eq hx hb dX2_form_11 (tgt := 26) rfl (by unfold ji_r; omega) (fun hc1 => ?_) (fun hc1 => ?_)
  · skip
    refine jn_iconst hx hb dX2_form_26 ?_
    exact hend _ _ _ dX2_form_27 (congrArg ji_n (by unfold sp_fo; rw [if_neg (by omega)]))
  · skip
    refine lv_aload_n hx hb dX2_form_14 rfl (lv_at hl 0 rfl) ?_
    refine va_get (ci := 2) (C := RX2) (T := TX2) (N := 2) hx hb hts hinX2 hown hK hP 0 rfl rfl 1 (by decide) hfl19 (fun _ h9 => h9) rfl dX2_form_15 ?_
    refine va_getN (ci := 0) (C := RX0) (T := TX0) (N := 4) hx hb hts hinX0 hown hK hP 5 rfl rfl 2 (by decide) (va_Nw.use rfl (nw_3 hN)) (fun _ h9 => h9) rfl dX2_form_18 ?_
    refine lv_iload_n hx hb dX2_form_21 rfl (lv_at hl 1 rfl) ?_
    refine jn_iald hx hb hK hP 7 0 rfl rfl x.toNat (by omega) (by omega) (by decide) (v := sp_fm (K x.toNat) (z x.toNat)) (hfm x.toNat (by omega)) dX2_form_22 ?_
    refine lv_goto hx hb dX2_form_23 (tgt := 27) rfl ?_
    exact hend _ _ _ dX2_form_27 (congrArg ji_n (by unfold sp_fo; rw [if_pos (by omega)]))

set_option maxHeartbeats 4000000 in
set_option maxRecDepth 100000 in
theorem cd_longs (l : Launch) (dC : Nat → ClassId) (dI : Nat → Nat → Nat) (cI : ClassId) (u v w : Nat → Nat) (nP : Nat) (f0 f1 f2 : Nat → Int32) (n : Nat) (g0 g1 g2 st fm vl : Nat → Int32) (K A B z : Nat → Int) (hF : as_F n K A B g0 g1 g2) (hAS : sp_AS n K A B z) (hS : as_S n K A z st fm vl) : Met l yX2_longs wsX2_longs { frames := 1, cells := 0, slots := 0, locals := 22 } (va_Pc [.ref (u 0)] (fun U => va_P (dC, dI) vwCl (wo_D u v w cI nP f0 f1 f2 n g0 g1 g2 st fm vl) U.heap ∧ kn_K dC dI cI U)) (vp_Si (fun r => r = ji_n (sp_lc K z n))) 0 0 (fun _ => False) := by
  refine st_rd (cc := cX2_longs) (maxL := 1) (ret := some .int) (ty := .int) (by decide) rfl rfl (Nat.le_of_ble_eq_true rfl) (lv := [(0, .ref (u 0))]) rfl (fun v h => rfl) ?_
  intro p e s m args below meth c R Q ls hx hb hts hown hml hR hB hl hend
  obtain ⟨hP, hN⟩ := hB
  have hK := hN.1
  have hinX2 : ∀ w ∈ u_ws RX2 TX2 2, w ∈ wsX2_longs := fun w h => List.mem_cons_of_mem _ (inX2 w h)
  have hfl19 := (hts _ (List.mem_cons_of_mem _ tm_75))
  have hS0 := hS
  have hn := hAS.1
  have hg := hAS.2.1
  have ho := hAS.2.2.1
  obtain ⟨hst, hfm, hvl⟩ := hS
  refine lv_aload_n hx hb dX2_longs_0 rfl (lv_at hl 0 rfl) ?_
  refine va_get (ci := 2) (C := RX2) (T := TX2) (N := 2) hx hb hts hinX2 hown hK hP 0 rfl rfl 1 (by decide) hfl19 (fun _ h9 => h9) rfl dX2_longs_1 ?_
  refine cl_rd (va_runV (As := []) (rest := []) ⟨hx, hb, hml, hown, hts⟩ (ct_countLong l dC dI cI w n g0 g1 g2 st fm vl K A B z hF hAS hS0) (cwV 0 hts (ub_V tm_168 tm_169 tm_170 tm_3 tm_171) rfl rfl rfl (by decide +kernel) (by rw [hR]; exact ⟨Nat.le_of_ble_eq_true rfl, Nat.le_of_ble_eq_true rfl⟩)) (pv_rd (q0 := 0) (ci := 0) hN (hP.sub [5, 6, 7, 8, 9, 10, 11, 12] rfl) rfl rfl) rfl rfl hl.1 rfl (lv_room (Nat.le_of_ble_eq_true rfl)) dX2_longs_4 ⟨Nat.zero_le _, Nat.zero_le _⟩) ?_
  exact hend _ _ _ dX2_longs_7 rfl

set_option maxHeartbeats 4000000 in
set_option maxRecDepth 100000 in
theorem cd_value (l : Launch) (dC : Nat → ClassId) (dI : Nat → Nat → Nat) (cI : ClassId) (u v w : Nat → Nat) (nP : Nat) (f0 f1 f2 : Nat → Int32) (n : Nat) (g0 g1 g2 st fm vl : Nat → Int32) (K A B z : Nat → Int) (hF : as_F n K A B g0 g1 g2) (hAS : sp_AS n K A B z) (hS : as_S n K A z st fm vl) (x : Int) (r1 : ji_r x) : Met l yX2_value wsX2_value { frames := 2, cells := 0, slots := 0, locals := 42 } (va_Pc [.ref (u 0), .int (ji_n x)] (fun U => va_P (dC, dI) vwCl (wo_D u v w cI nP f0 f1 f2 n g0 g1 g2 st fm vl) U.heap ∧ kn_K dC dI cI U)) (vp_Si (fun r => r = ji_n (sp_la K A z n x))) 0 0 (fun _ => False) := by
  refine st_rd (cc := cX2_value) (maxL := 2) (ret := some .int) (ty := .int) (by decide) rfl rfl (Nat.le_of_ble_eq_true rfl) (lv := [(0, .ref (u 0)), (1, .int (ji_n x))]) rfl (fun v h => rfl) ?_
  intro p e s m args below meth c R Q ls hx hb hts hown hml hR hB hl hend
  obtain ⟨hP, hN⟩ := hB
  have hK := hN.1
  have hinX2 : ∀ w ∈ u_ws RX2 TX2 2, w ∈ wsX2_value := fun w h => List.mem_cons_of_mem _ (inX2 w h)
  have hfl19 := (hts _ (List.mem_cons_of_mem _ tm_75))
  have hinX0 : ∀ w ∈ u_ws RX0 TX0 4, w ∈ wsX2_value := fun w h => List.mem_cons_of_mem _ (inX0 w h)
  have hS0 := hS
  have hn := hAS.1
  have hg := hAS.2.1
  have ho := hAS.2.2.1
  obtain ⟨hst, hfm, hvl⟩ := hS
  refine lv_iload_n hx hb dX2_value_0 rfl (lv_at hl 1 rfl) ?_
  refine cl_rd (va_runS (As := [.int (ji_n x)]) (rest := []) ⟨hx, hb, hml, hown, hts⟩ (ct_isLabel l x r1) (va_cwS 1 hts (ub_S tm_88 tm_89 tm_1 tm_90) rfl rfl rfl (by decide +kernel) (by rw [hR]; exact ⟨Nat.le_of_ble_eq_true rfl, Nat.le_of_ble_eq_true rfl⟩)) ⟨fun _ _ _ _ q => q, fun U _ _ => ⟨rfl, trivial⟩⟩ rfl rfl hl.1 rfl (lv_room (Nat.le_of_ble_eq_true rfl)) dX2_value_1 ⟨Nat.zero_le _, Nat.zero_le _⟩) ?_
  have hw := sp_wi_or x 0 15
  refine jn_if_eq hx hb dX2_value_4 (tgt := 19) rfl (by unfold ji_r; omega) (fun hc1 => ?_) (fun hc1 => ?_)
  · skip
    refine jn_iconst hx hb dX2_value_19 ?_
    exact hend _ _ _ dX2_value_20 (congrArg ji_n (sp_la_out hg (by omega)).symm)
  · skip
    refine lv_aload_n hx hb dX2_value_7 rfl (lv_at hl 0 rfl) ?_
    refine va_get (ci := 2) (C := RX2) (T := TX2) (N := 2) hx hb hts hinX2 hown hK hP 0 rfl rfl 1 (by decide) hfl19 (fun _ h9 => h9) rfl dX2_value_8 ?_
    refine va_getN (ci := 0) (C := RX0) (T := TX0) (N := 4) hx hb hts hinX0 hown hK hP 5 rfl rfl 3 (by decide) (va_Nw.use rfl (nw_4 hN)) (fun _ h9 => h9) rfl dX2_value_11 ?_
    refine lv_iload_n hx hb dX2_value_14 rfl (lv_at hl 1 rfl) ?_
    refine jn_iald hx hb hK hP 8 0 rfl rfl x.toNat (by omega) (by omega) (by decide) (v := sp_la K A z n x) (hvl x (by omega) (by omega)) dX2_value_15 ?_
    refine lv_goto hx hb dX2_value_16 (tgt := 20) rfl ?_
    exact hend _ _ _ dX2_value_20 rfl

set_option maxHeartbeats 4000000 in
set_option maxRecDepth 100000 in
theorem cd_jumps (l : Launch) (dC : Nat → ClassId) (dI : Nat → Nat → Nat) (cI : ClassId) (u v w : Nat → Nat) (nP : Nat) (f0 f1 f2 : Nat → Int32) (n : Nat) (g0 g1 g2 st fm vl : Nat → Int32) (K A B z : Nat → Int) (hF : as_F n K A B g0 g1 g2) (hAS : sp_AS n K A B z) (hS : as_S n K A z st fm vl) (x : Int) (r1 : ji_r x) : Met l yX2_jumps wsX2_jumps { frames := 5, cells := 0, slots := 0, locals := 113 } (va_Pc [.ref (u 0), .int (ji_n x)] (fun U => va_P (dC, dI) vwCl (wo_D u v w cI nP f0 f1 f2 n g0 g1 g2 st fm vl) U.heap ∧ kn_K dC dI cI U)) (vp_Si (fun r => r = ji_n (sp_ju (sp_os n K A B z x)))) 0 0 (fun _ => False) := by
  refine st_rd (cc := cX2_jumps) (maxL := 2) (ret := some .boolean) (ty := .boolean) (by decide) rfl rfl (Nat.le_of_ble_eq_true rfl) (lv := [(0, .ref (u 0)), (1, .int (ji_n x))]) rfl (fun v h => by rw [h]; exact nb_b (by have := sp_ju_or (sp_os n K A B z x); omega)) ?_
  intro p e s m args below meth c R Q ls hx hb hts hown hml hR hB hl hend
  obtain ⟨hP, hN⟩ := hB
  have hK := hN.1
  have hinX2 : ∀ w ∈ u_ws RX2 TX2 2, w ∈ wsX2_jumps := fun w h => List.mem_cons_of_mem _ (inX2 w h)
  have hfl19 := (hts _ (List.mem_cons_of_mem _ tm_75))
  have hS0 := hS
  have hn := hAS.1
  have hg := hAS.2.1
  have ho := hAS.2.2.1
  obtain ⟨hst, hfm, hvl⟩ := hS
  refine lv_aload_n hx hb dX2_jumps_0 rfl (lv_at hl 0 rfl) ?_
  refine va_get (ci := 2) (C := RX2) (T := TX2) (N := 2) hx hb hts hinX2 hown hK hP 0 rfl rfl 1 (by decide) hfl19 (fun _ h9 => h9) rfl dX2_jumps_1 ?_
  refine lv_iload_n hx hb dX2_jumps_4 rfl (lv_at hl 1 rfl) ?_
  refine cl_rd (va_runV (As := [.int (ji_n x)]) (rest := []) ⟨hx, hb, hml, hown, hts⟩ (ct_opSize l dC dI cI w n g0 g1 g2 st fm vl K A B z hF hAS hS0 x r1) (cwV 1 hts (ub_V tm_180 tm_181 tm_182 tm_3 tm_183) rfl rfl rfl (by decide +kernel) (by rw [hR]; exact ⟨Nat.le_of_ble_eq_true rfl, Nat.le_of_ble_eq_true rfl⟩)) (pv_rd (q0 := 0) (ci := 0) hN (hP.sub [5, 6, 7, 8, 9, 10, 11, 12] rfl) rfl rfl) rfl rfl hl.1 rfl (lv_room (Nat.le_of_ble_eq_true rfl)) dX2_jumps_5 ⟨Nat.zero_le _, Nat.zero_le _⟩) ?_
  have hob := sp_os_b hAS x
  have hpn := sp_AS_p hAS (Nat.le_refl n)
  refine jn_iconst hx hb dX2_jumps_8 ?_
  refine jn_icmp_le hx hb dX2_jumps_9 (tgt := 16) rfl (by unfold ji_r; omega) (by unfold ji_r; omega) (fun hc1 => ?_) (fun hc1 => ?_)
  · skip
    refine jn_iconst hx hb dX2_jumps_16 ?_
    exact hend _ _ _ dX2_jumps_17 (congrArg ji_n (by have := sp_ju_or (sp_os n K A B z x); omega))
  · skip
    refine jn_iconst hx hb dX2_jumps_12 ?_
    refine lv_goto hx hb dX2_jumps_13 (tgt := 17) rfl ?_
    exact hend _ _ _ dX2_jumps_17 (congrArg ji_n (by have := sp_ju_or (sp_os n K A B z x); omega))

set_option maxHeartbeats 4000000 in
set_option maxRecDepth 100000 in
theorem cd_trace (l : Launch) (dC : Nat → ClassId) (dI : Nat → Nat → Nat) (cI : ClassId) (u v w : Nat → Nat) (nP : Nat) (f0 f1 f2 : Nat → Int32) (n : Nat) (g0 g1 g2 st fm vl : Nat → Int32) (K A B z : Nat → Int) (hF : as_F n K A B g0 g1 g2) (hAS : sp_AS n K A B z) (hS : as_S n K A z st fm vl) (x y : Int) (bits : Int32) (r1 : ji_r x) (r2 : ji_r y) : Met l yX2_trace wsX2_trace { frames := 5, cells := 0, slots := 0, locals := 113 } (va_Pc [.ref (u 0), .int (ji_n x), .int bits, .int (ji_n y)] (fun U => va_P (dC, dI) vwCl (wo_D u v w cI nP f0 f1 f2 n g0 g1 g2 st fm vl) U.heap ∧ kn_K dC dI cI U)) (vp_Si (fun r => r = ji_n (sp_tc n K A B z x bits y))) 0 0 (fun _ => False) := by
  refine st_rd (cc := cX2_trace) (maxL := 8) (ret := some .int) (ty := .int) (by decide) rfl rfl (Nat.le_of_ble_eq_true rfl) (lv := [(0, .ref (u 0)), (1, .int (ji_n x)), (2, .int bits), (3, .int (ji_n y))]) rfl (fun v h => rfl) ?_
  intro p e s m args below meth c R Q ls hx hb hts hown hml hR hB hl hend
  obtain ⟨hP, hN⟩ := hB
  have hK := hN.1
  have hinX2 : ∀ w ∈ u_ws RX2 TX2 2, w ∈ wsX2_trace := fun w h => List.mem_cons_of_mem _ (inX2 w h)
  have hfl19 := (hts _ (List.mem_cons_of_mem _ tm_75))
  have hS0 := hS
  have hn := hAS.1
  have hg := hAS.2.1
  have ho := hAS.2.2.1
  obtain ⟨hst, hfm, hvl⟩ := hS
  refine lv_iload_n hx hb dX2_trace_0 rfl (lv_at hl 3 rfl) ?_
  refine jn_if_lt hx hb dX2_trace_1 (tgt := 10) rfl r2 (fun hc1 => ?_) (fun hc1 => ?_)
  · skip
    refine jn_iconst hx hb dX2_trace_10 ?_
    exact hend _ _ _ dX2_trace_11 (congrArg ji_n (by unfold sp_tc; rw [if_neg (by omega)]))
  · skip
    refine lv_iload_n hx hb dX2_trace_4 rfl (lv_at hl 3 rfl) ?_
    refine jn_bipush hx hb dX2_trace_5 (by decide) ?_
    refine jn_icmp_le hx hb dX2_trace_7 (tgt := 12) rfl r2 (by unfold ji_r; omega) (fun hc2 => ?_) (fun hc2 => ?_)
    · skip
      obtain ⟨q, rfl⟩ : ∃ q : Nat, y = (q : Int) := ⟨y.toNat, by omega⟩
      refine lv_iload_n hx hb dX2_trace_12 rfl (lv_at hl 1 rfl) ?_
      refine lv_istore (lv' := [(4, .int (ji_n x)), (0, .ref (u 0)), (1, .int (ji_n x)), (2, .int bits), (3, .int (ji_n (q : Int)))]) hx hb dX2_trace_13 hl (by decide) rfl (fun ls hl => ?_)
      refine jn_iconst hx hb dX2_trace_15 ?_
      refine lv_istore (lv' := [(5, .int (ji_n 0)), (4, .int (ji_n x)), (0, .ref (u 0)), (1, .int (ji_n x)), (2, .int bits), (3, .int (ji_n (q : Int)))]) hx hb dX2_trace_16 hl (by decide) rfl (fun ls hl => ?_)
      have loop3 : ∀ i : Nat, i ≤ q → ∀ (h : Int) (ls : Array Slot), lv_has ls 8 [(5, .int (ji_n (i : Int))), (4, .int (ji_n h)), (0, .ref (u 0)), (1, .int (ji_n x)), (2, .int bits), (3, .int (ji_n (q : Int)))] → (ji_r h ∧ sp_tr n K A B z (fun k => sp_bt bits (k % 32)) (q - i) i h = sp_tr n K A B z (fun k => sp_bt bits (k % 32)) q 0 x) → W p l e R s m args below meth c s.heap [] 0 0 Q (F0 m 18 ls []) := by
        refine lp_up q ?_
        intro i hi_i ih4 h ls hl hq
        refine lv_iload hx hb dX2_trace_18 (lv_at hl 0 rfl) ?_
        refine lv_iload_n hx hb dX2_trace_20 rfl (lv_at hl 5 rfl) ?_
        refine jn_icmp_ge hx hb dX2_trace_21 (tgt := 107) rfl (by unfold ji_r; omega) (by unfold ji_r; omega) (fun hc5 => ?_) (fun hc5 => ?_)
        · skip
          refine lv_iload hx hb dX2_trace_107 (lv_at hl 1 rfl) ?_
          exact hend _ _ _ dX2_trace_109 (congrArg ji_n (by unfold sp_tc; rw [if_pos (by omega), show ((q : Int)).toNat = q from rfl, ← hq.2]; rw [show q - i = 0 from by omega]; rfl))
        · skip
          refine lv_aload_n hx hb dX2_trace_24 rfl (lv_at hl 2 rfl) ?_
          refine va_get (ci := 2) (C := RX2) (T := TX2) (N := 2) hx hb hts hinX2 hown hK hP 0 rfl rfl 1 (by decide) hfl19 (fun _ h9 => h9) rfl dX2_trace_25 ?_
          refine lv_iload hx hb dX2_trace_28 (lv_at hl 1 rfl) ?_
          refine cl_rd (va_runV (As := [.int (ji_n h)]) (rest := []) ⟨hx, hb, hml, hown, hts⟩ (ct_opSize l dC dI cI w n g0 g1 g2 st fm vl K A B z hF hAS hS0 h hq.1) (cwV 1 hts (ub_V tm_180 tm_181 tm_182 tm_3 tm_183) rfl rfl rfl (by decide +kernel) (by rw [hR]; exact ⟨Nat.le_of_ble_eq_true rfl, Nat.le_of_ble_eq_true rfl⟩)) (pv_rd (q0 := 0) (ci := 0) hN (hP.sub [5, 6, 7, 8, 9, 10, 11, 12] rfl) rfl rfl) rfl rfl hl.1 rfl (lv_room (Nat.le_of_ble_eq_true rfl)) dX2_trace_30 ⟨Nat.zero_le _, Nat.zero_le _⟩) ?_
          have hob := sp_os_b hAS h
          have hpn := sp_AS_p hAS (Nat.le_refl n)
          refine lv_istore (lv' := [(6, .int (ji_n (sp_os n K A B z h))), (5, .int (ji_n (i : Int))), (4, .int (ji_n h)), (0, .ref (u 0)), (1, .int (ji_n x)), (2, .int bits), (3, .int (ji_n (q : Int)))]) hx hb dX2_trace_33 hl (by decide) rfl (fun ls hl => ?_)
          refine lv_iload hx hb dX2_trace_35 (lv_at hl 0 rfl) ?_
          refine jn_if_ne hx hb dX2_trace_37 (tgt := 43) rfl (by unfold ji_r; omega) (fun hc6 => ?_) (fun hc6 => ?_)
          · skip
            refine lv_iload_n hx hb dX2_trace_43 rfl (lv_at hl 5 rfl) ?_
            refine lv_iload hx hb dX2_trace_44 (lv_at hl 1 rfl) ?_
            refine jn_bipush hx hb dX2_trace_46 (by decide) ?_
            refine jn_rem32 (x := i) hx hb dX2_trace_48 (by omega) ?_
            refine jn_iushr (j := i % 32) hx hb dX2_trace_49 ?_
            refine jn_iconst hx hb dX2_trace_50 ?_
            refine jn_ubit (x := bits) (j := i % 32) hx hb (by omega) dX2_trace_51 ?_
            have hbt := sp_bt_or bits (i % 32)
            refine jn_iconst hx hb dX2_trace_52 ?_
            refine jn_icmp_eq hx hb dX2_trace_53 (tgt := 68) rfl (by unfold ji_r; omega) (by unfold ji_r; omega) (fun hc7 => ?_) (fun hc7 => ?_)
            · skip
              refine jn_iconst hx hb dX2_trace_68 ?_
              refine lv_goto hx hb dX2_trace_69 (tgt := 73) rfl ?_
              have hab := sp_ai_b n K A B z h
              have hfl := sp_fl_or (sp_bt bits (i % 32)) (sp_ai n K A B z h)
              refine jn_top (v := sp_fl (sp_bt bits (i % 32)) (sp_ai n K A B z h)) (congrArg ji_n (by omega)) ?_
              refine lv_istore (lv' := [(7, .int (ji_n (sp_fl (sp_bt bits (i % 32)) (sp_ai n K A B z h)))), (6, .int (ji_n (sp_os n K A B z h))), (5, .int (ji_n (i : Int))), (4, .int (ji_n h)), (0, .ref (u 0)), (1, .int (ji_n x)), (2, .int bits), (3, .int (ji_n (q : Int)))]) hx hb dX2_trace_73 hl (by decide) rfl (fun ls hl => ?_)
              refine lv_iload hx hb dX2_trace_75 (lv_at hl 0 rfl) ?_
              refine jn_if_eq hx hb dX2_trace_77 (tgt := 94) rfl (by unfold ji_r; omega) (fun hc8 => ?_) (fun hc8 => ?_)
              · skip
                refine lv_iload hx hb dX2_trace_94 (lv_at hl 3 rfl) ?_
                refine lv_iload hx hb dX2_trace_96 (lv_at hl 1 rfl) ?_
                refine jn_iadd hx hb dX2_trace_98 (v := h + (sp_os n K A B z h)) rfl ?_
                have hnx := sp_nx_or n K A B z h (sp_fl (sp_bt bits (i % 32)) (sp_ai n K A B z h))
                have hnr := sp_nx_r hAS (k := h) (by omega) (sp_fl (sp_bt bits (i % 32)) (sp_ai n K A B z h))
                refine jn_top (v := sp_nx n K A B z h (sp_fl (sp_bt bits (i % 32)) (sp_ai n K A B z h))) (congrArg ji_n (by omega)) ?_
                refine lv_istore (lv' := [(4, .int (ji_n (sp_nx n K A B z h (sp_fl (sp_bt bits (i % 32)) (sp_ai n K A B z h))))), (7, .int (ji_n (sp_fl (sp_bt bits (i % 32)) (sp_ai n K A B z h)))), (6, .int (ji_n (sp_os n K A B z h))), (5, .int (ji_n (i : Int))), (0, .ref (u 0)), (1, .int (ji_n x)), (2, .int bits), (3, .int (ji_n (q : Int)))]) hx hb dX2_trace_99 hl (by decide) rfl (fun ls hl => ?_)
                refine jn_iinc (lv' := [(5, .int (ji_n ((i : Int) + 1))), (4, .int (ji_n (sp_nx n K A B z h (sp_fl (sp_bt bits (i % 32)) (sp_ai n K A B z h))))), (7, .int (ji_n (sp_fl (sp_bt bits (i % 32)) (sp_ai n K A B z h)))), (6, .int (ji_n (sp_os n K A B z h))), (0, .ref (u 0)), (1, .int (ji_n x)), (2, .int bits), (3, .int (ji_n (q : Int)))]) (k := 3) (v := (i : Int) + 1) hx hb dX2_trace_101 hl rfl rfl (by decide) rfl (fun ls hl => ?_)
                refine lv_goto hx hb dX2_trace_104 (tgt := 18) rfl ?_
                have hl : lv_has ls 8 [(5, .int (ji_n ((i + 1 : Nat) : Int))), (4, .int (ji_n (sp_nx n K A B z h (sp_fl (sp_bt bits (i % 32)) (sp_ai n K A B z h))))), (0, .ref (u 0)), (1, .int (ji_n x)), (2, .int bits), (3, .int (ji_n (q : Int)))] := by
                  have hl2 := lv_sub hl (l' := [(5, .int (ji_n ((i : Int) + 1))), (4, .int (ji_n (sp_nx n K A B z h (sp_fl (sp_bt bits (i % 32)) (sp_ai n K A B z h))))), (0, .ref (u 0)), (1, .int (ji_n x)), (2, .int bits), (3, .int (ji_n (q : Int)))]) [0, 1, 4, 5, 6, 7] rfl
                  rw [show (ji_n ((i : Int) + 1)) = (ji_n ((i + 1 : Nat) : Int)) from (congrArg ji_n (by omega))] at hl2
                  exact hl2
                exact ih4 (by omega) (sp_nx n K A B z h (sp_fl (sp_bt bits (i % 32)) (sp_ai n K A B z h))) ls hl ⟨by unfold ji_r; omega, by rw [← hq.2, show q - i = (q - (i + 1)) + 1 from by omega, sp_tr_n (by omega)]⟩
              · skip
                refine lv_aload_n hx hb dX2_trace_80 rfl (lv_at hl 4 rfl) ?_
                refine va_get (ci := 2) (C := RX2) (T := TX2) (N := 2) hx hb hts hinX2 hown hK hP 0 rfl rfl 1 (by decide) hfl19 (fun _ h9 => h9) rfl dX2_trace_81 ?_
                refine lv_iload hx hb dX2_trace_84 (lv_at hl 3 rfl) ?_
                refine lv_iload hx hb dX2_trace_86 (lv_at hl 1 rfl) ?_
                refine cl_rd (va_runV (As := [.int (ji_n h), .int (ji_n (sp_os n K A B z h))]) (rest := []) ⟨hx, hb, hml, hown, hts⟩ (ct_target l dC dI cI w n g0 g1 g2 st fm vl K A B z hF hAS hS0 h (sp_os n K A B z h) rfl (by omega)) (cwV 2 hts (ub_V tm_198 tm_199 tm_200 tm_3 tm_201) rfl rfl rfl (by decide +kernel) (by rw [hR]; exact ⟨Nat.le_of_ble_eq_true rfl, Nat.le_of_ble_eq_true rfl⟩)) (pv_rd (q0 := 0) (ci := 0) hN (hP.sub [5, 6, 7, 8, 9, 10, 11, 12] rfl) rfl rfl) rfl rfl hl.1 rfl (lv_room (Nat.le_of_ble_eq_true rfl)) dX2_trace_88 ⟨Nat.zero_le _, Nat.zero_le _⟩) ?_
                refine lv_goto hx hb dX2_trace_91 (tgt := 99) rfl ?_
                have hnx := sp_nx_or n K A B z h (sp_fl (sp_bt bits (i % 32)) (sp_ai n K A B z h))
                have hnr := sp_nx_r hAS (k := h) (by omega) (sp_fl (sp_bt bits (i % 32)) (sp_ai n K A B z h))
                refine jn_top (v := sp_nx n K A B z h (sp_fl (sp_bt bits (i % 32)) (sp_ai n K A B z h))) (congrArg ji_n (by omega)) ?_
                refine lv_istore (lv' := [(4, .int (ji_n (sp_nx n K A B z h (sp_fl (sp_bt bits (i % 32)) (sp_ai n K A B z h))))), (7, .int (ji_n (sp_fl (sp_bt bits (i % 32)) (sp_ai n K A B z h)))), (6, .int (ji_n (sp_os n K A B z h))), (5, .int (ji_n (i : Int))), (0, .ref (u 0)), (1, .int (ji_n x)), (2, .int bits), (3, .int (ji_n (q : Int)))]) hx hb dX2_trace_99 hl (by decide) rfl (fun ls hl => ?_)
                refine jn_iinc (lv' := [(5, .int (ji_n ((i : Int) + 1))), (4, .int (ji_n (sp_nx n K A B z h (sp_fl (sp_bt bits (i % 32)) (sp_ai n K A B z h))))), (7, .int (ji_n (sp_fl (sp_bt bits (i % 32)) (sp_ai n K A B z h)))), (6, .int (ji_n (sp_os n K A B z h))), (0, .ref (u 0)), (1, .int (ji_n x)), (2, .int bits), (3, .int (ji_n (q : Int)))]) (k := 3) (v := (i : Int) + 1) hx hb dX2_trace_101 hl rfl rfl (by decide) rfl (fun ls hl => ?_)
                refine lv_goto hx hb dX2_trace_104 (tgt := 18) rfl ?_
                have hl : lv_has ls 8 [(5, .int (ji_n ((i + 1 : Nat) : Int))), (4, .int (ji_n (sp_nx n K A B z h (sp_fl (sp_bt bits (i % 32)) (sp_ai n K A B z h))))), (0, .ref (u 0)), (1, .int (ji_n x)), (2, .int bits), (3, .int (ji_n (q : Int)))] := by
                  have hl2 := lv_sub hl (l' := [(5, .int (ji_n ((i : Int) + 1))), (4, .int (ji_n (sp_nx n K A B z h (sp_fl (sp_bt bits (i % 32)) (sp_ai n K A B z h))))), (0, .ref (u 0)), (1, .int (ji_n x)), (2, .int bits), (3, .int (ji_n (q : Int)))]) [0, 1, 4, 5, 6, 7] rfl
                  rw [show (ji_n ((i : Int) + 1)) = (ji_n ((i + 1 : Nat) : Int)) from (congrArg ji_n (by omega))] at hl2
                  exact hl2
                exact ih4 (by omega) (sp_nx n K A B z h (sp_fl (sp_bt bits (i % 32)) (sp_ai n K A B z h))) ls hl ⟨by unfold ji_r; omega, by rw [← hq.2, show q - i = (q - (i + 1)) + 1 from by omega, sp_tr_n (by omega)]⟩
            · skip
              refine lv_aload_n hx hb dX2_trace_56 rfl (lv_at hl 3 rfl) ?_
              refine va_get (ci := 2) (C := RX2) (T := TX2) (N := 2) hx hb hts hinX2 hown hK hP 0 rfl rfl 1 (by decide) hfl19 (fun _ h9 => h9) rfl dX2_trace_57 ?_
              refine lv_iload hx hb dX2_trace_60 (lv_at hl 2 rfl) ?_
              refine cl_rd (va_runV (As := [.int (ji_n h)]) (rest := []) ⟨hx, hb, hml, hown, hts⟩ (ct_always l dC dI cI w n g0 g1 g2 st fm vl K A B z hF hAS hS0 h hq.1) (cwV 1 hts (ub_V tm_194 tm_195 tm_196 tm_3 tm_197) rfl rfl rfl (by decide +kernel) (by rw [hR]; exact ⟨Nat.le_of_ble_eq_true rfl, Nat.le_of_ble_eq_true rfl⟩)) (pv_rd (q0 := 0) (ci := 0) hN (hP.sub [5, 6, 7, 8, 9, 10, 11, 12] rfl) rfl rfl) rfl rfl hl.1 rfl (lv_room (Nat.le_of_ble_eq_true rfl)) dX2_trace_62 ⟨Nat.zero_le _, Nat.zero_le _⟩) ?_
              have hab := sp_ai_b n K A B z h
              refine jn_if_eq hx hb dX2_trace_65 (tgt := 72) rfl (by unfold ji_r; omega) (fun hc9 => ?_) (fun hc9 => ?_)
              · skip
                refine jn_iconst hx hb dX2_trace_72 ?_
                have hab := sp_ai_b n K A B z h
                have hfl := sp_fl_or (sp_bt bits (i % 32)) (sp_ai n K A B z h)
                refine jn_top (v := sp_fl (sp_bt bits (i % 32)) (sp_ai n K A B z h)) (congrArg ji_n (by omega)) ?_
                refine lv_istore (lv' := [(7, .int (ji_n (sp_fl (sp_bt bits (i % 32)) (sp_ai n K A B z h)))), (6, .int (ji_n (sp_os n K A B z h))), (5, .int (ji_n (i : Int))), (4, .int (ji_n h)), (0, .ref (u 0)), (1, .int (ji_n x)), (2, .int bits), (3, .int (ji_n (q : Int)))]) hx hb dX2_trace_73 hl (by decide) rfl (fun ls hl => ?_)
                refine lv_iload hx hb dX2_trace_75 (lv_at hl 0 rfl) ?_
                refine jn_if_eq hx hb dX2_trace_77 (tgt := 94) rfl (by unfold ji_r; omega) (fun hc10 => ?_) (fun hc10 => ?_)
                · skip
                  refine lv_iload hx hb dX2_trace_94 (lv_at hl 3 rfl) ?_
                  refine lv_iload hx hb dX2_trace_96 (lv_at hl 1 rfl) ?_
                  refine jn_iadd hx hb dX2_trace_98 (v := h + (sp_os n K A B z h)) rfl ?_
                  have hnx := sp_nx_or n K A B z h (sp_fl (sp_bt bits (i % 32)) (sp_ai n K A B z h))
                  have hnr := sp_nx_r hAS (k := h) (by omega) (sp_fl (sp_bt bits (i % 32)) (sp_ai n K A B z h))
                  refine jn_top (v := sp_nx n K A B z h (sp_fl (sp_bt bits (i % 32)) (sp_ai n K A B z h))) (congrArg ji_n (by omega)) ?_
                  refine lv_istore (lv' := [(4, .int (ji_n (sp_nx n K A B z h (sp_fl (sp_bt bits (i % 32)) (sp_ai n K A B z h))))), (7, .int (ji_n (sp_fl (sp_bt bits (i % 32)) (sp_ai n K A B z h)))), (6, .int (ji_n (sp_os n K A B z h))), (5, .int (ji_n (i : Int))), (0, .ref (u 0)), (1, .int (ji_n x)), (2, .int bits), (3, .int (ji_n (q : Int)))]) hx hb dX2_trace_99 hl (by decide) rfl (fun ls hl => ?_)
                  refine jn_iinc (lv' := [(5, .int (ji_n ((i : Int) + 1))), (4, .int (ji_n (sp_nx n K A B z h (sp_fl (sp_bt bits (i % 32)) (sp_ai n K A B z h))))), (7, .int (ji_n (sp_fl (sp_bt bits (i % 32)) (sp_ai n K A B z h)))), (6, .int (ji_n (sp_os n K A B z h))), (0, .ref (u 0)), (1, .int (ji_n x)), (2, .int bits), (3, .int (ji_n (q : Int)))]) (k := 3) (v := (i : Int) + 1) hx hb dX2_trace_101 hl rfl rfl (by decide) rfl (fun ls hl => ?_)
                  refine lv_goto hx hb dX2_trace_104 (tgt := 18) rfl ?_
                  have hl : lv_has ls 8 [(5, .int (ji_n ((i + 1 : Nat) : Int))), (4, .int (ji_n (sp_nx n K A B z h (sp_fl (sp_bt bits (i % 32)) (sp_ai n K A B z h))))), (0, .ref (u 0)), (1, .int (ji_n x)), (2, .int bits), (3, .int (ji_n (q : Int)))] := by
                    have hl2 := lv_sub hl (l' := [(5, .int (ji_n ((i : Int) + 1))), (4, .int (ji_n (sp_nx n K A B z h (sp_fl (sp_bt bits (i % 32)) (sp_ai n K A B z h))))), (0, .ref (u 0)), (1, .int (ji_n x)), (2, .int bits), (3, .int (ji_n (q : Int)))]) [0, 1, 4, 5, 6, 7] rfl
                    rw [show (ji_n ((i : Int) + 1)) = (ji_n ((i + 1 : Nat) : Int)) from (congrArg ji_n (by omega))] at hl2
                    exact hl2
                  exact ih4 (by omega) (sp_nx n K A B z h (sp_fl (sp_bt bits (i % 32)) (sp_ai n K A B z h))) ls hl ⟨by unfold ji_r; omega, by rw [← hq.2, show q - i = (q - (i + 1)) + 1 from by omega, sp_tr_n (by omega)]⟩
                · skip
                  refine lv_aload_n hx hb dX2_trace_80 rfl (lv_at hl 4 rfl) ?_
                  refine va_get (ci := 2) (C := RX2) (T := TX2) (N := 2) hx hb hts hinX2 hown hK hP 0 rfl rfl 1 (by decide) hfl19 (fun _ h9 => h9) rfl dX2_trace_81 ?_
                  refine lv_iload hx hb dX2_trace_84 (lv_at hl 3 rfl) ?_
                  refine lv_iload hx hb dX2_trace_86 (lv_at hl 1 rfl) ?_
                  refine cl_rd (va_runV (As := [.int (ji_n h), .int (ji_n (sp_os n K A B z h))]) (rest := []) ⟨hx, hb, hml, hown, hts⟩ (ct_target l dC dI cI w n g0 g1 g2 st fm vl K A B z hF hAS hS0 h (sp_os n K A B z h) rfl (by omega)) (cwV 2 hts (ub_V tm_198 tm_199 tm_200 tm_3 tm_201) rfl rfl rfl (by decide +kernel) (by rw [hR]; exact ⟨Nat.le_of_ble_eq_true rfl, Nat.le_of_ble_eq_true rfl⟩)) (pv_rd (q0 := 0) (ci := 0) hN (hP.sub [5, 6, 7, 8, 9, 10, 11, 12] rfl) rfl rfl) rfl rfl hl.1 rfl (lv_room (Nat.le_of_ble_eq_true rfl)) dX2_trace_88 ⟨Nat.zero_le _, Nat.zero_le _⟩) ?_
                  refine lv_goto hx hb dX2_trace_91 (tgt := 99) rfl ?_
                  have hnx := sp_nx_or n K A B z h (sp_fl (sp_bt bits (i % 32)) (sp_ai n K A B z h))
                  have hnr := sp_nx_r hAS (k := h) (by omega) (sp_fl (sp_bt bits (i % 32)) (sp_ai n K A B z h))
                  refine jn_top (v := sp_nx n K A B z h (sp_fl (sp_bt bits (i % 32)) (sp_ai n K A B z h))) (congrArg ji_n (by omega)) ?_
                  refine lv_istore (lv' := [(4, .int (ji_n (sp_nx n K A B z h (sp_fl (sp_bt bits (i % 32)) (sp_ai n K A B z h))))), (7, .int (ji_n (sp_fl (sp_bt bits (i % 32)) (sp_ai n K A B z h)))), (6, .int (ji_n (sp_os n K A B z h))), (5, .int (ji_n (i : Int))), (0, .ref (u 0)), (1, .int (ji_n x)), (2, .int bits), (3, .int (ji_n (q : Int)))]) hx hb dX2_trace_99 hl (by decide) rfl (fun ls hl => ?_)
                  refine jn_iinc (lv' := [(5, .int (ji_n ((i : Int) + 1))), (4, .int (ji_n (sp_nx n K A B z h (sp_fl (sp_bt bits (i % 32)) (sp_ai n K A B z h))))), (7, .int (ji_n (sp_fl (sp_bt bits (i % 32)) (sp_ai n K A B z h)))), (6, .int (ji_n (sp_os n K A B z h))), (0, .ref (u 0)), (1, .int (ji_n x)), (2, .int bits), (3, .int (ji_n (q : Int)))]) (k := 3) (v := (i : Int) + 1) hx hb dX2_trace_101 hl rfl rfl (by decide) rfl (fun ls hl => ?_)
                  refine lv_goto hx hb dX2_trace_104 (tgt := 18) rfl ?_
                  have hl : lv_has ls 8 [(5, .int (ji_n ((i + 1 : Nat) : Int))), (4, .int (ji_n (sp_nx n K A B z h (sp_fl (sp_bt bits (i % 32)) (sp_ai n K A B z h))))), (0, .ref (u 0)), (1, .int (ji_n x)), (2, .int bits), (3, .int (ji_n (q : Int)))] := by
                    have hl2 := lv_sub hl (l' := [(5, .int (ji_n ((i : Int) + 1))), (4, .int (ji_n (sp_nx n K A B z h (sp_fl (sp_bt bits (i % 32)) (sp_ai n K A B z h))))), (0, .ref (u 0)), (1, .int (ji_n x)), (2, .int bits), (3, .int (ji_n (q : Int)))]) [0, 1, 4, 5, 6, 7] rfl
                    rw [show (ji_n ((i : Int) + 1)) = (ji_n ((i + 1 : Nat) : Int)) from (congrArg ji_n (by omega))] at hl2
                    exact hl2
                  exact ih4 (by omega) (sp_nx n K A B z h (sp_fl (sp_bt bits (i % 32)) (sp_ai n K A B z h))) ls hl ⟨by unfold ji_r; omega, by rw [← hq.2, show q - i = (q - (i + 1)) + 1 from by omega, sp_tr_n (by omega)]⟩
              · skip
                refine jn_iconst hx hb dX2_trace_68 ?_
                refine lv_goto hx hb dX2_trace_69 (tgt := 73) rfl ?_
                have hab := sp_ai_b n K A B z h
                have hfl := sp_fl_or (sp_bt bits (i % 32)) (sp_ai n K A B z h)
                refine jn_top (v := sp_fl (sp_bt bits (i % 32)) (sp_ai n K A B z h)) (congrArg ji_n (by omega)) ?_
                refine lv_istore (lv' := [(7, .int (ji_n (sp_fl (sp_bt bits (i % 32)) (sp_ai n K A B z h)))), (6, .int (ji_n (sp_os n K A B z h))), (5, .int (ji_n (i : Int))), (4, .int (ji_n h)), (0, .ref (u 0)), (1, .int (ji_n x)), (2, .int bits), (3, .int (ji_n (q : Int)))]) hx hb dX2_trace_73 hl (by decide) rfl (fun ls hl => ?_)
                refine lv_iload hx hb dX2_trace_75 (lv_at hl 0 rfl) ?_
                refine jn_if_eq hx hb dX2_trace_77 (tgt := 94) rfl (by unfold ji_r; omega) (fun hc11 => ?_) (fun hc11 => ?_)
                · skip
                  refine lv_iload hx hb dX2_trace_94 (lv_at hl 3 rfl) ?_
                  refine lv_iload hx hb dX2_trace_96 (lv_at hl 1 rfl) ?_
                  refine jn_iadd hx hb dX2_trace_98 (v := h + (sp_os n K A B z h)) rfl ?_
                  have hnx := sp_nx_or n K A B z h (sp_fl (sp_bt bits (i % 32)) (sp_ai n K A B z h))
                  have hnr := sp_nx_r hAS (k := h) (by omega) (sp_fl (sp_bt bits (i % 32)) (sp_ai n K A B z h))
                  refine jn_top (v := sp_nx n K A B z h (sp_fl (sp_bt bits (i % 32)) (sp_ai n K A B z h))) (congrArg ji_n (by omega)) ?_
                  refine lv_istore (lv' := [(4, .int (ji_n (sp_nx n K A B z h (sp_fl (sp_bt bits (i % 32)) (sp_ai n K A B z h))))), (7, .int (ji_n (sp_fl (sp_bt bits (i % 32)) (sp_ai n K A B z h)))), (6, .int (ji_n (sp_os n K A B z h))), (5, .int (ji_n (i : Int))), (0, .ref (u 0)), (1, .int (ji_n x)), (2, .int bits), (3, .int (ji_n (q : Int)))]) hx hb dX2_trace_99 hl (by decide) rfl (fun ls hl => ?_)
                  refine jn_iinc (lv' := [(5, .int (ji_n ((i : Int) + 1))), (4, .int (ji_n (sp_nx n K A B z h (sp_fl (sp_bt bits (i % 32)) (sp_ai n K A B z h))))), (7, .int (ji_n (sp_fl (sp_bt bits (i % 32)) (sp_ai n K A B z h)))), (6, .int (ji_n (sp_os n K A B z h))), (0, .ref (u 0)), (1, .int (ji_n x)), (2, .int bits), (3, .int (ji_n (q : Int)))]) (k := 3) (v := (i : Int) + 1) hx hb dX2_trace_101 hl rfl rfl (by decide) rfl (fun ls hl => ?_)
                  refine lv_goto hx hb dX2_trace_104 (tgt := 18) rfl ?_
                  have hl : lv_has ls 8 [(5, .int (ji_n ((i + 1 : Nat) : Int))), (4, .int (ji_n (sp_nx n K A B z h (sp_fl (sp_bt bits (i % 32)) (sp_ai n K A B z h))))), (0, .ref (u 0)), (1, .int (ji_n x)), (2, .int bits), (3, .int (ji_n (q : Int)))] := by
                    have hl2 := lv_sub hl (l' := [(5, .int (ji_n ((i : Int) + 1))), (4, .int (ji_n (sp_nx n K A B z h (sp_fl (sp_bt bits (i % 32)) (sp_ai n K A B z h))))), (0, .ref (u 0)), (1, .int (ji_n x)), (2, .int bits), (3, .int (ji_n (q : Int)))]) [0, 1, 4, 5, 6, 7] rfl
                    rw [show (ji_n ((i : Int) + 1)) = (ji_n ((i + 1 : Nat) : Int)) from (congrArg ji_n (by omega))] at hl2
                    exact hl2
                  exact ih4 (by omega) (sp_nx n K A B z h (sp_fl (sp_bt bits (i % 32)) (sp_ai n K A B z h))) ls hl ⟨by unfold ji_r; omega, by rw [← hq.2, show q - i = (q - (i + 1)) + 1 from by omega, sp_tr_n (by omega)]⟩
                · skip
                  refine lv_aload_n hx hb dX2_trace_80 rfl (lv_at hl 4 rfl) ?_
                  refine va_get (ci := 2) (C := RX2) (T := TX2) (N := 2) hx hb hts hinX2 hown hK hP 0 rfl rfl 1 (by decide) hfl19 (fun _ h9 => h9) rfl dX2_trace_81 ?_
                  refine lv_iload hx hb dX2_trace_84 (lv_at hl 3 rfl) ?_
                  refine lv_iload hx hb dX2_trace_86 (lv_at hl 1 rfl) ?_
                  refine cl_rd (va_runV (As := [.int (ji_n h), .int (ji_n (sp_os n K A B z h))]) (rest := []) ⟨hx, hb, hml, hown, hts⟩ (ct_target l dC dI cI w n g0 g1 g2 st fm vl K A B z hF hAS hS0 h (sp_os n K A B z h) rfl (by omega)) (cwV 2 hts (ub_V tm_198 tm_199 tm_200 tm_3 tm_201) rfl rfl rfl (by decide +kernel) (by rw [hR]; exact ⟨Nat.le_of_ble_eq_true rfl, Nat.le_of_ble_eq_true rfl⟩)) (pv_rd (q0 := 0) (ci := 0) hN (hP.sub [5, 6, 7, 8, 9, 10, 11, 12] rfl) rfl rfl) rfl rfl hl.1 rfl (lv_room (Nat.le_of_ble_eq_true rfl)) dX2_trace_88 ⟨Nat.zero_le _, Nat.zero_le _⟩) ?_
                  refine lv_goto hx hb dX2_trace_91 (tgt := 99) rfl ?_
                  have hnx := sp_nx_or n K A B z h (sp_fl (sp_bt bits (i % 32)) (sp_ai n K A B z h))
                  have hnr := sp_nx_r hAS (k := h) (by omega) (sp_fl (sp_bt bits (i % 32)) (sp_ai n K A B z h))
                  refine jn_top (v := sp_nx n K A B z h (sp_fl (sp_bt bits (i % 32)) (sp_ai n K A B z h))) (congrArg ji_n (by omega)) ?_
                  refine lv_istore (lv' := [(4, .int (ji_n (sp_nx n K A B z h (sp_fl (sp_bt bits (i % 32)) (sp_ai n K A B z h))))), (7, .int (ji_n (sp_fl (sp_bt bits (i % 32)) (sp_ai n K A B z h)))), (6, .int (ji_n (sp_os n K A B z h))), (5, .int (ji_n (i : Int))), (0, .ref (u 0)), (1, .int (ji_n x)), (2, .int bits), (3, .int (ji_n (q : Int)))]) hx hb dX2_trace_99 hl (by decide) rfl (fun ls hl => ?_)
                  refine jn_iinc (lv' := [(5, .int (ji_n ((i : Int) + 1))), (4, .int (ji_n (sp_nx n K A B z h (sp_fl (sp_bt bits (i % 32)) (sp_ai n K A B z h))))), (7, .int (ji_n (sp_fl (sp_bt bits (i % 32)) (sp_ai n K A B z h)))), (6, .int (ji_n (sp_os n K A B z h))), (0, .ref (u 0)), (1, .int (ji_n x)), (2, .int bits), (3, .int (ji_n (q : Int)))]) (k := 3) (v := (i : Int) + 1) hx hb dX2_trace_101 hl rfl rfl (by decide) rfl (fun ls hl => ?_)
                  refine lv_goto hx hb dX2_trace_104 (tgt := 18) rfl ?_
                  have hl : lv_has ls 8 [(5, .int (ji_n ((i + 1 : Nat) : Int))), (4, .int (ji_n (sp_nx n K A B z h (sp_fl (sp_bt bits (i % 32)) (sp_ai n K A B z h))))), (0, .ref (u 0)), (1, .int (ji_n x)), (2, .int bits), (3, .int (ji_n (q : Int)))] := by
                    have hl2 := lv_sub hl (l' := [(5, .int (ji_n ((i : Int) + 1))), (4, .int (ji_n (sp_nx n K A B z h (sp_fl (sp_bt bits (i % 32)) (sp_ai n K A B z h))))), (0, .ref (u 0)), (1, .int (ji_n x)), (2, .int bits), (3, .int (ji_n (q : Int)))]) [0, 1, 4, 5, 6, 7] rfl
                    rw [show (ji_n ((i : Int) + 1)) = (ji_n ((i + 1 : Nat) : Int)) from (congrArg ji_n (by omega))] at hl2
                    exact hl2
                  exact ih4 (by omega) (sp_nx n K A B z h (sp_fl (sp_bt bits (i % 32)) (sp_ai n K A B z h))) ls hl ⟨by unfold ji_r; omega, by rw [← hq.2, show q - i = (q - (i + 1)) + 1 from by omega, sp_tr_n (by omega)]⟩
          · skip
            refine lv_iload hx hb dX2_trace_40 (lv_at hl 2 rfl) ?_
            exact hend _ _ _ dX2_trace_42 (congrArg ji_n (by unfold sp_tc; rw [if_pos (by omega), show ((q : Int)).toNat = q from rfl, ← hq.2]; rw [sp_tr_e _ _ _ _ _ _ _ _ _ (by omega)]))
      have hl : lv_has ls 8 [(5, .int (ji_n ((0 : Nat) : Int))), (4, .int (ji_n x)), (0, .ref (u 0)), (1, .int (ji_n x)), (2, .int bits), (3, .int (ji_n (q : Int)))] := lv_sub hl [0, 1, 2, 3, 4, 5] rfl
      exact loop3 0 (by omega) x ls hl ⟨r1, rfl⟩
    · skip
      refine jn_iconst hx hb dX2_trace_10 ?_
      exact hend _ _ _ dX2_trace_11 (congrArg ji_n (by unfold sp_tc; rw [if_neg (by omega)]))
