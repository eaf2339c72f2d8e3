set_option maxHeartbeats 4000000 in
set_option maxRecDepth 100000 in
theorem cm_thrown (l : Launch) (dC : Nat → ClassId) (dI : Nat → Nat → Nat) (cI : ClassId) (v : Nat → Nat) (th by_ : Int) (nP n : Nat) (f0 f1 f2 g0 g1 g2 sz : Nat → Int32) : Met l yX3_thrown wsX3_thrown { frames := 0, cells := 0, slots := 0, locals := 0 } (va_Pc [.ref (v 0)] (fun U => va_P (dC, dI) vwCl (wo_M v cI th (nP : Int) (n : Int) by_ f0 f1 f2 g0 g1 g2 sz) U.heap ∧ kn_K dC dI cI U)) (vp_Si (fun r => r = ji_n th)) 0 0 (fun _ => False) := by
  refine st_rd (cc := cX3_thrown) (maxL := 1) (ret := some .int) (ty := .int) (by decide) rfl rfl (Nat.le_of_ble_eq_true rfl) (lv := [(0, .ref (v 0))]) rfl (fun v h => rfl) ?_
  intro p e s m args below meth c R Q ls hx hb hts hown hml hR hB hl hend
  obtain ⟨hP, hN⟩ := hB
  have hK := hN.1
  have hinX3 : ∀ w ∈ u_ws RX3 TX3 11, w ∈ wsX3_thrown := fun w h => List.mem_cons_of_mem _ (inX3 w h)
  have hfl31 := (hts _ (List.mem_cons_of_mem _ tm_358))
  refine lv_aload_n hx hb dX3_thrown_0 rfl (lv_at hl 0 rfl) ?_
  refine va_get (ci := 3) (C := RX3) (T := TX3) (N := 11) hx hb hts hinX3 hown hK hP 0 rfl rfl 0 (by decide) hfl31 (fun _ h9 => h9) rfl dX3_thrown_1 ?_
  exact hend _ _ _ dX3_thrown_4 rfl

set_option maxHeartbeats 4000000 in
set_option maxRecDepth 100000 in
theorem cm_lines (l : Launch) (size_ : Nat) (dC : Nat → ClassId) (dI : Nat → Nat → Nat) (cI : ClassId) (v : Nat → Nat) (th by_ : Int) (nP n : Nat) (f0 f1 f2 g0 g1 g2 sz : Nat → Int32)  : Met l yX3_lines wsX3_lines { frames := 0, cells := 0, slots := 0, locals := 0 } (va_Pc [.ref (v 0)] (wr_B (dC, dI) vwCl (wo_M v cI th (nP : Int) (n : Int) by_ f0 f1 f2 g0 g1 g2 sz) size_ (kn_K dC dI cI))) (wr_Qi (fun r H => r = ji_n (nP : Int) ∧ va_P (dC, dI) vwCl (wo_M v cI 0 (nP : Int) (n : Int) by_ f0 f1 f2 g0 g1 g2 sz) H) (va_A (wo_M v cI th (nP : Int) (n : Int) by_ f0 f1 f2 g0 g1 g2 sz) size_)) 0 0 (va_A (wo_M v cI th (nP : Int) (n : Int) by_ f0 f1 f2 g0 g1 g2 sz) size_) := by
  refine st_wi (cc := cX3_lines) (maxL := 1) (ret := some .int) (ty := .int) (by decide) rfl rfl (Nat.le_of_ble_eq_true rfl) (lv := [(0, .ref (v 0))]) rfl (fun v H h => rfl) ?_
  intro p e s m args below meth c R Q ls A9 hx hb hts hown hml hR hP hD hA hS hN hl hend
  have hK := hN.1
  have hinX3 : ∀ w ∈ u_ws RX3 TX3 11, w ∈ wsX3_lines := fun w h => List.mem_cons_of_mem _ (inX3 w h)
  have hfl39 := (hts _ (List.mem_cons_of_mem _ tm_359))
  have hfl31 := (hts _ (List.mem_cons_of_mem _ tm_358))
  refine lv_aload_n hx hb dX3_lines_0 rfl (lv_at hl 0 rfl) ?_
  refine jn_iconst hx hb dX3_lines_1 ?_
  refine va_put (ci := 3) (C := RX3) (T := TX3) (N := 11) (ty := .int) hx hb hts hinX3 tyX3 tyX3_ok nmX3 hown hK hP hD hS 0 rfl rfl 0 (by decide) hfl31 (fun _ h9 => h9) rfl (by decide +kernel) rfl rfl (Nat.le_of_ble_eq_true rfl) dX3_lines_2 (fun H locs hP hD hS => ?_)
  have hP : va_P (dC, dI) vwCl (wo_M v cI 0 (nP : Int) (n : Int) by_ f0 f1 f2 g0 g1 g2 sz) H := hP
  have hD : va_D A9 (wo_M v cI 0 (nP : Int) (n : Int) by_ f0 f1 f2 g0 g1 g2 sz) := hD
  refine lv_aload_n hx hb dX3_lines_5 rfl (lv_at hl 0 rfl) ?_
  refine va_get (ci := 3) (C := RX3) (T := TX3) (N := 11) hx hb hts hinX3 hown hK hP 0 rfl rfl 1 (by decide) hfl39 (fun _ h9 => h9) rfl dX3_lines_6 ?_
  exact hend _ _ _ _ _ dX3_lines_9 ⟨rfl, hP⟩ hS

set_option maxHeartbeats 4000000 in
set_option maxRecDepth 100000 in
theorem cm_at (l : Launch) (size_ : Nat) (dC : Nat → ClassId) (dI : Nat → Nat → Nat) (cI : ClassId) (v : Nat → Nat) (th by_ : Int) (nP n : Nat) (f0 f1 f2 g0 g1 g2 sz : Nat → Int32) (K A B z : Nat → Int) (hF : as_F n K A B g0 g1 g2) (hAS : sp_AS n K A B z) (hsz : ∀ j, j < n → sz j = ji_n (z j)) (hby : by_ = sp_pz z n) (x : Int) (r1 : ji_r x) : Met l yX3_at wsX3_at { frames := 5, cells := 0, slots := 0, locals := 116 } (va_Pc [.ref (v 0), .int (ji_n x)] (wr_B (dC, dI) vwCl (wo_M v cI th (nP : Int) (n : Int) by_ f0 f1 f2 g0 g1 g2 sz) size_ (kn_K dC dI cI))) (wr_Qi (fun r H => r = ji_n (sp_ba n K A B z x) ∧ va_P (dC, dI) vwCl (wo_M v cI 0 (nP : Int) (n : Int) by_ f0 f1 f2 g0 g1 g2 sz) H) (va_A (wo_M v cI th (nP : Int) (n : Int) by_ f0 f1 f2 g0 g1 g2 sz) size_)) 0 0 (va_A (wo_M v cI th (nP : Int) (n : Int) by_ f0 f1 f2 g0 g1 g2 sz) size_) := by
  refine st_wi (cc := cX3_at) (maxL := 2) (ret := some .int) (ty := .int) (by decide) rfl rfl (Nat.le_of_ble_eq_true rfl) (lv := [(0, .ref (v 0)), (1, .int (ji_n x))]) rfl (fun v H h => rfl) ?_
  intro p e s m args below meth c R Q ls A9 hx hb hts hown hml hR hP hD hA hS hN hl hend
  have hK := hN.1
  have hinX3 : ∀ w ∈ u_ws RX3 TX3 11, w ∈ wsX3_at := fun w h => List.mem_cons_of_mem _ (inX3 w h)
  have hfl65 := (hts _ (List.mem_cons_of_mem _ tm_368))
  have hfl31 := (hts _ (List.mem_cons_of_mem _ tm_358))
  have hn := hAS.1
  have hg := hAS.2.1
  have ho := hAS.2.2.1
  have hu := hAS.2.2.2
  have hpn := sp_AS_p hAS (Nat.le_refl n)
  refine lv_aload_n hx hb dX3_at_0 rfl (lv_at hl 0 rfl) ?_
  refine jn_iconst hx hb dX3_at_1 ?_
  refine va_put (ci := 3) (C := RX3) (T := TX3) (N := 11) (ty := .int) hx hb hts hinX3 tyX3 tyX3_ok nmX3 hown hK hP hD hS 0 rfl rfl 0 (by decide) hfl31 (fun _ h9 => h9) rfl (by decide +kernel) rfl rfl (Nat.le_of_ble_eq_true rfl) dX3_at_2 (fun H locs hP hD hS => ?_)
  have hP : va_P (dC, dI) vwCl (wo_M v cI 0 (nP : Int) (n : Int) by_ f0 f1 f2 g0 g1 g2 sz) H := hP
  have hD : va_D A9 (wo_M v cI 0 (nP : Int) (n : Int) by_ f0 f1 f2 g0 g1 g2 sz) := hD
  refine lv_iload_n hx hb dX3_at_5 rfl (lv_at hl 1 rfl) ?_
  refine jn_if_lt hx hb dX3_at_6 (tgt := 25) rfl r1 (fun hc1 => ?_) (fun hc1 => ?_)
  · skip
    refine jn_iconst hx hb dX3_at_25 ?_
    exact hend _ _ _ _ _ dX3_at_26 ⟨congrArg ji_n (sp_ba_no hAS (by omega)).symm, hP⟩ hS
  · skip
    refine lv_iload_n hx hb dX3_at_9 rfl (lv_at hl 1 rfl) ?_
    refine lv_aload_n hx hb dX3_at_10 rfl (lv_at hl 0 rfl) ?_
    refine va_get (ci := 3) (C := RX3) (T := TX3) (N := 11) hx hb hts hinX3 hown hK hP 0 rfl rfl 10 (by decide) hfl65 (fun _ h9 => h9) rfl dX3_at_11 ?_
    refine jn_icmp_ge hx hb dX3_at_14 (tgt := 25) rfl r1 (by unfold ji_r; omega) (fun hc2 => ?_) (fun hc2 => ?_)
    · skip
      refine jn_iconst hx hb dX3_at_25 ?_
      exact hend _ _ _ _ _ dX3_at_26 ⟨congrArg ji_n (sp_ba_no hAS (by omega)).symm, hP⟩ hS
    · skip
      refine lv_aload_n hx hb dX3_at_17 rfl (lv_at hl 0 rfl) ?_
      refine lv_iload_n hx hb dX3_at_18 rfl (lv_at hl 1 rfl) ?_
      refine cl_rd (va_runV (As := [.int (ji_n x)]) (rest := []) ⟨hx, hb, hml, hown, hts⟩ (cm_byteAt l dC dI cI v 0 by_ nP n f0 f1 f2 g0 g1 g2 sz K A B z hF hAS hsz x (by omega) (by omega)) (cwV 1 hts (ub_V tm_442 tm_444 tm_s16 tm_5 tm_445) rfl rfl rfl (by decide +kernel) (by rw [hR]; exact ⟨Nat.le_of_ble_eq_true rfl, Nat.le_of_ble_eq_true rfl⟩)) (pv_rd (q0 := 0) (ci := 3) hN hP rfl rfl) rfl rfl hl.1 rfl (lv_room (Nat.le_of_ble_eq_true rfl)) dX3_at_19 ⟨Nat.zero_le _, Nat.zero_le _⟩) ?_
      refine lv_goto hx hb dX3_at_22 (tgt := 26) rfl ?_
      exact hend _ _ _ _ _ dX3_at_26 ⟨rfl, hP⟩ hS

set_option maxHeartbeats 4000000 in
set_option maxRecDepth 100000 in
theorem cm_address (l : Launch) (size_ : Nat) (dC : Nat → ClassId) (dI : Nat → Nat → Nat) (cI : ClassId) (v : Nat → Nat) (th by_ : Int) (nP n : Nat) (f0 f1 f2 g0 g1 g2 sz : Nat → Int32) (K A B z : Nat → Int) (hF : as_F n K A B g0 g1 g2) (hAS : sp_AS n K A B z) (hsz : ∀ j, j < n → sz j = ji_n (z j)) (x : Int) (r1 : ji_r x) : Met l yX3_address wsX3_address { frames := 1, cells := 0, slots := 0, locals := 23 } (va_Pc [.ref (v 0), .int (ji_n x)] (wr_B (dC, dI) vwCl (wo_M v cI th (nP : Int) (n : Int) by_ f0 f1 f2 g0 g1 g2 sz) size_ (kn_K dC dI cI))) (wr_Qi (fun r H => r = ji_n (sp_ad n z x) ∧ va_P (dC, dI) vwCl (wo_M v cI 0 (nP : Int) (n : Int) by_ f0 f1 f2 g0 g1 g2 sz) H) (va_A (wo_M v cI th (nP : Int) (n : Int) by_ f0 f1 f2 g0 g1 g2 sz) size_)) 0 0 (va_A (wo_M v cI th (nP : Int) (n : Int) by_ f0 f1 f2 g0 g1 g2 sz) size_) := by
  refine st_wi (cc := cX3_address) (maxL := 2) (ret := some .int) (ty := .int) (by decide) rfl rfl (Nat.le_of_ble_eq_true rfl) (lv := [(0, .ref (v 0)), (1, .int (ji_n x))]) rfl (fun v H h => rfl) ?_
  intro p e s m args below meth c R Q ls A9 hx hb hts hown hml hR hP hD hA hS hN hl hend
  have hK := hN.1
  have hinX3 : ∀ w ∈ u_ws RX3 TX3 11, w ∈ wsX3_address := fun w h => List.mem_cons_of_mem _ (inX3 w h)
  have hfl49 := (hts _ (List.mem_cons_of_mem _ tm_363))
  have hfl31 := (hts _ (List.mem_cons_of_mem _ tm_358))
  have hn := hAS.1
  have hg := hAS.2.1
  have ho := hAS.2.2.1
  have hu := hAS.2.2.2
  refine lv_aload_n hx hb dX3_address_0 rfl (lv_at hl 0 rfl) ?_
  refine jn_iconst hx hb dX3_address_1 ?_
  refine va_put (ci := 3) (C := RX3) (T := TX3) (N := 11) (ty := .int) hx hb hts hinX3 tyX3 tyX3_ok nmX3 hown hK hP hD hS 0 rfl rfl 0 (by decide) hfl31 (fun _ h9 => h9) rfl (by decide +kernel) rfl rfl (Nat.le_of_ble_eq_true rfl) dX3_address_2 (fun H locs hP hD hS => ?_)
  have hP : va_P (dC, dI) vwCl (wo_M v cI 0 (nP : Int) (n : Int) by_ f0 f1 f2 g0 g1 g2 sz) H := hP
  have hD : va_D A9 (wo_M v cI 0 (nP : Int) (n : Int) by_ f0 f1 f2 g0 g1 g2 sz) := hD
  refine lv_iload_n hx hb dX3_address_5 rfl (lv_at hl 1 rfl) ?_
  refine jn_if_lt hx hb dX3_address_6 (tgt := 25) rfl r1 (fun hc1 => ?_) (fun hc1 => ?_)
  · skip
    refine jn_iconst hx hb dX3_address_25 ?_
    exact hend _ _ _ _ _ dX3_address_26 ⟨congrArg ji_n (by unfold sp_ad; rw [if_neg (by omega)]), hP⟩ hS
  · skip
    refine lv_iload_n hx hb dX3_address_9 rfl (lv_at hl 1 rfl) ?_
    refine lv_aload_n hx hb dX3_address_10 rfl (lv_at hl 0 rfl) ?_
    refine va_get (ci := 3) (C := RX3) (T := TX3) (N := 11) hx hb hts hinX3 hown hK hP 0 rfl rfl 5 (by decide) hfl49 (fun _ h9 => h9) rfl dX3_address_11 ?_
    refine jn_icmp_ge hx hb dX3_address_14 (tgt := 25) rfl r1 (by unfold ji_r; omega) (fun hc2 => ?_) (fun hc2 => ?_)
    · skip
      refine jn_iconst hx hb dX3_address_25 ?_
      exact hend _ _ _ _ _ dX3_address_26 ⟨congrArg ji_n (by unfold sp_ad; rw [if_neg (by omega)]), hP⟩ hS
    · skip
      obtain ⟨j, rfl⟩ : ∃ j : Nat, x = (j : Int) := ⟨x.toNat, by omega⟩
      refine lv_aload_n hx hb dX3_address_17 rfl (lv_at hl 0 rfl) ?_
      refine lv_iload_n hx hb dX3_address_18 rfl (lv_at hl 1 rfl) ?_
      refine cl_rd (va_runV (As := [.int (ji_n (j : Int))]) (rest := []) ⟨hx, hb, hml, hown, hts⟩ (cm_place l dC dI cI v 0 by_ nP n f0 f1 f2 g0 g1 g2 sz K A B z hF hAS hsz j (by omega)) (cwV 1 hts (ub_V tm_434 tm_436 tm_s15 tm_5 tm_437) rfl rfl rfl (by decide +kernel) (by rw [hR]; exact ⟨Nat.le_of_ble_eq_true rfl, Nat.le_of_ble_eq_true rfl⟩)) (pv_rd (q0 := 0) (ci := 3) hN hP rfl rfl) rfl rfl hl.1 rfl (lv_room (Nat.le_of_ble_eq_true rfl)) dX3_address_19 ⟨Nat.zero_le _, Nat.zero_le _⟩) ?_
      refine lv_goto hx hb dX3_address_22 (tgt := 26) rfl ?_
      exact hend _ _ _ _ _ dX3_address_26 ⟨congrArg ji_n (by unfold sp_ad; rw [if_pos (by omega)]; rfl), hP⟩ hS

set_option maxHeartbeats 4000000 in
set_option maxRecDepth 100000 in
theorem cm_form (l : Launch) (size_ : Nat) (dC : Nat → ClassId) (dI : Nat → Nat → Nat) (cI : ClassId) (v : Nat → Nat) (th by_ : Int) (nP n : Nat) (f0 f1 f2 g0 g1 g2 sz : Nat → Int32) (K A B z : Nat → Int) (hF : as_F n K A B g0 g1 g2) (hAS : sp_AS n K A B z) (hsz : ∀ j, j < n → sz j = ji_n (z j)) (x : Int) (r1 : ji_r x) : Met l yX3_form wsX3_form { frames := 0, cells := 0, slots := 0, locals := 0 } (va_Pc [.ref (v 0), .int (ji_n x)] (wr_B (dC, dI) vwCl (wo_M v cI th (nP : Int) (n : Int) by_ f0 f1 f2 g0 g1 g2 sz) size_ (kn_K dC dI cI))) (wr_Qi (fun r H => r = ji_n (sp_fo n K z x) ∧ va_P (dC, dI) vwCl (wo_M v cI 0 (nP : Int) (n : Int) by_ f0 f1 f2 g0 g1 g2 sz) H) (va_A (wo_M v cI th (nP : Int) (n : Int) by_ f0 f1 f2 g0 g1 g2 sz) size_)) 0 0 (va_A (wo_M v cI th (nP : Int) (n : Int) by_ f0 f1 f2 g0 g1 g2 sz) size_) := by
  refine st_wi (cc := cX3_form) (maxL := 2) (ret := some .int) (ty := .int) (by decide) rfl rfl (Nat.le_of_ble_eq_true rfl) (lv := [(0, .ref (v 0)), (1, .int (ji_n x))]) rfl (fun v H h => rfl) ?_
  intro p e s m args below meth c R Q ls A9 hx hb hts hown hml hR hP hD hA hS hN hl hend
  have hK := hN.1
  have hinX3 : ∀ w ∈ u_ws RX3 TX3 11, w ∈ wsX3_form := fun w h => List.mem_cons_of_mem _ (inX3 w h)
  have hfl49 := (hts _ (List.mem_cons_of_mem _ tm_363))
  have hfl19 := (hts _ (List.mem_cons_of_mem _ tm_364))
  have hfl28 := (hts _ (List.mem_cons_of_mem _ tm_367))
  have hfl31 := (hts _ (List.mem_cons_of_mem _ tm_358))
  have hn := hAS.1
  have hg := hAS.2.1
  have ho := hAS.2.2.1
  have hu := hAS.2.2.2
  refine lv_aload_n hx hb dX3_form_0 rfl (lv_at hl 0 rfl) ?_
  refine jn_iconst hx hb dX3_form_1 ?_
  refine va_put (ci := 3) (C := RX3) (T := TX3) (N := 11) (ty := .int) hx hb hts hinX3 tyX3 tyX3_ok nmX3 hown hK hP hD hS 0 rfl rfl 0 (by decide) hfl31 (fun _ h9 => h9) rfl (by decide +kernel) rfl rfl (Nat.le_of_ble_eq_true rfl) dX3_form_2 (fun H locs hP hD hS => ?_)
  have hP : va_P (dC, dI) vwCl (wo_M v cI 0 (nP : Int) (n : Int) by_ f0 f1 f2 g0 g1 g2 sz) H := hP
  have hD : va_D A9 (wo_M v cI 0 (nP : Int) (n : Int) by_ f0 f1 f2 g0 g1 g2 sz) := hD
  refine lv_iload_n hx hb dX3_form_5 rfl (lv_at hl 1 rfl) ?_
  refine jn_if_lt hx hb dX3_form_6 (tgt := 17) rfl r1 (fun hc1 => ?_) (fun hc1 => ?_)
  · skip
    refine jn_iconst hx hb dX3_form_17 ?_
    exact hend _ _ _ _ _ dX3_form_18 ⟨congrArg ji_n (by unfold sp_fo; rw [if_neg (by omega)]), hP⟩ hS
  · skip
    refine lv_iload_n hx hb dX3_form_9 rfl (lv_at hl 1 rfl) ?_
    refine lv_aload_n hx hb dX3_form_10 rfl (lv_at hl 0 rfl) ?_
    refine va_get (ci := 3) (C := RX3) (T := TX3) (N := 11) hx hb hts hinX3 hown hK hP 0 rfl rfl 5 (by decide) hfl49 (fun _ h9 => h9) rfl dX3_form_11 ?_
    refine jn_icmp_lt hx hb dX3_form_14 (tgt := 19) rfl r1 (by unfold ji_r; omega) (fun hc2 => ?_) (fun hc2 => ?_)
    · skip
      obtain ⟨j, rfl⟩ : ∃ j : Nat, x = (j : Int) := ⟨x.toNat, by omega⟩
      have hgj := hg j (by omega)
      unfold sp_gd at hgj
      have hoj := ho j (by omega)
      have hfj := sp_fm_or (K j) (z j)
      have hlj := sp_lg_or (B j)
      refine lv_aload_n hx hb dX3_form_19 rfl (lv_at hl 0 rfl) ?_
      refine va_get (ci := 3) (C := RX3) (T := TX3) (N := 11) hx hb hts hinX3 hown hK hP 0 rfl rfl 6 (by decide) hfl19 (fun _ h9 => h9) rfl dX3_form_20 ?_
      refine lv_iload_n hx hb dX3_form_23 rfl (lv_at hl 1 rfl) ?_
      refine jn_iald hx hb hK hP 4 0 rfl rfl j (by omega) (by omega) (by decide) (v := K j) (hF.1 j (by omega)) dX3_form_24 ?_
      refine jn_iconst hx hb dX3_form_25 ?_
      refine jn_icmp_eq hx hb dX3_form_26 (tgt := 33) rfl (by unfold ji_r; omega) (by unfold ji_r; omega) (fun hc3 => ?_) (fun hc3 => ?_)
      · skip
        refine lv_aload_n hx hb dX3_form_33 rfl (lv_at hl 0 rfl) ?_
        refine va_get (ci := 3) (C := RX3) (T := TX3) (N := 11) hx hb hts hinX3 hown hK hP 0 rfl rfl 9 (by decide) hfl28 (fun _ h9 => h9) rfl dX3_form_34 ?_
        refine lv_iload_n hx hb dX3_form_37 rfl (lv_at hl 1 rfl) ?_
        refine jn_iald hx hb hK hP 7 0 rfl rfl j (by omega) (by omega) (by decide) (v := z j) (hsz j (by omega)) dX3_form_38 ?_
        refine jn_iconst hx hb dX3_form_39 ?_
        refine jn_icmp_ne hx hb dX3_form_40 (tgt := 47) rfl (by unfold ji_r; omega) (by unfold ji_r; omega) (fun hc4 => ?_) (fun hc4 => ?_)
        · skip
          refine jn_iconst hx hb dX3_form_47 ?_
          exact hend _ _ _ _ _ dX3_form_48 ⟨congrArg ji_n (by unfold sp_fo; rw [if_pos (by omega), show ((j : Int)).toNat = j from rfl]; omega), hP⟩ hS
        · skip
          refine jn_iconst hx hb dX3_form_43 ?_
          refine lv_goto hx hb dX3_form_44 (tgt := 48) rfl ?_
          exact hend _ _ _ _ _ dX3_form_48 ⟨congrArg ji_n (by unfold sp_fo; rw [if_pos (by omega), show ((j : Int)).toNat = j from rfl]; omega), hP⟩ hS
      · skip
        refine jn_iconst hx hb dX3_form_29 ?_
        refine lv_goto hx hb dX3_form_30 (tgt := 48) rfl ?_
        exact hend _ _ _ _ _ dX3_form_48 ⟨congrArg ji_n (by unfold sp_fo; rw [if_pos (by omega), show ((j : Int)).toNat = j from rfl]; omega), hP⟩ hS
    · skip
      refine jn_iconst hx hb dX3_form_17 ?_
      exact hend _ _ _ _ _ dX3_form_18 ⟨congrArg ji_n (by unfold sp_fo; rw [if_neg (by omega)]), hP⟩ hS

set_option maxHeartbeats 4000000 in
set_option maxRecDepth 100000 in
theorem cm_longs (l : Launch) (size_ : Nat) (dC : Nat → ClassId) (dI : Nat → Nat → Nat) (cI : ClassId) (v : Nat → Nat) (th by_ : Int) (nP n : Nat) (f0 f1 f2 g0 g1 g2 sz : Nat → Int32) (K A B z : Nat → Int) (hF : as_F n K A B g0 g1 g2) (hAS : sp_AS n K A B z) (hsz : ∀ j, j < n → sz j = ji_n (z j)) : Met l yX3_longs wsX3_longs { frames := 0, cells := 0, slots := 0, locals := 0 } (va_Pc [.ref (v 0)] (wr_B (dC, dI) vwCl (wo_M v cI th (nP : Int) (n : Int) by_ f0 f1 f2 g0 g1 g2 sz) size_ (kn_K dC dI cI))) (wr_Qi (fun r H => r = ji_n (sp_lc K z n) ∧ va_P (dC, dI) vwCl (wo_M v cI 0 (nP : Int) (n : Int) by_ f0 f1 f2 g0 g1 g2 sz) H) (va_A (wo_M v cI th (nP : Int) (n : Int) by_ f0 f1 f2 g0 g1 g2 sz) size_)) 0 0 (va_A (wo_M v cI th (nP : Int) (n : Int) by_ f0 f1 f2 g0 g1 g2 sz) size_) := by
  refine st_wi (cc := cX3_longs) (maxL := 3) (ret := some .int) (ty := .int) (by decide) rfl rfl (Nat.le_of_ble_eq_true rfl) (lv := [(0, .ref (v 0))]) rfl (fun v H h => rfl) ?_
  intro p e s m args below meth c R Q ls A9 hx hb hts hown hml hR hP hD hA hS hN hl hend
  have hK := hN.1
  have hinX3 : ∀ w ∈ u_ws RX3 TX3 11, w ∈ wsX3_longs := fun w h => List.mem_cons_of_mem _ (inX3 w h)
  have hfl49 := (hts _ (List.mem_cons_of_mem _ tm_363))
  have hfl19 := (hts _ (List.mem_cons_of_mem _ tm_364))
  have hfl28 := (hts _ (List.mem_cons_of_mem _ tm_367))
  have hfl31 := (hts _ (List.mem_cons_of_mem _ tm_358))
  have hn := hAS.1
  have hg := hAS.2.1
  have ho := hAS.2.2.1
  have hu := hAS.2.2.2
  refine lv_aload_n hx hb dX3_longs_0 rfl (lv_at hl 0 rfl) ?_
  refine jn_iconst hx hb dX3_longs_1 ?_
  refine va_put (ci := 3) (C := RX3) (T := TX3) (N := 11) (ty := .int) hx hb hts hinX3 tyX3 tyX3_ok nmX3 hown hK hP hD hS 0 rfl rfl 0 (by decide) hfl31 (fun _ h9 => h9) rfl (by decide +kernel) rfl rfl (Nat.le_of_ble_eq_true rfl) dX3_longs_2 (fun H locs hP hD hS => ?_)
  have hP : va_P (dC, dI) vwCl (wo_M v cI 0 (nP : Int) (n : Int) by_ f0 f1 f2 g0 g1 g2 sz) H := hP
  have hD : va_D A9 (wo_M v cI 0 (nP : Int) (n : Int) by_ f0 f1 f2 g0 g1 g2 sz) := hD
  refine jn_iconst hx hb dX3_longs_5 ?_
  refine lv_istore_n (lv' := [(1, .int (ji_n 0)), (0, .ref (v 0))]) hx hb dX3_longs_6 rfl hl (by decide) rfl (fun ls hl => ?_)
  refine jn_iconst hx hb dX3_longs_7 ?_
  refine lv_istore_n (lv' := [(2, .int (ji_n 0)), (1, .int (ji_n 0)), (0, .ref (v 0))]) hx hb dX3_longs_8 rfl hl (by decide) rfl (fun ls hl => ?_)
  have loop1 : ∀ i : Nat, i ≤ n → ∀ ls : Array Slot, lv_has ls 3 [(2, .int (ji_n (i : Int))), (1, .int (ji_n (sp_lc K z i))), (0, .ref (v 0))] → W p l e R s m args below meth c H locs 0 0 Q (F0 m 9 ls []) := by
    refine lp_up n ?_
    intro i hi_i ih2 ls hl
    have hd := sp_lc_b K z i
    refine lv_iload_n hx hb dX3_longs_9 rfl (lv_at hl 0 rfl) ?_
    refine lv_aload_n hx hb dX3_longs_10 rfl (lv_at hl 2 rfl) ?_
    refine va_get (ci := 3) (C := RX3) (T := TX3) (N := 11) hx hb hts hinX3 hown hK hP 0 rfl rfl 5 (by decide) hfl49 (fun _ h9 => h9) rfl dX3_longs_11 ?_
    refine jn_icmp_ge hx hb dX3_longs_14 (tgt := 51) rfl (by unfold ji_r; omega) (by unfold ji_r; omega) (fun hc3 => ?_) (fun hc3 => ?_)
    · skip
      have he : i = n := by omega
      refine lv_iload_n hx hb dX3_longs_51 rfl (lv_at hl 1 rfl) ?_
      exact hend _ _ _ _ _ dX3_longs_52 ⟨congrArg ji_n (by rw [he]), hP⟩ hS
    · skip
      have hgj := hg i (by omega)
      unfold sp_gd at hgj
      have hoj := ho i (by omega)
      have hfj := sp_fm_or (K i) (z i)
      have hlj := sp_lg_or (B i)
      refine lv_aload_n hx hb dX3_longs_17 rfl (lv_at hl 2 rfl) ?_
      refine va_get (ci := 3) (C := RX3) (T := TX3) (N := 11) hx hb hts hinX3 hown hK hP 0 rfl rfl 6 (by decide) hfl19 (fun _ h9 => h9) rfl dX3_longs_18 ?_
      refine lv_iload_n hx hb dX3_longs_21 rfl (lv_at hl 0 rfl) ?_
      refine jn_iald hx hb hK hP 4 0 rfl rfl i (by omega) (by omega) (by decide) (v := K i) (hF.1 i (by omega)) dX3_longs_22 ?_
      refine jn_iconst hx hb dX3_longs_23 ?_
      refine jn_icmp_ne hx hb dX3_longs_24 (tgt := 43) rfl (by unfold ji_r; omega) (by unfold ji_r; omega) (fun hc4 => ?_) (fun hc4 => ?_)
      · skip
        refine lv_iload_n hx hb dX3_longs_43 rfl (lv_at hl 1 rfl) ?_
        refine lv_istore_n (lv' := [(1, .int (ji_n (sp_lc K z i))), (2, .int (ji_n (i : Int))), (0, .ref (v 0))]) hx hb dX3_longs_44 rfl hl (by decide) rfl (fun ls hl => ?_)
        refine jn_iinc (lv' := [(2, .int (ji_n ((i : Int) + 1))), (1, .int (ji_n (sp_lc K z i))), (0, .ref (v 0))]) (k := 1) (v := (i : Int) + 1) hx hb dX3_longs_45 hl rfl rfl (by decide) rfl (fun ls hl => ?_)
        refine lv_goto hx hb dX3_longs_48 (tgt := 9) rfl ?_
        have hl : lv_has ls 3 [(2, .int (ji_n ((i + 1 : Nat) : Int))), (1, .int (ji_n (sp_lc K z (i + 1)))), (0, .ref (v 0))] := by
          have hl2 := lv_sub hl (l' := [(2, .int (ji_n ((i : Int) + 1))), (1, .int (ji_n (sp_lc K z i))), (0, .ref (v 0))]) [0, 1, 2] rfl
          rw [show (ji_n ((i : Int) + 1)) = (ji_n ((i + 1 : Nat) : Int)) from (congrArg ji_n (by omega))] at hl2
          rw [show (ji_n (sp_lc K z i)) = (ji_n (sp_lc K z (i + 1))) from (congrArg ji_n (by rw [sp_lc_s]; split <;> omega))] at hl2
          exact hl2
        exact ih2 (by omega) ls hl 
      · skip
        refine lv_aload_n hx hb dX3_longs_27 rfl (lv_at hl 2 rfl) ?_
        refine va_get (ci := 3) (C := RX3) (T := TX3) (N := 11) hx hb hts hinX3 hown hK hP 0 rfl rfl 9 (by decide) hfl28 (fun _ h9 => h9) rfl dX3_longs_28 ?_
        refine lv_iload_n hx hb dX3_longs_31 rfl (lv_at hl 0 rfl) ?_
        refine jn_iald hx hb hK hP 7 0 rfl rfl i (by omega) (by omega) (by decide) (v := z i) (hsz i (by omega)) dX3_longs_32 ?_
        refine jn_iconst hx hb dX3_longs_33 ?_
        refine jn_icmp_le hx hb dX3_longs_34 (tgt := 43) rfl (by unfold ji_r; omega) (by unfold ji_r; omega) (fun hc5 => ?_) (fun hc5 => ?_)
        · skip
          refine lv_iload_n hx hb dX3_longs_43 rfl (lv_at hl 1 rfl) ?_
          refine lv_istore_n (lv' := [(1, .int (ji_n (sp_lc K z i))), (2, .int (ji_n (i : Int))), (0, .ref (v 0))]) hx hb dX3_longs_44 rfl hl (by decide) rfl (fun ls hl => ?_)
          refine jn_iinc (lv' := [(2, .int (ji_n ((i : Int) + 1))), (1, .int (ji_n (sp_lc K z i))), (0, .ref (v 0))]) (k := 1) (v := (i : Int) + 1) hx hb dX3_longs_45 hl rfl rfl (by decide) rfl (fun ls hl => ?_)
          refine lv_goto hx hb dX3_longs_48 (tgt := 9) rfl ?_
          have hl : lv_has ls 3 [(2, .int (ji_n ((i + 1 : Nat) : Int))), (1, .int (ji_n (sp_lc K z (i + 1)))), (0, .ref (v 0))] := by
            have hl2 := lv_sub hl (l' := [(2, .int (ji_n ((i : Int) + 1))), (1, .int (ji_n (sp_lc K z i))), (0, .ref (v 0))]) [0, 1, 2] rfl
            rw [show (ji_n ((i : Int) + 1)) = (ji_n ((i + 1 : Nat) : Int)) from (congrArg ji_n (by omega))] at hl2
            rw [show (ji_n (sp_lc K z i)) = (ji_n (sp_lc K z (i + 1))) from (congrArg ji_n (by rw [sp_lc_s]; split <;> omega))] at hl2
            exact hl2
          exact ih2 (by omega) ls hl 
        · skip
          refine lv_iload_n hx hb dX3_longs_37 rfl (lv_at hl 1 rfl) ?_
          refine jn_iconst hx hb dX3_longs_38 ?_
          refine jn_iadd hx hb dX3_longs_39 (v := (sp_lc K z i) + 1) rfl ?_
          refine lv_goto hx hb dX3_longs_40 (tgt := 44) rfl ?_
          refine lv_istore_n (lv' := [(1, .int (ji_n ((sp_lc K z i) + 1))), (2, .int (ji_n (i : Int))), (0, .ref (v 0))]) hx hb dX3_longs_44 rfl hl (by decide) rfl (fun ls hl => ?_)
          refine jn_iinc (lv' := [(2, .int (ji_n ((i : Int) + 1))), (1, .int (ji_n ((sp_lc K z i) + 1))), (0, .ref (v 0))]) (k := 1) (v := (i : Int) + 1) hx hb dX3_longs_45 hl rfl rfl (by decide) rfl (fun ls hl => ?_)
          refine lv_goto hx hb dX3_longs_48 (tgt := 9) rfl ?_
          have hl : lv_has ls 3 [(2, .int (ji_n ((i + 1 : Nat) : Int))), (1, .int (ji_n (sp_lc K z (i + 1)))), (0, .ref (v 0))] := by
            have hl2 := lv_sub hl (l' := [(2, .int (ji_n ((i : Int) + 1))), (1, .int (ji_n ((sp_lc K z i) + 1))), (0, .ref (v 0))]) [0, 1, 2] rfl
            rw [show (ji_n ((i : Int) + 1)) = (ji_n ((i + 1 : Nat) : Int)) from (congrArg ji_n (by omega))] at hl2
            rw [show (ji_n ((sp_lc K z i) + 1)) = (ji_n (sp_lc K z (i + 1))) from (congrArg ji_n (by rw [sp_lc_s]; split <;> omega))] at hl2
            exact hl2
          exact ih2 (by omega) ls hl 
  have hl : lv_has ls 3 [(2, .int (ji_n ((0 : Nat) : Int))), (1, .int (ji_n (sp_lc K z 0))), (0, .ref (v 0))] := lv_sub hl [0, 1, 2] rfl
  exact loop1 0 (by omega) ls hl 

set_option maxHeartbeats 4000000 in
set_option maxRecDepth 100000 in
theorem cm_value (l : Launch) (size_ : Nat) (dC : Nat → ClassId) (dI : Nat → Nat → Nat) (cI : ClassId) (v : Nat → Nat) (th by_ : Int) (nP n : Nat) (f0 f1 f2 g0 g1 g2 sz : Nat → Int32) (K A B z : Nat → Int) (hF : as_F n K A B g0 g1 g2) (hAS : sp_AS n K A B z) (hsz : ∀ j, j < n → sz j = ji_n (z j)) (x : Int) (r1 : ji_r x) : Met l yX3_value wsX3_value { frames := 2, cells := 0, slots := 0, locals := 45 } (va_Pc [.ref (v 0), .int (ji_n x)] (wr_B (dC, dI) vwCl (wo_M v cI th (nP : Int) (n : Int) by_ f0 f1 f2 g0 g1 g2 sz) size_ (kn_K dC dI cI))) (wr_Qi (fun r H => r = ji_n (sp_la K A z n x) ∧ va_P (dC, dI) vwCl (wo_M v cI 0 (nP : Int) (n : Int) by_ f0 f1 f2 g0 g1 g2 sz) H) (va_A (wo_M v cI th (nP : Int) (n : Int) by_ f0 f1 f2 g0 g1 g2 sz) size_)) 0 0 (va_A (wo_M v cI th (nP : Int) (n : Int) by_ f0 f1 f2 g0 g1 g2 sz) size_) := by
  refine st_wi (cc := cX3_value) (maxL := 2) (ret := some .int) (ty := .int) (by decide) rfl rfl (Nat.le_of_ble_eq_true rfl) (lv := [(0, .ref (v 0)), (1, .int (ji_n x))]) rfl (fun v H h => rfl) ?_
  intro p e s m args below meth c R Q ls A9 hx hb hts hown hml hR hP hD hA hS hN hl hend
  have hK := hN.1
  have hinX3 : ∀ w ∈ u_ws RX3 TX3 11, w ∈ wsX3_value := fun w h => List.mem_cons_of_mem _ (inX3 w h)
  have hfl31 := (hts _ (List.mem_cons_of_mem _ tm_358))
  have hn := hAS.1
  have hg := hAS.2.1
  have ho := hAS.2.2.1
  have hu := hAS.2.2.2
  refine lv_aload_n hx hb dX3_value_0 rfl (lv_at hl 0 rfl) ?_
  refine jn_iconst hx hb dX3_value_1 ?_
  refine va_put (ci := 3) (C := RX3) (T := TX3) (N := 11) (ty := .int) hx hb hts hinX3 tyX3 tyX3_ok nmX3 hown hK hP hD hS 0 rfl rfl 0 (by decide) hfl31 (fun _ h9 => h9) rfl (by decide +kernel) rfl rfl (Nat.le_of_ble_eq_true rfl) dX3_value_2 (fun H locs hP hD hS => ?_)
  have hP : va_P (dC, dI) vwCl (wo_M v cI 0 (nP : Int) (n : Int) by_ f0 f1 f2 g0 g1 g2 sz) H := hP
  have hD : va_D A9 (wo_M v cI 0 (nP : Int) (n : Int) by_ f0 f1 f2 g0 g1 g2 sz) := hD
  refine lv_aload_n hx hb dX3_value_5 rfl (lv_at hl 0 rfl) ?_
  refine lv_iload_n hx hb dX3_value_6 rfl (lv_at hl 1 rfl) ?_
  refine cl_rd (va_runV (As := [.int (ji_n x)]) (rest := []) ⟨hx, hb, hml, hown, hts⟩ (cm_labelled l dC dI cI v 0 by_ nP n f0 f1 f2 g0 g1 g2 sz K A B z hF hAS hsz x r1) (cwV 1 hts (ub_V tm_430 tm_432 tm_s14 tm_5 tm_433) rfl rfl rfl (by decide +kernel) (by rw [hR]; exact ⟨Nat.le_of_ble_eq_true rfl, Nat.le_of_ble_eq_true rfl⟩)) (pv_rd (q0 := 0) (ci := 3) hN hP rfl rfl) rfl rfl hl.1 rfl (lv_room (Nat.le_of_ble_eq_true rfl)) dX3_value_7 ⟨Nat.zero_le _, Nat.zero_le _⟩) ?_
  exact hend _ _ _ _ _ dX3_value_10 ⟨rfl, hP⟩ hS

set_option maxHeartbeats 4000000 in
set_option maxRecDepth 100000 in
theorem cm_jumps (l : Launch) (size_ : Nat) (dC : Nat → ClassId) (dI : Nat → Nat → Nat) (cI : ClassId) (v : Nat → Nat) (th by_ : Int) (nP n : Nat) (f0 f1 f2 g0 g1 g2 sz : Nat → Int32) (K A B z : Nat → Int) (hF : as_F n K A B g0 g1 g2) (hAS : sp_AS n K A B z) (hsz : ∀ j, j < n → sz j = ji_n (z j)) (hby : by_ = sp_pz z n) (x : Int) (r1 : ji_r x) : Met l yX3_jumps wsX3_jumps { frames := 6, cells := 0, slots := 0, locals := 139 } (va_Pc [.ref (v 0), .int (ji_n x)] (wr_B (dC, dI) vwCl (wo_M v cI th (nP : Int) (n : Int) by_ f0 f1 f2 g0 g1 g2 sz) size_ (kn_K dC dI cI))) (wr_Qi (fun r H => r = ji_n (sp_ju (sp_os n K A B z x)) ∧ va_P (dC, dI) vwCl (wo_M v cI 0 (nP : Int) (n : Int) by_ f0 f1 f2 g0 g1 g2 sz) H) (va_A (wo_M v cI th (nP : Int) (n : Int) by_ f0 f1 f2 g0 g1 g2 sz) size_)) 0 0 (va_A (wo_M v cI th (nP : Int) (n : Int) by_ f0 f1 f2 g0 g1 g2 sz) size_) := by
  refine st_wi (cc := cX3_jumps) (maxL := 2) (ret := some .boolean) (ty := .boolean) (by decide) rfl rfl (Nat.le_of_ble_eq_true rfl) (lv := [(0, .ref (v 0)), (1, .int (ji_n x))]) rfl (fun v H h => by rw [h.1]; exact nb_b (by have := sp_ju_or (sp_os n K A B z x); omega)) ?_
  intro p e s m args below meth c R Q ls A9 hx hb hts hown hml hR hP hD hA hS hN hl hend
  have hK := hN.1
  have hinX3 : ∀ w ∈ u_ws RX3 TX3 11, w ∈ wsX3_jumps := fun w h => List.mem_cons_of_mem _ (inX3 w h)
  have hfl31 := (hts _ (List.mem_cons_of_mem _ tm_358))
  have hn := hAS.1
  have hg := hAS.2.1
  have ho := hAS.2.2.1
  have hu := hAS.2.2.2
  refine lv_aload_n hx hb dX3_jumps_0 rfl (lv_at hl 0 rfl) ?_
  refine jn_iconst hx hb dX3_jumps_1 ?_
  refine va_put (ci := 3) (C := RX3) (T := TX3) (N := 11) (ty := .int) hx hb hts hinX3 tyX3 tyX3_ok nmX3 hown hK hP hD hS 0 rfl rfl 0 (by decide) hfl31 (fun _ h9 => h9) rfl (by decide +kernel) rfl rfl (Nat.le_of_ble_eq_true rfl) dX3_jumps_2 (fun H locs hP hD hS => ?_)
  have hP : va_P (dC, dI) vwCl (wo_M v cI 0 (nP : Int) (n : Int) by_ f0 f1 f2 g0 g1 g2 sz) H := hP
  have hD : va_D A9 (wo_M v cI 0 (nP : Int) (n : Int) by_ f0 f1 f2 g0 g1 g2 sz) := hD
  refine lv_aload_n hx hb dX3_jumps_5 rfl (lv_at hl 0 rfl) ?_
  refine lv_iload_n hx hb dX3_jumps_6 rfl (lv_at hl 1 rfl) ?_
  refine cl_rd (va_runV (As := [.int (ji_n x)]) (rest := []) ⟨hx, hb, hml, hown, hts⟩ (cm_length l dC dI cI v 0 by_ nP n f0 f1 f2 g0 g1 g2 sz K A B z hF hAS hsz hby x r1) (cwV 1 hts (ub_V tm_470 tm_472 tm_s18 tm_5 tm_473) rfl rfl rfl (by decide +kernel) (by rw [hR]; exact ⟨Nat.le_of_ble_eq_true rfl, Nat.le_of_ble_eq_true rfl⟩)) (pv_rd (q0 := 0) (ci := 3) hN hP rfl rfl) rfl rfl hl.1 rfl (lv_room (Nat.le_of_ble_eq_true rfl)) dX3_jumps_7 ⟨Nat.zero_le _, Nat.zero_le _⟩) ?_
  have hob := sp_os_b hAS x
  have hju := sp_ju_or (sp_os n K A B z x)
  refine jn_iconst hx hb dX3_jumps_10 ?_
  refine jn_icmp_le hx hb dX3_jumps_11 (tgt := 18) rfl (by unfold ji_r; omega) (by unfold ji_r; omega) (fun hc1 => ?_) (fun hc1 => ?_)
  · skip
    refine jn_iconst hx hb dX3_jumps_18 ?_
    exact hend _ _ _ _ _ dX3_jumps_19 ⟨congrArg ji_n (by omega), hP⟩ hS
  · skip
    refine jn_iconst hx hb dX3_jumps_14 ?_
    refine lv_goto hx hb dX3_jumps_15 (tgt := 19) rfl ?_
    exact hend _ _ _ _ _ dX3_jumps_19 ⟨congrArg ji_n (by omega), hP⟩ hS

set_option maxHeartbeats 4000000 in
set_option maxRecDepth 100000 in
theorem cm_follow (l : Launch) (size_ : Nat) (dC : Nat → ClassId) (dI : Nat → Nat → Nat) (cI : ClassId) (v : Nat → Nat) (th by_ : Int) (nP n : Nat) (f0 f1 f2 g0 g1 g2 sz : Nat → Int32) (K A B z : Nat → Int) (hF : as_F n K A B g0 g1 g2) (hAS : sp_AS n K A B z) (hsz : ∀ j, j < n → sz j = ji_n (z j)) (hby : by_ = sp_pz z n) (x t : Int) (r1 : ji_r x) (ht : t = 0 ∨ t = 1) : Met l yX3_follow wsX3_follow { frames := 7, cells := 0, slots := 0, locals := 165 } (va_Pc [.ref (v 0), .int (ji_n x), .int (ji_n t)] (wr_B (dC, dI) vwCl (wo_M v cI th (nP : Int) (n : Int) by_ f0 f1 f2 g0 g1 g2 sz) size_ (kn_K dC dI cI))) (wr_Qi (fun r H => r = ji_n (sp_fw n K A B z x t) ∧ va_P (dC, dI) vwCl (wo_M v cI (sp_ez (sp_os n K A B z x)) (nP : Int) (n : Int) by_ f0 f1 f2 g0 g1 g2 sz) H) (va_A (wo_M v cI th (nP : Int) (n : Int) by_ f0 f1 f2 g0 g1 g2 sz) size_)) 0 0 (va_A (wo_M v cI th (nP : Int) (n : Int) by_ f0 f1 f2 g0 g1 g2 sz) size_) := by
  refine st_wi (cc := cX3_follow) (maxL := 3) (ret := some .int) (ty := .int) (by decide) rfl rfl (Nat.le_of_ble_eq_true rfl) (lv := [(0, .ref (v 0)), (1, .int (ji_n x)), (2, .int (ji_n t))]) rfl (fun v H h => rfl) ?_
  intro p e s m args below meth c R Q ls A9 hx hb hts hown hml hR hP hD hA hS hN hl hend
  have hK := hN.1
  have hinX3 : ∀ w ∈ u_ws RX3 TX3 11, w ∈ wsX3_follow := fun w h => List.mem_cons_of_mem _ (inX3 w h)
  have hfl31 := (hts _ (List.mem_cons_of_mem _ tm_358))
  have hn := hAS.1
  have hg := hAS.2.1
  have ho := hAS.2.2.1
  have hu := hAS.2.2.2
  refine lv_aload_n hx hb dX3_follow_0 rfl (lv_at hl 0 rfl) ?_
  refine lv_aload_n hx hb dX3_follow_1 rfl (lv_at hl 0 rfl) ?_
  refine lv_iload_n hx hb dX3_follow_2 rfl (lv_at hl 1 rfl) ?_
  refine cl_rd (va_runV (As := [.int (ji_n x)]) (rest := [.ref (v 0)]) ⟨hx, hb, hml, hown, hts⟩ (cm_length l dC dI cI v th by_ nP n f0 f1 f2 g0 g1 g2 sz K A B z hF hAS hsz hby x r1) (cwV 1 hts (ub_V tm_470 tm_472 tm_s18 tm_5 tm_473) rfl rfl rfl (by decide +kernel) (by rw [hR]; exact ⟨Nat.le_of_ble_eq_true rfl, Nat.le_of_ble_eq_true rfl⟩)) (pv_rd (q0 := 0) (ci := 3) hN hP rfl rfl) rfl rfl hl.1 rfl (lv_room (Nat.le_of_ble_eq_true rfl)) dX3_follow_3 ⟨Nat.zero_le _, Nat.zero_le _⟩) ?_
  have hob := sp_os_b hAS x
  have hez := sp_ez_or (sp_os n K A B z x)
  refine jn_if_ne hx hb dX3_follow_6 (tgt := 13) rfl (by unfold ji_r; omega) (fun hc1 => ?_) (fun hc1 => ?_)
  · skip
    refine jn_iconst hx hb dX3_follow_13 ?_
    refine jn_top (v := sp_ez (sp_os n K A B z x)) (congrArg ji_n (by omega)) ?_
    refine va_put (ci := 3) (C := RX3) (T := TX3) (N := 11) (ty := .int) hx hb hts hinX3 tyX3 tyX3_ok nmX3 hown hK hP hD hS 0 rfl rfl 0 (by decide) hfl31 (fun _ h9 => h9) rfl (by decide +kernel) rfl rfl (Nat.le_of_ble_eq_true rfl) dX3_follow_14 (fun H locs hP hD hS => ?_)
    have hP : va_P (dC, dI) vwCl (wo_M v cI (sp_ez (sp_os n K A B z x)) (nP : Int) (n : Int) by_ f0 f1 f2 g0 g1 g2 sz) H := hP
    have hD : va_D A9 (wo_M v cI (sp_ez (sp_os n K A B z x)) (nP : Int) (n : Int) by_ f0 f1 f2 g0 g1 g2 sz) := hD
    refine lv_aload_n hx hb dX3_follow_17 rfl (lv_at hl 0 rfl) ?_
    refine va_get (ci := 3) (C := RX3) (T := TX3) (N := 11) hx hb hts hinX3 hown hK hP 0 rfl rfl 0 (by decide) hfl31 (fun _ h9 => h9) rfl dX3_follow_18 ?_
    refine jn_if_le hx hb dX3_follow_21 (tgt := 28) rfl (by unfold ji_r; omega) (fun hc2 => ?_) (fun hc2 => ?_)
    · skip
      refine lv_aload_n hx hb dX3_follow_28 rfl (lv_at hl 0 rfl) ?_
      refine lv_iload_n hx hb dX3_follow_29 rfl (lv_at hl 1 rfl) ?_
      refine lv_iload_n hx hb dX3_follow_30 rfl (lv_at hl 2 rfl) ?_
      refine cl_rd (va_runV (As := [.int (ji_n x), .int (ji_n t)]) (rest := []) ⟨hx, hb, hml, hown, hts⟩ (cm_next l dC dI cI v (sp_ez (sp_os n K A B z x)) by_ nP n f0 f1 f2 g0 g1 g2 sz K A B z hF hAS hsz hby x t (by omega) ht) (cwV 2 hts (ub_V tm_474 tm_476 tm_s19 tm_5 tm_477) rfl rfl rfl (by decide +kernel) (by rw [hR]; exact ⟨Nat.le_of_ble_eq_true rfl, Nat.le_of_ble_eq_true rfl⟩)) (pv_rd (q0 := 0) (ci := 3) hN hP rfl rfl) rfl rfl hl.1 rfl (lv_room (Nat.le_of_ble_eq_true rfl)) dX3_follow_31 ⟨Nat.zero_le _, Nat.zero_le _⟩) ?_
      exact hend _ _ _ _ _ dX3_follow_34 ⟨congrArg ji_n (by unfold sp_fw; rw [if_neg (by omega)]), hP⟩ hS
    · skip
      refine jn_iconst hx hb dX3_follow_24 ?_
      refine lv_goto hx hb dX3_follow_25 (tgt := 34) rfl ?_
      exact hend _ _ _ _ _ dX3_follow_34 ⟨congrArg ji_n (by unfold sp_fw; rw [if_pos (by omega)]), hP⟩ hS
  · skip
    refine jn_iconst hx hb dX3_follow_9 ?_
    refine lv_goto hx hb dX3_follow_10 (tgt := 14) rfl ?_
    refine jn_top (v := sp_ez (sp_os n K A B z x)) (congrArg ji_n (by omega)) ?_
    refine va_put (ci := 3) (C := RX3) (T := TX3) (N := 11) (ty := .int) hx hb hts hinX3 tyX3 tyX3_ok nmX3 hown hK hP hD hS 0 rfl rfl 0 (by decide) hfl31 (fun _ h9 => h9) rfl (by decide +kernel) rfl rfl (Nat.le_of_ble_eq_true rfl) dX3_follow_14 (fun H locs hP hD hS => ?_)
    have hP : va_P (dC, dI) vwCl (wo_M v cI (sp_ez (sp_os n K A B z x)) (nP : Int) (n : Int) by_ f0 f1 f2 g0 g1 g2 sz) H := hP
    have hD : va_D A9 (wo_M v cI (sp_ez (sp_os n K A B z x)) (nP : Int) (n : Int) by_ f0 f1 f2 g0 g1 g2 sz) := hD
    refine lv_aload_n hx hb dX3_follow_17 rfl (lv_at hl 0 rfl) ?_
    refine va_get (ci := 3) (C := RX3) (T := TX3) (N := 11) hx hb hts hinX3 hown hK hP 0 rfl rfl 0 (by decide) hfl31 (fun _ h9 => h9) rfl dX3_follow_18 ?_
    refine jn_if_le hx hb dX3_follow_21 (tgt := 28) rfl (by unfold ji_r; omega) (fun hc3 => ?_) (fun hc3 => ?_)
    · skip
      refine lv_aload_n hx hb dX3_follow_28 rfl (lv_at hl 0 rfl) ?_
      refine lv_iload_n hx hb dX3_follow_29 rfl (lv_at hl 1 rfl) ?_
      refine lv_iload_n hx hb dX3_follow_30 rfl (lv_at hl 2 rfl) ?_
      refine cl_rd (va_runV (As := [.int (ji_n x), .int (ji_n t)]) (rest := []) ⟨hx, hb, hml, hown, hts⟩ (cm_next l dC dI cI v (sp_ez (sp_os n K A B z x)) by_ nP n f0 f1 f2 g0 g1 g2 sz K A B z hF hAS hsz hby x t (by omega) ht) (cwV 2 hts (ub_V tm_474 tm_476 tm_s19 tm_5 tm_477) rfl rfl rfl (by decide +kernel) (by rw [hR]; exact ⟨Nat.le_of_ble_eq_true rfl, Nat.le_of_ble_eq_true rfl⟩)) (pv_rd (q0 := 0) (ci := 3) hN hP rfl rfl) rfl rfl hl.1 rfl (lv_room (Nat.le_of_ble_eq_true rfl)) dX3_follow_31 ⟨Nat.zero_le _, Nat.zero_le _⟩) ?_
      exact hend _ _ _ _ _ dX3_follow_34 ⟨congrArg ji_n (by unfold sp_fw; rw [if_neg (by omega)]), hP⟩ hS
    · skip
      refine jn_iconst hx hb dX3_follow_24 ?_
      refine lv_goto hx hb dX3_follow_25 (tgt := 34) rfl ?_
      exact hend _ _ _ _ _ dX3_follow_34 ⟨congrArg ji_n (by unfold sp_fw; rw [if_pos (by omega)]), hP⟩ hS

set_option maxHeartbeats 4000000 in
set_option maxRecDepth 100000 in
theorem cm_trace (l : Launch) (size_ : Nat) (dC : Nat → ClassId) (dI : Nat → Nat → Nat) (cI : ClassId) (v : Nat → Nat) (th by_ : Int) (nP n : Nat) (f0 f1 f2 g0 g1 g2 sz : Nat → Int32) (K A B z : Nat → Int) (hF : as_F n K A B g0 g1 g2) (hAS : sp_AS n K A B z) (hsz : ∀ j, j < n → sz j = ji_n (z j)) (hby : by_ = sp_pz z n) (x y : Int) (bits : Int32) (r1 : ji_r x) (r2 : ji_r y) : Met l yX3_trace wsX3_trace { frames := 7, cells := 0, slots := 0, locals := 165 } (va_Pc [.ref (v 0), .int (ji_n x), .int bits, .int (ji_n y)] (wr_B (dC, dI) vwCl (wo_M v cI th (nP : Int) (n : Int) by_ f0 f1 f2 g0 g1 g2 sz) size_ (kn_K dC dI cI))) (wr_Qi (fun r H => r = ji_n (sp_tc n K A B z x bits y) ∧ va_P (dC, dI) vwCl (wo_M v cI 0 (nP : Int) (n : Int) by_ f0 f1 f2 g0 g1 g2 sz) H) (va_A (wo_M v cI th (nP : Int) (n : Int) by_ f0 f1 f2 g0 g1 g2 sz) size_)) 0 0 (va_A (wo_M v cI th (nP : Int) (n : Int) by_ f0 f1 f2 g0 g1 g2 sz) size_) := by
  refine st_wi (cc := cX3_trace) (maxL := 8) (ret := some .int) (ty := .int) (by decide) rfl rfl (Nat.le_of_ble_eq_true rfl) (lv := [(0, .ref (v 0)), (1, .int (ji_n x)), (2, .int bits), (3, .int (ji_n y))]) rfl (fun v H h => rfl) ?_
  intro p e s m args below meth c R Q ls A9 hx hb hts hown hml hR hP hD hA hS hN hl hend
  have hK := hN.1
  have hinX3 : ∀ w ∈ u_ws RX3 TX3 11, w ∈ wsX3_trace := fun w h => List.mem_cons_of_mem _ (inX3 w h)
  have hfl31 := (hts _ (List.mem_cons_of_mem _ tm_358))
  have hn := hAS.1
  have hg := hAS.2.1
  have ho := hAS.2.2.1
  have hu := hAS.2.2.2
  have hpn := sp_AS_p hAS (Nat.le_refl n)
  refine lv_aload_n hx hb dX3_trace_0 rfl (lv_at hl 0 rfl) ?_
  refine jn_iconst hx hb dX3_trace_1 ?_
  refine va_put (ci := 3) (C := RX3) (T := TX3) (N := 11) (ty := .int) hx hb hts hinX3 tyX3 tyX3_ok nmX3 hown hK hP hD hS 0 rfl rfl 0 (by decide) hfl31 (fun _ h9 => h9) rfl (by decide +kernel) rfl rfl (Nat.le_of_ble_eq_true rfl) dX3_trace_2 (fun H locs hP hD hS => ?_)
  have hP : va_P (dC, dI) vwCl (wo_M v cI 0 (nP : Int) (n : Int) by_ f0 f1 f2 g0 g1 g2 sz) H := hP
  have hD : va_D A9 (wo_M v cI 0 (nP : Int) (n : Int) by_ f0 f1 f2 g0 g1 g2 sz) := hD
  refine lv_iload_n hx hb dX3_trace_5 rfl (lv_at hl 3 rfl) ?_
  refine jn_if_lt hx hb dX3_trace_6 (tgt := 15) rfl r2 (fun hc1 => ?_) (fun hc1 => ?_)
  · skip
    refine jn_iconst hx hb dX3_trace_15 ?_
    exact hend _ _ _ _ _ dX3_trace_16 ⟨congrArg ji_n (by unfold sp_tc; rw [if_neg (by omega)]), hP⟩ hS
  · skip
    refine lv_iload_n hx hb dX3_trace_9 rfl (lv_at hl 3 rfl) ?_
    refine jn_bipush hx hb dX3_trace_10 (by decide) ?_
    refine jn_icmp_le hx hb dX3_trace_12 (tgt := 17) rfl r2 (by unfold ji_r; omega) (fun hc2 => ?_) (fun hc2 => ?_)
    · skip
      obtain ⟨q, rfl⟩ : ∃ q : Nat, y = (q : Int) := ⟨y.toNat, by omega⟩
      refine lv_iload_n hx hb dX3_trace_17 rfl (lv_at hl 1 rfl) ?_
      refine lv_istore (lv' := [(4, .int (ji_n x)), (0, .ref (v 0)), (1, .int (ji_n x)), (2, .int bits), (3, .int (ji_n (q : Int)))]) hx hb dX3_trace_18 hl (by decide) rfl (fun ls hl => ?_)
      refine jn_iconst hx hb dX3_trace_20 ?_
      refine lv_istore (lv' := [(5, .int (ji_n 0)), (4, .int (ji_n x)), (0, .ref (v 0)), (1, .int (ji_n x)), (2, .int bits), (3, .int (ji_n (q : Int)))]) hx hb dX3_trace_21 hl (by decide) rfl (fun ls hl => ?_)
      have loop3 : ∀ i : Nat, i ≤ q → ∀ (h : Int) (ls : Array Slot), lv_has ls 8 [(5, .int (ji_n (i : Int))), (4, .int (ji_n h)), (0, .ref (v 0)), (1, .int (ji_n x)), (2, .int bits), (3, .int (ji_n (q : Int)))] → (ji_r h ∧ sp_tr n K A B z (fun k => sp_bt bits (k % 32)) (q - i) i h = sp_tr n K A B z (fun k => sp_bt bits (k % 32)) q 0 x) → W p l e R s m args below meth c H locs 0 0 Q (F0 m 23 ls []) := by
        refine lp_up q ?_
        intro i hi_i ih4 h ls hl hq
        refine lv_iload hx hb dX3_trace_23 (lv_at hl 0 rfl) ?_
        refine lv_iload_n hx hb dX3_trace_25 rfl (lv_at hl 5 rfl) ?_
        refine jn_icmp_ge hx hb dX3_trace_26 (tgt := 104) rfl (by unfold ji_r; omega) (by unfold ji_r; omega) (fun hc5 => ?_) (fun hc5 => ?_)
        · skip
          refine lv_iload hx hb dX3_trace_104 (lv_at hl 1 rfl) ?_
          exact hend _ _ _ _ _ dX3_trace_106 ⟨congrArg ji_n (by unfold sp_tc; rw [if_pos (by omega), show ((q : Int)).toNat = q from rfl, ← hq.2]; rw [show q - i = 0 from by omega]; rfl), hP⟩ hS
        · skip
          refine lv_aload_n hx hb dX3_trace_29 rfl (lv_at hl 2 rfl) ?_
          refine lv_iload hx hb dX3_trace_30 (lv_at hl 1 rfl) ?_
          refine cl_rd (va_runV (As := [.int (ji_n h)]) (rest := []) ⟨hx, hb, hml, hown, hts⟩ (cm_length l dC dI cI v 0 by_ nP n f0 f1 f2 g0 g1 g2 sz K A B z hF hAS hsz hby h hq.1) (cwV 1 hts (ub_V tm_470 tm_472 tm_s18 tm_5 tm_473) rfl rfl rfl (by decide +kernel) (by rw [hR]; exact ⟨Nat.le_of_ble_eq_true rfl, Nat.le_of_ble_eq_true rfl⟩)) (pv_rd (q0 := 0) (ci := 3) hN hP rfl rfl) rfl rfl hl.1 rfl (lv_room (Nat.le_of_ble_eq_true rfl)) dX3_trace_32 ⟨Nat.zero_le _, Nat.zero_le _⟩) ?_
          have hob := sp_os_b hAS h
          have hai := sp_ai_or n K A B z h
          refine jn_if_le hx hb dX3_trace_35 (tgt := 104) rfl (by unfold ji_r; omega) (fun hc6 => ?_) (fun hc6 => ?_)
          · skip
            refine lv_iload hx hb dX3_trace_104 (lv_at hl 1 rfl) ?_
            exact hend _ _ _ _ _ dX3_trace_106 ⟨congrArg ji_n (by unfold sp_tc; rw [if_pos (by omega), show ((q : Int)).toNat = q from rfl, ← hq.2]; rw [sp_tr_e _ _ _ _ _ _ _ _ _ (by omega)]), hP⟩ hS
          · skip
            refine lv_aload_n hx hb dX3_trace_38 rfl (lv_at hl 2 rfl) ?_
            refine lv_iload hx hb dX3_trace_39 (lv_at hl 1 rfl) ?_
            refine cl_rd (va_runV (As := [.int (ji_n h)]) (rest := []) ⟨hx, hb, hml, hown, hts⟩ (cm_byteAt l dC dI cI v 0 by_ nP n f0 f1 f2 g0 g1 g2 sz K A B z hF hAS hsz h (by omega) (by omega)) (cwV 1 hts (ub_V tm_442 tm_444 tm_s16 tm_5 tm_445) rfl rfl rfl (by decide +kernel) (by rw [hR]; exact ⟨Nat.le_of_ble_eq_true rfl, Nat.le_of_ble_eq_true rfl⟩)) (pv_rd (q0 := 0) (ci := 3) hN hP rfl rfl) rfl rfl hl.1 rfl (lv_room (Nat.le_of_ble_eq_true rfl)) dX3_trace_41 ⟨Nat.zero_le _, Nat.zero_le _⟩) ?_
            have hbb := sp_ba_b hAS h
            refine lv_istore (lv' := [(6, .int (ji_n (sp_ba n K A B z h))), (5, .int (ji_n (i : Int))), (4, .int (ji_n h)), (0, .ref (v 0)), (1, .int (ji_n x)), (2, .int bits), (3, .int (ji_n (q : Int)))]) hx hb dX3_trace_44 hl (by decide) rfl (fun ls hl => ?_)
            refine lv_iload hx hb dX3_trace_46 (lv_at hl 0 rfl) ?_
            refine jn_bipush hx hb dX3_trace_48 (by decide) ?_
            refine jn_icmp_eq hx hb dX3_trace_50 (tgt := 60) rfl (by unfold ji_r; omega) (by unfold ji_r; omega) (fun hc7 => ?_) (fun hc7 => ?_)
            · skip
              refine jn_iconst hx hb dX3_trace_60 ?_
              refine lv_goto hx hb dX3_trace_61 (tgt := 65) rfl ?_
              refine lv_istore (lv' := [(7, .int (ji_n 1)), (6, .int (ji_n (sp_ba n K A B z h))), (5, .int (ji_n (i : Int))), (4, .int (ji_n h)), (0, .ref (v 0)), (1, .int (ji_n x)), (2, .int bits), (3, .int (ji_n (q : Int)))]) hx hb dX3_trace_65 hl (by decide) rfl (fun ls hl => ?_)
              refine lv_aload_n hx hb dX3_trace_67 rfl (lv_at hl 4 rfl) ?_
              refine lv_iload hx hb dX3_trace_68 (lv_at hl 3 rfl) ?_
              refine lv_iload hx hb dX3_trace_70 (lv_at hl 0 rfl) ?_
              refine jn_if_ne hx hb dX3_trace_72 (tgt := 88) rfl (by unfold ji_r; omega) (fun hc8 => ?_) (fun hc8 => ?_)
              · skip
                refine jn_iconst hx hb dX3_trace_88 ?_
                refine lv_goto hx hb dX3_trace_89 (tgt := 93) rfl ?_
                have hfl := sp_fl_or (sp_bt bits (i % 32)) (sp_ai n K A B z h)
                refine jn_top (v := sp_fl (sp_bt bits (i % 32)) (sp_ai n K A B z h)) (congrArg ji_n (by omega)) ?_
                have hnr := sp_nx_r hAS (k := h) (by omega) (sp_fl (sp_bt bits (i % 32)) (sp_ai n K A B z h))
                refine cl_rd (va_runV (As := [.int (ji_n h), .int (ji_n (sp_fl (sp_bt bits (i % 32)) (sp_ai n K A B z h)))]) (rest := []) ⟨hx, hb, hml, hown, hts⟩ (cm_next l dC dI cI v 0 by_ nP n f0 f1 f2 g0 g1 g2 sz K A B z hF hAS hsz hby h (sp_fl (sp_bt bits (i % 32)) (sp_ai n K A B z h)) (by omega) (by omega)) (cwV 2 hts (ub_V tm_474 tm_476 tm_s19 tm_5 tm_477) rfl rfl rfl (by decide +kernel) (by rw [hR]; exact ⟨Nat.le_of_ble_eq_true rfl, Nat.le_of_ble_eq_true rfl⟩)) (pv_rd (q0 := 0) (ci := 3) hN hP rfl rfl) rfl rfl hl.1 rfl (lv_room (Nat.le_of_ble_eq_true rfl)) dX3_trace_93 ⟨Nat.zero_le _, Nat.zero_le _⟩) ?_
                refine lv_istore (lv' := [(4, .int (ji_n (sp_nx n K A B z h (sp_fl (sp_bt bits (i % 32)) (sp_ai n K A B z h))))), (7, .int (ji_n 1)), (6, .int (ji_n (sp_ba n K A B z h))), (5, .int (ji_n (i : Int))), (0, .ref (v 0)), (1, .int (ji_n x)), (2, .int bits), (3, .int (ji_n (q : Int)))]) hx hb dX3_trace_96 hl (by decide) rfl (fun ls hl => ?_)
                refine jn_iinc (lv' := [(5, .int (ji_n ((i : Int) + 1))), (4, .int (ji_n (sp_nx n K A B z h (sp_fl (sp_bt bits (i % 32)) (sp_ai n K A B z h))))), (7, .int (ji_n 1)), (6, .int (ji_n (sp_ba n K A B z h))), (0, .ref (v 0)), (1, .int (ji_n x)), (2, .int bits), (3, .int (ji_n (q : Int)))]) (k := 3) (v := (i : Int) + 1) hx hb dX3_trace_98 hl rfl rfl (by decide) rfl (fun ls hl => ?_)
                refine lv_goto hx hb dX3_trace_101 (tgt := 23) rfl ?_
                have hl : lv_has ls 8 [(5, .int (ji_n ((i + 1 : Nat) : Int))), (4, .int (ji_n (sp_nx n K A B z h (sp_fl (sp_bt bits (i % 32)) (sp_ai n K A B z h))))), (0, .ref (v 0)), (1, .int (ji_n x)), (2, .int bits), (3, .int (ji_n (q : Int)))] := by
                  have hl2 := lv_sub hl (l' := [(5, .int (ji_n ((i : Int) + 1))), (4, .int (ji_n (sp_nx n K A B z h (sp_fl (sp_bt bits (i % 32)) (sp_ai n K A B z h))))), (0, .ref (v 0)), (1, .int (ji_n x)), (2, .int bits), (3, .int (ji_n (q : Int)))]) [0, 1, 4, 5, 6, 7] rfl
                  rw [show (ji_n ((i : Int) + 1)) = (ji_n ((i + 1 : Nat) : Int)) from (congrArg ji_n (by omega))] at hl2
                  exact hl2
                exact ih4 (by omega) (sp_nx n K A B z h (sp_fl (sp_bt bits (i % 32)) (sp_ai n K A B z h))) ls hl ⟨by unfold ji_r; omega, by rw [← hq.2, show q - i = (q - (i + 1)) + 1 from by omega, sp_tr_n (by omega)]⟩
              · skip
                exfalso; omega
            · skip
              refine lv_iload hx hb dX3_trace_53 (lv_at hl 0 rfl) ?_
              refine jn_bipush hx hb dX3_trace_55 (by decide) ?_
              refine jn_icmp_ne hx hb dX3_trace_57 (tgt := 64) rfl (by unfold ji_r; omega) (by unfold ji_r; omega) (fun hc9 => ?_) (fun hc9 => ?_)
              · skip
                refine jn_iconst hx hb dX3_trace_64 ?_
                refine lv_istore (lv' := [(7, .int (ji_n 0)), (6, .int (ji_n (sp_ba n K A B z h))), (5, .int (ji_n (i : Int))), (4, .int (ji_n h)), (0, .ref (v 0)), (1, .int (ji_n x)), (2, .int bits), (3, .int (ji_n (q : Int)))]) hx hb dX3_trace_65 hl (by decide) rfl (fun ls hl => ?_)
                refine lv_aload_n hx hb dX3_trace_67 rfl (lv_at hl 4 rfl) ?_
                refine lv_iload hx hb dX3_trace_68 (lv_at hl 3 rfl) ?_
                refine lv_iload hx hb dX3_trace_70 (lv_at hl 0 rfl) ?_
                refine jn_if_ne hx hb dX3_trace_72 (tgt := 88) rfl (by unfold ji_r; omega) (fun hc10 => ?_) (fun hc10 => ?_)
                · skip
                  exfalso; omega
                · skip
                  refine lv_iload_n hx hb dX3_trace_75 rfl (lv_at hl 6 rfl) ?_
                  refine lv_iload hx hb dX3_trace_76 (lv_at hl 2 rfl) ?_
                  refine jn_bipush hx hb dX3_trace_78 (by decide) ?_
                  refine jn_rem32 (x := i) hx hb dX3_trace_80 (by omega) ?_
                  refine lv_ishr hx hb dX3_trace_81 ?_
                  refine jn_iconst hx hb dX3_trace_82 ?_
                  refine jn_sbit (x := bits) (j := i % 32) hx hb (by omega) dX3_trace_83 ?_
                  have hbt := sp_bt_or bits (i % 32)
                  refine jn_iconst hx hb dX3_trace_84 ?_
                  refine jn_icmp_ne hx hb dX3_trace_85 (tgt := 92) rfl (by unfold ji_r; omega) (by unfold ji_r; omega) (fun hc11 => ?_) (fun hc11 => ?_)
                  · skip
                    refine jn_iconst hx hb dX3_trace_92 ?_
                    have hfl := sp_fl_or (sp_bt bits (i % 32)) (sp_ai n K A B z h)
                    refine jn_top (v := sp_fl (sp_bt bits (i % 32)) (sp_ai n K A B z h)) (congrArg ji_n (by omega)) ?_
                    have hnr := sp_nx_r hAS (k := h) (by omega) (sp_fl (sp_bt bits (i % 32)) (sp_ai n K A B z h))
                    refine cl_rd (va_runV (As := [.int (ji_n h), .int (ji_n (sp_fl (sp_bt bits (i % 32)) (sp_ai n K A B z h)))]) (rest := []) ⟨hx, hb, hml, hown, hts⟩ (cm_next l dC dI cI v 0 by_ nP n f0 f1 f2 g0 g1 g2 sz K A B z hF hAS hsz hby h (sp_fl (sp_bt bits (i % 32)) (sp_ai n K A B z h)) (by omega) (by omega)) (cwV 2 hts (ub_V tm_474 tm_476 tm_s19 tm_5 tm_477) rfl rfl rfl (by decide +kernel) (by rw [hR]; exact ⟨Nat.le_of_ble_eq_true rfl, Nat.le_of_ble_eq_true rfl⟩)) (pv_rd (q0 := 0) (ci := 3) hN hP rfl rfl) rfl rfl hl.1 rfl (lv_room (Nat.le_of_ble_eq_true rfl)) dX3_trace_93 ⟨Nat.zero_le _, Nat.zero_le _⟩) ?_
                    refine lv_istore (lv' := [(4, .int (ji_n (sp_nx n K A B z h (sp_fl (sp_bt bits (i % 32)) (sp_ai n K A B z h))))), (7, .int (ji_n 0)), (6, .int (ji_n (sp_ba n K A B z h))), (5, .int (ji_n (i : Int))), (0, .ref (v 0)), (1, .int (ji_n x)), (2, .int bits), (3, .int (ji_n (q : Int)))]) hx hb dX3_trace_96 hl (by decide) rfl (fun ls hl => ?_)
                    refine jn_iinc (lv' := [(5, .int (ji_n ((i : Int) + 1))), (4, .int (ji_n (sp_nx n K A B z h (sp_fl (sp_bt bits (i % 32)) (sp_ai n K A B z h))))), (7, .int (ji_n 0)), (6, .int (ji_n (sp_ba n K A B z h))), (0, .ref (v 0)), (1, .int (ji_n x)), (2, .int bits), (3, .int (ji_n (q : Int)))]) (k := 3) (v := (i : Int) + 1) hx hb dX3_trace_98 hl rfl rfl (by decide) rfl (fun ls hl => ?_)
                    refine lv_goto hx hb dX3_trace_101 (tgt := 23) rfl ?_
                    have hl : lv_has ls 8 [(5, .int (ji_n ((i + 1 : Nat) : Int))), (4, .int (ji_n (sp_nx n K A B z h (sp_fl (sp_bt bits (i % 32)) (sp_ai n K A B z h))))), (0, .ref (v 0)), (1, .int (ji_n x)), (2, .int bits), (3, .int (ji_n (q : Int)))] := by
                      have hl2 := lv_sub hl (l' := [(5, .int (ji_n ((i : Int) + 1))), (4, .int (ji_n (sp_nx n K A B z h (sp_fl (sp_bt bits (i % 32)) (sp_ai n K A B z h))))), (0, .ref (v 0)), (1, .int (ji_n x)), (2, .int bits), (3, .int (ji_n (q : Int)))]) [0, 1, 4, 5, 6, 7] rfl
                      rw [show (ji_n ((i : Int) + 1)) = (ji_n ((i + 1 : Nat) : Int)) from (congrArg ji_n (by omega))] at hl2
                      exact hl2
                    exact ih4 (by omega) (sp_nx n K A B z h (sp_fl (sp_bt bits (i % 32)) (sp_ai n K A B z h))) ls hl ⟨by unfold ji_r; omega, by rw [← hq.2, show q - i = (q - (i + 1)) + 1 from by omega, sp_tr_n (by omega)]⟩
                  · skip
                    refine jn_iconst hx hb dX3_trace_88 ?_
                    refine lv_goto hx hb dX3_trace_89 (tgt := 93) rfl ?_
                    have hfl := sp_fl_or (sp_bt bits (i % 32)) (sp_ai n K A B z h)
                    refine jn_top (v := sp_fl (sp_bt bits (i % 32)) (sp_ai n K A B z h)) (congrArg ji_n (by omega)) ?_
                    have hnr := sp_nx_r hAS (k := h) (by omega) (sp_fl (sp_bt bits (i % 32)) (sp_ai n K A B z h))
                    refine cl_rd (va_runV (As := [.int (ji_n h), .int (ji_n (sp_fl (sp_bt bits (i % 32)) (sp_ai n K A B z h)))]) (rest := []) ⟨hx, hb, hml, hown, hts⟩ (cm_next l dC dI cI v 0 by_ nP n f0 f1 f2 g0 g1 g2 sz K A B z hF hAS hsz hby h (sp_fl (sp_bt bits (i % 32)) (sp_ai n K A B z h)) (by omega) (by omega)) (cwV 2 hts (ub_V tm_474 tm_476 tm_s19 tm_5 tm_477) rfl rfl rfl (by decide +kernel) (by rw [hR]; exact ⟨Nat.le_of_ble_eq_true rfl, Nat.le_of_ble_eq_true rfl⟩)) (pv_rd (q0 := 0) (ci := 3) hN hP rfl rfl) rfl rfl hl.1 rfl (lv_room (Nat.le_of_ble_eq_true rfl)) dX3_trace_93 ⟨Nat.zero_le _, Nat.zero_le _⟩) ?_
                    refine lv_istore (lv' := [(4, .int (ji_n (sp_nx n K A B z h (sp_fl (sp_bt bits (i % 32)) (sp_ai n K A B z h))))), (7, .int (ji_n 0)), (6, .int (ji_n (sp_ba n K A B z h))), (5, .int (ji_n (i : Int))), (0, .ref (v 0)), (1, .int (ji_n x)), (2, .int bits), (3, .int (ji_n (q : Int)))]) hx hb dX3_trace_96 hl (by decide) rfl (fun ls hl => ?_)
                    refine jn_iinc (lv' := [(5, .int (ji_n ((i : Int) + 1))), (4, .int (ji_n (sp_nx n K A B z h (sp_fl (sp_bt bits (i % 32)) (sp_ai n K A B z h))))), (7, .int (ji_n 0)), (6, .int (ji_n (sp_ba n K A B z h))), (0, .ref (v 0)), (1, .int (ji_n x)), (2, .int bits), (3, .int (ji_n (q : Int)))]) (k := 3) (v := (i : Int) + 1) hx hb dX3_trace_98 hl rfl rfl (by decide) rfl (fun ls hl => ?_)
                    refine lv_goto hx hb dX3_trace_101 (tgt := 23) rfl ?_
                    have hl : lv_has ls 8 [(5, .int (ji_n ((i + 1 : Nat) : Int))), (4, .int (ji_n (sp_nx n K A B z h (sp_fl (sp_bt bits (i % 32)) (sp_ai n K A B z h))))), (0, .ref (v 0)), (1, .int (ji_n x)), (2, .int bits), (3, .int (ji_n (q : Int)))] := by
                      have hl2 := lv_sub hl (l' := [(5, .int (ji_n ((i : Int) + 1))), (4, .int (ji_n (sp_nx n K A B z h (sp_fl (sp_bt bits (i % 32)) (sp_ai n K A B z h))))), (0, .ref (v 0)), (1, .int (ji_n x)), (2, .int bits), (3, .int (ji_n (q : Int)))]) [0, 1, 4, 5, 6, 7] rfl
                      rw [show (ji_n ((i : Int) + 1)) = (ji_n ((i + 1 : Nat) : Int)) from (congrArg ji_n (by omega))] at hl2
                      exact hl2
                    exact ih4 (by omega) (sp_nx n K A B z h (sp_fl (sp_bt bits (i % 32)) (sp_ai n K A B z h))) ls hl ⟨by unfold ji_r; omega, by rw [← hq.2, show q - i = (q - (i + 1)) + 1 from by omega, sp_tr_n (by omega)]⟩
              · skip
                refine jn_iconst hx hb dX3_trace_60 ?_
                refine lv_goto hx hb dX3_trace_61 (tgt := 65) rfl ?_
                refine lv_istore (lv' := [(7, .int (ji_n 1)), (6, .int (ji_n (sp_ba n K A B z h))), (5, .int (ji_n (i : Int))), (4, .int (ji_n h)), (0, .ref (v 0)), (1, .int (ji_n x)), (2, .int bits), (3, .int (ji_n (q : Int)))]) hx hb dX3_trace_65 hl (by decide) rfl (fun ls hl => ?_)
                refine lv_aload_n hx hb dX3_trace_67 rfl (lv_at hl 4 rfl) ?_
                refine lv_iload hx hb dX3_trace_68 (lv_at hl 3 rfl) ?_
                refine lv_iload hx hb dX3_trace_70 (lv_at hl 0 rfl) ?_
                refine jn_if_ne hx hb dX3_trace_72 (tgt := 88) rfl (by unfold ji_r; omega) (fun hc12 => ?_) (fun hc12 => ?_)
                · skip
                  refine jn_iconst hx hb dX3_trace_88 ?_
                  refine lv_goto hx hb dX3_trace_89 (tgt := 93) rfl ?_
                  have hfl := sp_fl_or (sp_bt bits (i % 32)) (sp_ai n K A B z h)
                  refine jn_top (v := sp_fl (sp_bt bits (i % 32)) (sp_ai n K A B z h)) (congrArg ji_n (by omega)) ?_
                  have hnr := sp_nx_r hAS (k := h) (by omega) (sp_fl (sp_bt bits (i % 32)) (sp_ai n K A B z h))
                  refine cl_rd (va_runV (As := [.int (ji_n h), .int (ji_n (sp_fl (sp_bt bits (i % 32)) (sp_ai n K A B z h)))]) (rest := []) ⟨hx, hb, hml, hown, hts⟩ (cm_next l dC dI cI v 0 by_ nP n f0 f1 f2 g0 g1 g2 sz K A B z hF hAS hsz hby h (sp_fl (sp_bt bits (i % 32)) (sp_ai n K A B z h)) (by omega) (by omega)) (cwV 2 hts (ub_V tm_474 tm_476 tm_s19 tm_5 tm_477) rfl rfl rfl (by decide +kernel) (by rw [hR]; exact ⟨Nat.le_of_ble_eq_true rfl, Nat.le_of_ble_eq_true rfl⟩)) (pv_rd (q0 := 0) (ci := 3) hN hP rfl rfl) rfl rfl hl.1 rfl (lv_room (Nat.le_of_ble_eq_true rfl)) dX3_trace_93 ⟨Nat.zero_le _, Nat.zero_le _⟩) ?_
                  refine lv_istore (lv' := [(4, .int (ji_n (sp_nx n K A B z h (sp_fl (sp_bt bits (i % 32)) (sp_ai n K A B z h))))), (7, .int (ji_n 1)), (6, .int (ji_n (sp_ba n K A B z h))), (5, .int (ji_n (i : Int))), (0, .ref (v 0)), (1, .int (ji_n x)), (2, .int bits), (3, .int (ji_n (q : Int)))]) hx hb dX3_trace_96 hl (by decide) rfl (fun ls hl => ?_)
                  refine jn_iinc (lv' := [(5, .int (ji_n ((i : Int) + 1))), (4, .int (ji_n (sp_nx n K A B z h (sp_fl (sp_bt bits (i % 32)) (sp_ai n K A B z h))))), (7, .int (ji_n 1)), (6, .int (ji_n (sp_ba n K A B z h))), (0, .ref (v 0)), (1, .int (ji_n x)), (2, .int bits), (3, .int (ji_n (q : Int)))]) (k := 3) (v := (i : Int) + 1) hx hb dX3_trace_98 hl rfl rfl (by decide) rfl (fun ls hl => ?_)
                  refine lv_goto hx hb dX3_trace_101 (tgt := 23) rfl ?_
                  have hl : lv_has ls 8 [(5, .int (ji_n ((i + 1 : Nat) : Int))), (4, .int (ji_n (sp_nx n K A B z h (sp_fl (sp_bt bits (i % 32)) (sp_ai n K A B z h))))), (0, .ref (v 0)), (1, .int (ji_n x)), (2, .int bits), (3, .int (ji_n (q : Int)))] := by
                    have hl2 := lv_sub hl (l' := [(5, .int (ji_n ((i : Int) + 1))), (4, .int (ji_n (sp_nx n K A B z h (sp_fl (sp_bt bits (i % 32)) (sp_ai n K A B z h))))), (0, .ref (v 0)), (1, .int (ji_n x)), (2, .int bits), (3, .int (ji_n (q : Int)))]) [0, 1, 4, 5, 6, 7] rfl
                    rw [show (ji_n ((i : Int) + 1)) = (ji_n ((i + 1 : Nat) : Int)) from (congrArg ji_n (by omega))] at hl2
                    exact hl2
                  exact ih4 (by omega) (sp_nx n K A B z h (sp_fl (sp_bt bits (i % 32)) (sp_ai n K A B z h))) ls hl ⟨by unfold ji_r; omega, by rw [← hq.2, show q - i = (q - (i + 1)) + 1 from by omega, sp_tr_n (by omega)]⟩
                · skip
                  exfalso; omega
      have hl : lv_has ls 8 [(5, .int (ji_n ((0 : Nat) : Int))), (4, .int (ji_n x)), (0, .ref (v 0)), (1, .int (ji_n x)), (2, .int bits), (3, .int (ji_n (q : Int)))] := lv_sub hl [0, 1, 2, 3, 4, 5] rfl
      exact loop3 0 (by omega) x ls hl ⟨r1, rfl⟩
    · skip
      refine jn_iconst hx hb dX3_trace_15 ?_
      exact hend _ _ _ _ _ dX3_trace_16 ⟨congrArg ji_n (by unfold sp_tc; rw [if_neg (by omega)]), hP⟩ hS

set_option maxHeartbeats 4000000 in
set_option maxRecDepth 100000 in
theorem cm_insert (l : Launch) (size_ : Nat) (dC : Nat → ClassId) (dI : Nat → Nat → Nat) (cI : ClassId) (v : Nat → Nat) (th by_ : Int) (nP n : Nat) (f0 f1 f2 g0 g1 g2 sz : Nat → Int32) (K A B : Nat → Int) (hn : nP ≤ 50) (hF : as_F nP K A B f0 f1 f2) (y k a b : Int) (r1 : ji_r y) (r2 : ji_r k) (r3 : ji_r a) (r4 : ji_r b) : Met l yX3_insert wsX3_insert { frames := 2, cells := 0, slots := 0, locals := 44 } (va_Pc [.ref (v 0), .int (ji_n y), .int (ji_n k), .int (ji_n a), .int (ji_n b)] (wr_B (dC, dI) vwCl (wo_M v cI th (nP : Int) (n : Int) by_ f0 f1 f2 g0 g1 g2 sz) size_ (kn_K dC dI cI))) (wr_Qi (fun r H => (r = ji_n 1 ∧ sp_gd k a b ∧ nP < 50 ∧ ∃ i : Nat, y = (i : Int) ∧ i ≤ nP ∧ ∃ q0 q1 q2 : Nat → Int32, va_P (dC, dI) vwCl (wo_M v cI 0 ((nP + 1 : Nat) : Int) (n : Int) by_ q0 q1 q2 g0 g1 g2 sz) H ∧ as_F (nP + 1) (sp_in K i k) (sp_in A i a) (sp_in B i b) q0 q1 q2) ∨ (r = ji_n 0 ∧ ¬ (sp_gd k a b ∧ nP < 50 ∧ 0 ≤ y ∧ y ≤ (nP : Int)) ∧ va_P (dC, dI) vwCl (wo_M v cI 0 (nP : Int) (n : Int) by_ f0 f1 f2 g0 g1 g2 sz) H)) (va_A (wo_M v cI th (nP : Int) (n : Int) by_ f0 f1 f2 g0 g1 g2 sz) size_)) 0 0 (va_A (wo_M v cI th (nP : Int) (n : Int) by_ f0 f1 f2 g0 g1 g2 sz) size_) := by
  refine st_wi (cc := cX3_insert) (maxL := 6) (ret := some .boolean) (ty := .boolean) (by decide) rfl rfl (Nat.le_of_ble_eq_true rfl) (lv := [(0, .ref (v 0)), (1, .int (ji_n y)), (2, .int (ji_n k)), (3, .int (ji_n a)), (4, .int (ji_n b))]) rfl (fun v H h => by rcases h with ⟨h, -⟩ | ⟨h, -⟩ <;> rw [h] <;> rfl) ?_
  intro p e s m args below meth c R Q ls A9 hx hb hts hown hml hR hP hD hA hS hN hl hend
  have hK := hN.1
  have hinX3 : ∀ w ∈ u_ws RX3 TX3 11, w ∈ wsX3_insert := fun w h => List.mem_cons_of_mem _ (inX3 w h)
  have hfl39 := (hts _ (List.mem_cons_of_mem _ tm_359))
  have hfl7 := (hts _ (List.mem_cons_of_mem _ tm_360))
  have hfl13 := (hts _ (List.mem_cons_of_mem _ tm_361))
  have hfl16 := (hts _ (List.mem_cons_of_mem _ tm_362))
  have hfl31 := (hts _ (List.mem_cons_of_mem _ tm_358))
  refine lv_aload_n hx hb dX3_insert_0 rfl (lv_at hl 0 rfl) ?_
  refine jn_iconst hx hb dX3_insert_1 ?_
  refine va_put (ci := 3) (C := RX3) (T := TX3) (N := 11) (ty := .int) hx hb hts hinX3 tyX3 tyX3_ok nmX3 hown hK hP hD hS 0 rfl rfl 0 (by decide) hfl31 (fun _ h9 => h9) rfl (by decide +kernel) rfl rfl (Nat.le_of_ble_eq_true rfl) dX3_insert_2 (fun H locs hP hD hS => ?_)
  have hP : va_P (dC, dI) vwCl (wo_M v cI 0 (nP : Int) (n : Int) by_ f0 f1 f2 g0 g1 g2 sz) H := hP
  have hD : va_D A9 (wo_M v cI 0 (nP : Int) (n : Int) by_ f0 f1 f2 g0 g1 g2 sz) := hD
  refine lv_aload_n hx hb dX3_insert_5 rfl (lv_at hl 0 rfl) ?_
  refine va_get (ci := 3) (C := RX3) (T := TX3) (N := 11) hx hb hts hinX3 hown hK hP 0 rfl rfl 1 (by decide) hfl39 (fun _ h9 => h9) rfl dX3_insert_6 ?_
  refine jn_bipush hx hb dX3_insert_9 (by decide) ?_
  refine jn_icmp_eq hx hb dX3_insert_11 (tgt := 36) rfl (by unfold ji_r; omega) (by unfold ji_r; omega) (fun hc1 => ?_) (fun hc1 => ?_)
  · skip
    refine jn_iconst hx hb dX3_insert_36 ?_
    exact hend _ _ _ _ _ dX3_insert_37 (Or.inr ⟨rfl, by rintro ⟨-, q⟩; omega, hP⟩) hS
  · skip
    refine lv_iload_n hx hb dX3_insert_14 rfl (lv_at hl 1 rfl) ?_
    refine jn_if_lt hx hb dX3_insert_15 (tgt := 36) rfl r1 (fun hc2 => ?_) (fun hc2 => ?_)
    · skip
      refine jn_iconst hx hb dX3_insert_36 ?_
      exact hend _ _ _ _ _ dX3_insert_37 (Or.inr ⟨rfl, by rintro ⟨-, q⟩; omega, hP⟩) hS
    · skip
      refine lv_iload_n hx hb dX3_insert_18 rfl (lv_at hl 1 rfl) ?_
      refine lv_aload_n hx hb dX3_insert_19 rfl (lv_at hl 0 rfl) ?_
      refine va_get (ci := 3) (C := RX3) (T := TX3) (N := 11) hx hb hts hinX3 hown hK hP 0 rfl rfl 1 (by decide) hfl39 (fun _ h9 => h9) rfl dX3_insert_20 ?_
      refine jn_icmp_gt hx hb dX3_insert_23 (tgt := 36) rfl r1 (by unfold ji_r; omega) (fun hc3 => ?_) (fun hc3 => ?_)
      · skip
        refine jn_iconst hx hb dX3_insert_36 ?_
        exact hend _ _ _ _ _ dX3_insert_37 (Or.inr ⟨rfl, by rintro ⟨-, q⟩; omega, hP⟩) hS
      · skip
        refine lv_iload_n hx hb dX3_insert_26 rfl (lv_at hl 2 rfl) ?_
        refine lv_iload_n hx hb dX3_insert_27 rfl (lv_at hl 3 rfl) ?_
        refine lv_iload hx hb dX3_insert_28 (lv_at hl 4 rfl) ?_
        refine cl_rd (va_runS (As := [.int (ji_n k), .int (ji_n a), .int (ji_n b)]) (rest := []) ⟨hx, hb, hml, hown, hts⟩ (cm_good l k a b r2 r3 r4) (va_cwS 3 hts (ub_S tm_400 tm_401 tm_5 tm_402) rfl rfl rfl (by decide +kernel) (by rw [hR]; exact ⟨Nat.le_of_ble_eq_true rfl, Nat.le_of_ble_eq_true rfl⟩)) ⟨fun _ _ _ _ q => q, fun U _ _ => ⟨rfl, trivial⟩⟩ rfl rfl hl.1 rfl (lv_room (Nat.le_of_ble_eq_true rfl)) dX3_insert_30 ⟨Nat.zero_le _, Nat.zero_le _⟩) ?_
        have hgl := sp_gl_or k a b
        refine jn_if_ne hx hb dX3_insert_33 (tgt := 38) rfl (by unfold ji_r; omega) (fun hc4 => ?_) (fun hc4 => ?_)
        · skip
          obtain ⟨i0, rfl⟩ : ∃ i0 : Nat, y = (i0 : Int) := ⟨y.toNat, by omega⟩
          refine lv_aload_n hx hb dX3_insert_38 rfl (lv_at hl 0 rfl) ?_
          refine va_get (ci := 3) (C := RX3) (T := TX3) (N := 11) hx hb hts hinX3 hown hK hP 0 rfl rfl 1 (by decide) hfl39 (fun _ h9 => h9) rfl dX3_insert_39 ?_
          refine lv_istore (lv' := [(5, .int (ji_n (nP : Int))), (0, .ref (v 0)), (1, .int (ji_n (i0 : Int))), (2, .int (ji_n k)), (3, .int (ji_n a)), (4, .int (ji_n b))]) hx hb dX3_insert_42 hl (by decide) rfl (fun ls hl => ?_)
          have loop5 : ∀ i : Nat, i ≤ nP → ∀ (ls : Array Slot), lv_has ls 6 [(5, .int (ji_n ((nP - i : Nat) : Int))), (0, .ref (v 0)), (1, .int (ji_n (i0 : Int))), (2, .int (ji_n k)), (3, .int (ji_n a)), (4, .int (ji_n b))] → ∀ (H : Heap) (locs : List Loc) (f0_ : Nat → Int32) (f1_ : Nat → Int32) (f2_ : Nat → Int32), va_P (dC, dI) vwCl (wo_M v cI 0 (nP : Int) (n : Int) by_ f0_ f1_ f2_ g0 g1 g2 sz) H → va_D A9 (wo_M v cI 0 (nP : Int) (n : Int) by_ f0_ f1_ f2_ g0 g1 g2 sz) → va_S A9 s.heap H locs → (∀ j, j ≤ nP → j ≠ nP - i → f0_ j = ji_n (sp_in K (nP - i) 0 j)) → (∀ j, j ≤ nP → j ≠ nP - i → f1_ j = ji_n (sp_in A (nP - i) 0 j)) → (∀ j, j ≤ nP → j ≠ nP - i → f2_ j = ji_n (sp_in B (nP - i) 0 j)) → i0 ≤ nP - i → W p l e R s m args below meth c H locs 0 0 Q (F0 m 44 ls []) := by
            refine lp_up nP ?_
            intro i hi_i ih6 ls hl H locs f0_ f1_ f2_ hP hD hS hq0 hq1 hq2 hi0
            refine lv_iload hx hb dX3_insert_44 (lv_at hl 0 rfl) ?_
            refine lv_iload_n hx hb dX3_insert_46 rfl (lv_at hl 2 rfl) ?_
            refine jn_icmp_le hx hb dX3_insert_47 (tgt := 104) rfl (by unfold ji_r; omega) (by unfold ji_r; omega) (fun hc7 => ?_) (fun hc7 => ?_)
            · skip
              have he : nP - i = i0 := by omega
              rw [he] at hq0 hq1 hq2
              refine lv_aload_n hx hb dX3_insert_104 rfl (lv_at hl 1 rfl) ?_
              refine va_get (ci := 3) (C := RX3) (T := TX3) (N := 11) hx hb hts hinX3 hown hK hP 0 rfl rfl 2 (by decide) hfl7 (fun _ h9 => h9) rfl dX3_insert_105 ?_
              refine lv_iload_n hx hb dX3_insert_108 rfl (lv_at hl 2 rfl) ?_
              refine lv_iload_n hx hb dX3_insert_109 rfl (lv_at hl 3 rfl) ?_
              refine jn_iast hx hb hK hP hD hS 1 0 rfl rfl i0 (by omega) (by omega) (by decide) dX3_insert_110 (fun H locs hP hD hS => ?_)
              have hP : va_P (dC, dI) vwCl (wo_M v cI 0 (nP : Int) (n : Int) by_ (upd f0_ i0 (ji_n k)) f1_ f2_ g0 g1 g2 sz) H := hP
              have hD : va_D A9 (wo_M v cI 0 (nP : Int) (n : Int) by_ (upd f0_ i0 (ji_n k)) f1_ f2_ g0 g1 g2 sz) := hD
              refine lv_aload_n hx hb dX3_insert_111 rfl (lv_at hl 1 rfl) ?_
              refine va_get (ci := 3) (C := RX3) (T := TX3) (N := 11) hx hb hts hinX3 hown hK hP 0 rfl rfl 3 (by decide) hfl13 (fun _ h9 => h9) rfl dX3_insert_112 ?_
              refine lv_iload_n hx hb dX3_insert_115 rfl (lv_at hl 2 rfl) ?_
              refine lv_iload_n hx hb dX3_insert_116 rfl (lv_at hl 4 rfl) ?_
              refine jn_iast hx hb hK hP hD hS 2 0 rfl rfl i0 (by omega) (by omega) (by decide) dX3_insert_117 (fun H locs hP hD hS => ?_)
              have hP : va_P (dC, dI) vwCl (wo_M v cI 0 (nP : Int) (n : Int) by_ (upd f0_ i0 (ji_n k)) (upd f1_ i0 (ji_n a)) f2_ g0 g1 g2 sz) H := hP
              have hD : va_D A9 (wo_M v cI 0 (nP : Int) (n : Int) by_ (upd f0_ i0 (ji_n k)) (upd f1_ i0 (ji_n a)) f2_ g0 g1 g2 sz) := hD
              refine lv_aload_n hx hb dX3_insert_118 rfl (lv_at hl 1 rfl) ?_
              refine va_get (ci := 3) (C := RX3) (T := TX3) (N := 11) hx hb hts hinX3 hown hK hP 0 rfl rfl 4 (by decide) hfl16 (fun _ h9 => h9) rfl dX3_insert_119 ?_
              refine lv_iload_n hx hb dX3_insert_122 rfl (lv_at hl 2 rfl) ?_
              refine lv_iload hx hb dX3_insert_123 (lv_at hl 5 rfl) ?_
              refine jn_iast hx hb hK hP hD hS 3 0 rfl rfl i0 (by omega) (by omega) (by decide) dX3_insert_125 (fun H locs hP hD hS => ?_)
              have hP : va_P (dC, dI) vwCl (wo_M v cI 0 (nP : Int) (n : Int) by_ (upd f0_ i0 (ji_n k)) (upd f1_ i0 (ji_n a)) (upd f2_ i0 (ji_n b)) g0 g1 g2 sz) H := hP
              have hD : va_D A9 (wo_M v cI 0 (nP : Int) (n : Int) by_ (upd f0_ i0 (ji_n k)) (upd f1_ i0 (ji_n a)) (upd f2_ i0 (ji_n b)) g0 g1 g2 sz) := hD
              refine lv_aload_n hx hb dX3_insert_126 rfl (lv_at hl 1 rfl) ?_
              refine lv_dup hx hb dX3_insert_127 rfl ?_
              refine va_get (ci := 3) (C := RX3) (T := TX3) (N := 11) hx hb hts hinX3 hown hK hP 0 rfl rfl 1 (by decide) hfl39 (fun _ h9 => h9) rfl dX3_insert_128 ?_
              refine jn_iconst hx hb dX3_insert_131 ?_
              refine jn_iadd hx hb dX3_insert_132 (v := (nP : Int) + 1) rfl ?_
              refine jn_top (v := ((nP + 1 : Nat) : Int)) (congrArg ji_n (by omega)) ?_
              refine va_put (ci := 3) (C := RX3) (T := TX3) (N := 11) (ty := .int) hx hb hts hinX3 tyX3 tyX3_ok nmX3 hown hK hP hD hS 0 rfl rfl 1 (by decide) hfl39 (fun _ h9 => h9) rfl (by decide +kernel) rfl rfl (Nat.le_of_ble_eq_true rfl) dX3_insert_133 (fun H locs hP hD hS => ?_)
              have hP : va_P (dC, dI) vwCl (wo_M v cI 0 ((nP + 1 : Nat) : Int) (n : Int) by_ (upd f0_ i0 (ji_n k)) (upd f1_ i0 (ji_n a)) (upd f2_ i0 (ji_n b)) g0 g1 g2 sz) H := hP
              have hD : va_D A9 (wo_M v cI 0 ((nP + 1 : Nat) : Int) (n : Int) by_ (upd f0_ i0 (ji_n k)) (upd f1_ i0 (ji_n a)) (upd f2_ i0 (ji_n b)) g0 g1 g2 sz) := hD
              refine jn_iconst hx hb dX3_insert_136 ?_
              exact hend _ _ _ _ _ dX3_insert_137 (Or.inl ⟨rfl, by rcases hgl with h | h <;> first | exact h.1 | omega, by omega, i0, rfl, by omega, _, _, _, hP, as_hole hq0, as_hole hq1, as_hole hq2⟩) hS
            · skip
              refine lv_aload_n hx hb dX3_insert_50 rfl (lv_at hl 1 rfl) ?_
              refine va_get (ci := 3) (C := RX3) (T := TX3) (N := 11) hx hb hts hinX3 hown hK hP 0 rfl rfl 2 (by decide) hfl7 (fun _ h9 => h9) rfl dX3_insert_51 ?_
              refine lv_iload hx hb dX3_insert_54 (lv_at hl 0 rfl) ?_
              refine lv_aload_n hx hb dX3_insert_56 rfl (lv_at hl 1 rfl) ?_
              refine va_get (ci := 3) (C := RX3) (T := TX3) (N := 11) hx hb hts hinX3 hown hK hP 0 rfl rfl 2 (by decide) hfl7 (fun _ h9 => h9) rfl dX3_insert_57 ?_
              refine lv_iload hx hb dX3_insert_60 (lv_at hl 0 rfl) ?_
              refine jn_iconst hx hb dX3_insert_62 ?_
              refine jn_isub hx hb dX3_insert_63 (v := ((nP - i : Nat) : Int) - 1) rfl ?_
              refine jn_iald hx hb hK hP 1 0 rfl rfl ((nP - i) - 1) (by omega) (by omega) (by decide) (v := K (nP - i - 1)) (by rw [hq0 (nP - i - 1) (by omega) (by omega)]; unfold sp_in; rw [if_pos (by omega)]) dX3_insert_64 ?_
              refine jn_iast hx hb hK hP hD hS 1 0 rfl rfl (nP - i) (by omega) (by omega) (by decide) dX3_insert_65 (fun H locs hP hD hS => ?_)
              have hP : va_P (dC, dI) vwCl (wo_M v cI 0 (nP : Int) (n : Int) by_ (upd f0_ (nP - i) (ji_n (K (nP - i - 1)))) f1_ f2_ g0 g1 g2 sz) H := hP
              have hD : va_D A9 (wo_M v cI 0 (nP : Int) (n : Int) by_ (upd f0_ (nP - i) (ji_n (K (nP - i - 1)))) f1_ f2_ g0 g1 g2 sz) := hD
              refine lv_aload_n hx hb dX3_insert_66 rfl (lv_at hl 1 rfl) ?_
              refine va_get (ci := 3) (C := RX3) (T := TX3) (N := 11) hx hb hts hinX3 hown hK hP 0 rfl rfl 3 (by decide) hfl13 (fun _ h9 => h9) rfl dX3_insert_67 ?_
              refine lv_iload hx hb dX3_insert_70 (lv_at hl 0 rfl) ?_
              refine lv_aload_n hx hb dX3_insert_72 rfl (lv_at hl 1 rfl) ?_
              refine va_get (ci := 3) (C := RX3) (T := TX3) (N := 11) hx hb hts hinX3 hown hK hP 0 rfl rfl 3 (by decide) hfl13 (fun _ h9 => h9) rfl dX3_insert_73 ?_
              refine lv_iload hx hb dX3_insert_76 (lv_at hl 0 rfl) ?_
              refine jn_iconst hx hb dX3_insert_78 ?_
              refine jn_isub hx hb dX3_insert_79 (v := ((nP - i : Nat) : Int) - 1) rfl ?_
              refine jn_iald hx hb hK hP 2 0 rfl rfl ((nP - i) - 1) (by omega) (by omega) (by decide) (v := A (nP - i - 1)) (by rw [hq1 (nP - i - 1) (by omega) (by omega)]; unfold sp_in; rw [if_pos (by omega)]) dX3_insert_80 ?_
              refine jn_iast hx hb hK hP hD hS 2 0 rfl rfl (nP - i) (by omega) (by omega) (by decide) dX3_insert_81 (fun H locs hP hD hS => ?_)
              have hP : va_P (dC, dI) vwCl (wo_M v cI 0 (nP : Int) (n : Int) by_ (upd f0_ (nP - i) (ji_n (K (nP - i - 1)))) (upd f1_ (nP - i) (ji_n (A (nP - i - 1)))) f2_ g0 g1 g2 sz) H := hP
              have hD : va_D A9 (wo_M v cI 0 (nP : Int) (n : Int) by_ (upd f0_ (nP - i) (ji_n (K (nP - i - 1)))) (upd f1_ (nP - i) (ji_n (A (nP - i - 1)))) f2_ g0 g1 g2 sz) := hD
              refine lv_aload_n hx hb dX3_insert_82 rfl (lv_at hl 1 rfl) ?_
              refine va_get (ci := 3) (C := RX3) (T := TX3) (N := 11) hx hb hts hinX3 hown hK hP 0 rfl rfl 4 (by decide) hfl16 (fun _ h9 => h9) rfl dX3_insert_83 ?_
              refine lv_iload hx hb dX3_insert_86 (lv_at hl 0 rfl) ?_
              refine lv_aload_n hx hb dX3_insert_88 rfl (lv_at hl 1 rfl) ?_
              refine va_get (ci := 3) (C := RX3) (T := TX3) (N := 11) hx hb hts hinX3 hown hK hP 0 rfl rfl 4 (by decide) hfl16 (fun _ h9 => h9) rfl dX3_insert_89 ?_
              refine lv_iload hx hb dX3_insert_92 (lv_at hl 0 rfl) ?_
              refine jn_iconst hx hb dX3_insert_94 ?_
              refine jn_isub hx hb dX3_insert_95 (v := ((nP - i : Nat) : Int) - 1) rfl ?_
              refine jn_iald hx hb hK hP 3 0 rfl rfl ((nP - i) - 1) (by omega) (by omega) (by decide) (v := B (nP - i - 1)) (by rw [hq2 (nP - i - 1) (by omega) (by omega)]; unfold sp_in; rw [if_pos (by omega)]) dX3_insert_96 ?_
              refine jn_iast hx hb hK hP hD hS 3 0 rfl rfl (nP - i) (by omega) (by omega) (by decide) dX3_insert_97 (fun H locs hP hD hS => ?_)
              have hP : va_P (dC, dI) vwCl (wo_M v cI 0 (nP : Int) (n : Int) by_ (upd f0_ (nP - i) (ji_n (K (nP - i - 1)))) (upd f1_ (nP - i) (ji_n (A (nP - i - 1)))) (upd f2_ (nP - i) (ji_n (B (nP - i - 1)))) g0 g1 g2 sz) H := hP
              have hD : va_D A9 (wo_M v cI 0 (nP : Int) (n : Int) by_ (upd f0_ (nP - i) (ji_n (K (nP - i - 1)))) (upd f1_ (nP - i) (ji_n (A (nP - i - 1)))) (upd f2_ (nP - i) (ji_n (B (nP - i - 1)))) g0 g1 g2 sz) := hD
              refine jn_iinc (lv' := [(5, .int (ji_n (((nP - i : Nat) : Int) + (-1)))), (0, .ref (v 0)), (1, .int (ji_n (i0 : Int))), (2, .int (ji_n k)), (3, .int (ji_n a)), (4, .int (ji_n b))]) (k := 0) (v := ((nP - i : Nat) : Int) + (-1)) hx hb dX3_insert_98 hl rfl rfl (by decide) rfl (fun ls hl => ?_)
              refine lv_goto hx hb dX3_insert_101 (tgt := 44) rfl ?_
              have hl : lv_has ls 6 [(5, .int (ji_n ((nP - (i + 1) : Nat) : Int))), (0, .ref (v 0)), (1, .int (ji_n (i0 : Int))), (2, .int (ji_n k)), (3, .int (ji_n a)), (4, .int (ji_n b))] := by
                have hl2 := lv_sub hl (l' := [(5, .int (ji_n (((nP - i : Nat) : Int) + (-1)))), (0, .ref (v 0)), (1, .int (ji_n (i0 : Int))), (2, .int (ji_n k)), (3, .int (ji_n a)), (4, .int (ji_n b))]) [0, 1, 2, 3, 4, 5] rfl
                rw [show (ji_n (((nP - i : Nat) : Int) + (-1))) = (ji_n ((nP - (i + 1) : Nat) : Int)) from (congrArg ji_n (by omega))] at hl2
                exact hl2
              exact ih6 (by omega) ls hl H locs (upd f0_ (nP - i) (ji_n (K (nP - i - 1)))) (upd f1_ (nP - i) (ji_n (A (nP - i - 1)))) (upd f2_ (nP - i) (ji_n (B (nP - i - 1)))) hP hD hS (by
                                have h9 := as_holeS (i := nP - i - 1) (n := nP) (v := K (nP - i - 1)) (by rw [show nP - i - 1 + 1 = nP - i from by omega]; exact hq0) rfl
                                rw [show nP - i - 1 + 1 = nP - i from by omega] at h9
                                rw [show nP - (i + 1) = nP - i - 1 from by omega]; exact h9) (by
                                have h9 := as_holeS (i := nP - i - 1) (n := nP) (v := A (nP - i - 1)) (by rw [show nP - i - 1 + 1 = nP - i from by omega]; exact hq1) rfl
                                rw [show nP - i - 1 + 1 = nP - i from by omega] at h9
                                rw [show nP - (i + 1) = nP - i - 1 from by omega]; exact h9) (by
                                have h9 := as_holeS (i := nP - i - 1) (n := nP) (v := B (nP - i - 1)) (by rw [show nP - i - 1 + 1 = nP - i from by omega]; exact hq2) rfl
                                rw [show nP - i - 1 + 1 = nP - i from by omega] at h9
                                rw [show nP - (i + 1) = nP - i - 1 from by omega]; exact h9) (by omega)
          have hl : lv_has ls 6 [(5, .int (ji_n ((nP - 0 : Nat) : Int))), (0, .ref (v 0)), (1, .int (ji_n (i0 : Int))), (2, .int (ji_n k)), (3, .int (ji_n a)), (4, .int (ji_n b))] := lv_sub hl [0, 1, 2, 3, 4, 5] rfl
          exact loop5 0 (by omega) ls hl H locs f0 f1 f2 hP hD hS (by rw [Nat.sub_zero]; exact as_hole0 hF.1) (by rw [Nat.sub_zero]; exact as_hole0 hF.2.1) (by rw [Nat.sub_zero]; exact as_hole0 hF.2.2) (by omega)
        · skip
          refine jn_iconst hx hb dX3_insert_36 ?_
          exact hend _ _ _ _ _ dX3_insert_37 (Or.inr ⟨rfl, by rintro ⟨q, -⟩; rcases hgl with h | h <;> first | omega | exact h.1 q, hP⟩) hS

set_option maxHeartbeats 4000000 in
set_option maxRecDepth 100000 in
theorem cm_remove (l : Launch) (size_ : Nat) (dC : Nat → ClassId) (dI : Nat → Nat → Nat) (cI : ClassId) (v : Nat → Nat) (th by_ : Int) (nP n : Nat) (f0 f1 f2 g0 g1 g2 sz : Nat → Int32) (K A B : Nat → Int) (hn : nP ≤ 50) (hF : as_F nP K A B f0 f1 f2) (y : Int) (r1 : ji_r y) : Met l yX3_remove wsX3_remove { frames := 0, cells := 0, slots := 0, locals := 0 } (va_Pc [.ref (v 0), .int (ji_n y)] (wr_B (dC, dI) vwCl (wo_M v cI th (nP : Int) (n : Int) by_ f0 f1 f2 g0 g1 g2 sz) size_ (kn_K dC dI cI))) (wr_Qi (fun r H => (r = ji_n 1 ∧ ∃ i m : Nat, y = (i : Int) ∧ nP = m + 1 ∧ i < nP ∧ ∃ q0 q1 q2 : Nat → Int32, va_P (dC, dI) vwCl (wo_M v cI 0 (m : Int) (n : Int) by_ q0 q1 q2 g0 g1 g2 sz) H ∧ as_F m (sp_rm K i) (sp_rm A i) (sp_rm B i) q0 q1 q2) ∨ (r = ji_n 0 ∧ ¬ (0 ≤ y ∧ y < (nP : Int)) ∧ va_P (dC, dI) vwCl (wo_M v cI 0 (nP : Int) (n : Int) by_ f0 f1 f2 g0 g1 g2 sz) H)) (va_A (wo_M v cI th (nP : Int) (n : Int) by_ f0 f1 f2 g0 g1 g2 sz) size_)) 0 0 (va_A (wo_M v cI th (nP : Int) (n : Int) by_ f0 f1 f2 g0 g1 g2 sz) size_) := by
  refine st_wi (cc := cX3_remove) (maxL := 3) (ret := some .boolean) (ty := .boolean) (by decide) rfl rfl (Nat.le_of_ble_eq_true rfl) (lv := [(0, .ref (v 0)), (1, .int (ji_n y))]) rfl (fun v H h => by rcases h with ⟨h, -⟩ | ⟨h, -⟩ <;> rw [h] <;> rfl) ?_
  intro p e s m args below meth c R Q ls A9 hx hb hts hown hml hR hP hD hA hS hN hl hend
  have hK := hN.1
  have hinX3 : ∀ w ∈ u_ws RX3 TX3 11, w ∈ wsX3_remove := fun w h => List.mem_cons_of_mem _ (inX3 w h)
  have hfl39 := (hts _ (List.mem_cons_of_mem _ tm_359))
  have hfl7 := (hts _ (List.mem_cons_of_mem _ tm_360))
  have hfl13 := (hts _ (List.mem_cons_of_mem _ tm_361))
  have hfl16 := (hts _ (List.mem_cons_of_mem _ tm_362))
  have hfl31 := (hts _ (List.mem_cons_of_mem _ tm_358))
  refine lv_aload_n hx hb dX3_remove_0 rfl (lv_at hl 0 rfl) ?_
  refine jn_iconst hx hb dX3_remove_1 ?_
  refine va_put (ci := 3) (C := RX3) (T := TX3) (N := 11) (ty := .int) hx hb hts hinX3 tyX3 tyX3_ok nmX3 hown hK hP hD hS 0 rfl rfl 0 (by decide) hfl31 (fun _ h9 => h9) rfl (by decide +kernel) rfl rfl (Nat.le_of_ble_eq_true rfl) dX3_remove_2 (fun H locs hP hD hS => ?_)
  have hP : va_P (dC, dI) vwCl (wo_M v cI 0 (nP : Int) (n : Int) by_ f0 f1 f2 g0 g1 g2 sz) H := hP
  have hD : va_D A9 (wo_M v cI 0 (nP : Int) (n : Int) by_ f0 f1 f2 g0 g1 g2 sz) := hD
  refine lv_iload_n hx hb dX3_remove_5 rfl (lv_at hl 1 rfl) ?_
  refine jn_if_lt hx hb dX3_remove_6 (tgt := 17) rfl r1 (fun hc1 => ?_) (fun hc1 => ?_)
  · skip
    refine jn_iconst hx hb dX3_remove_17 ?_
    exact hend _ _ _ _ _ dX3_remove_18 (Or.inr ⟨rfl, by omega, hP⟩) hS
  · skip
    refine lv_iload_n hx hb dX3_remove_9 rfl (lv_at hl 1 rfl) ?_
    refine lv_aload_n hx hb dX3_remove_10 rfl (lv_at hl 0 rfl) ?_
    refine va_get (ci := 3) (C := RX3) (T := TX3) (N := 11) hx hb hts hinX3 hown hK hP 0 rfl rfl 1 (by decide) hfl39 (fun _ h9 => h9) rfl dX3_remove_11 ?_
    refine jn_icmp_lt hx hb dX3_remove_14 (tgt := 19) rfl r1 (by unfold ji_r; omega) (fun hc2 => ?_) (fun hc2 => ?_)
    · skip
      obtain ⟨i0, rfl⟩ : ∃ i0 : Nat, y = (i0 : Int) := ⟨y.toNat, by omega⟩
      obtain ⟨nP, rfl⟩ : ∃ n9 : Nat, nP = n9 + 1 := ⟨nP - 1, by omega⟩
      refine lv_aload_n hx hb dX3_remove_19 rfl (lv_at hl 0 rfl) ?_
      refine lv_dup hx hb dX3_remove_20 rfl ?_
      refine va_get (ci := 3) (C := RX3) (T := TX3) (N := 11) hx hb hts hinX3 hown hK hP 0 rfl rfl 1 (by decide) hfl39 (fun _ h9 => h9) rfl dX3_remove_21 ?_
      refine jn_iconst hx hb dX3_remove_24 ?_
      refine jn_isub hx hb dX3_remove_25 (v := ((nP + 1 : Nat) : Int) - 1) rfl ?_
      refine jn_top (v := (nP : Int)) (congrArg ji_n (by omega)) ?_
      refine va_put (ci := 3) (C := RX3) (T := TX3) (N := 11) (ty := .int) hx hb hts hinX3 tyX3 tyX3_ok nmX3 hown hK hP hD hS 0 rfl rfl 1 (by decide) hfl39 (fun _ h9 => h9) rfl (by decide +kernel) rfl rfl (Nat.le_of_ble_eq_true rfl) dX3_remove_26 (fun H locs hP hD hS => ?_)
      have hP : va_P (dC, dI) vwCl (wo_M v cI 0 (nP : Int) (n : Int) by_ f0 f1 f2 g0 g1 g2 sz) H := hP
      have hD : va_D A9 (wo_M v cI 0 (nP : Int) (n : Int) by_ f0 f1 f2 g0 g1 g2 sz) := hD
      refine lv_iload_n hx hb dX3_remove_29 rfl (lv_at hl 1 rfl) ?_
      refine lv_istore_n (lv' := [(2, .int (ji_n (i0 : Int))), (0, .ref (v 0)), (1, .int (ji_n (i0 : Int)))]) hx hb dX3_remove_30 rfl hl (by decide) rfl (fun ls hl => ?_)
      have loop3 : ∀ i : Nat, i ≤ nP → ∀ (ls : Array Slot), lv_has ls 3 [(2, .int (ji_n (i : Int))), (0, .ref (v 0)), (1, .int (ji_n (i0 : Int)))] → ∀ (H : Heap) (locs : List Loc) (f0_ : Nat → Int32) (f1_ : Nat → Int32) (f2_ : Nat → Int32), va_P (dC, dI) vwCl (wo_M v cI 0 (nP : Int) (n : Int) by_ f0_ f1_ f2_ g0 g1 g2 sz) H → va_D A9 (wo_M v cI 0 (nP : Int) (n : Int) by_ f0_ f1_ f2_ g0 g1 g2 sz) → va_S A9 s.heap H locs → (∀ j, j < nP + 1 → f0_ j = ji_n (if i0 ≤ j ∧ j < i then K (j + 1) else K j)) → (∀ j, j < nP + 1 → f1_ j = ji_n (if i0 ≤ j ∧ j < i then A (j + 1) else A j)) → (∀ j, j < nP + 1 → f2_ j = ji_n (if i0 ≤ j ∧ j < i then B (j + 1) else B j)) → i0 ≤ i → W p l e R s m args below meth c H locs 0 0 Q (F0 m 31 ls []) := by
        refine lp_up nP ?_
        intro i hi_i ih4 ls hl H locs f0_ f1_ f2_ hP hD hS hq0 hq1 hq2 hi0
        refine lv_iload_n hx hb dX3_remove_31 rfl (lv_at hl 0 rfl) ?_
        refine lv_aload_n hx hb dX3_remove_32 rfl (lv_at hl 1 rfl) ?_
        refine va_get (ci := 3) (C := RX3) (T := TX3) (N := 11) hx hb hts hinX3 hown hK hP 0 rfl rfl 1 (by decide) hfl39 (fun _ h9 => h9) rfl dX3_remove_33 ?_
        refine jn_icmp_ge hx hb dX3_remove_36 (tgt := 87) rfl (by unfold ji_r; omega) (by unfold ji_r; omega) (fun hc5 => ?_) (fun hc5 => ?_)
        · skip
          have he : i = nP := by omega
          rw [he] at hq0 hq1 hq2
          refine jn_iconst hx hb dX3_remove_87 ?_
          exact hend _ _ _ _ _ dX3_remove_88 (Or.inl ⟨rfl, i0, nP, rfl, rfl, by omega, _, _, _, hP, as_rmE hq0, as_rmE hq1, as_rmE hq2⟩) hS
        · skip
          refine lv_aload_n hx hb dX3_remove_39 rfl (lv_at hl 1 rfl) ?_
          refine va_get (ci := 3) (C := RX3) (T := TX3) (N := 11) hx hb hts hinX3 hown hK hP 0 rfl rfl 2 (by decide) hfl7 (fun _ h9 => h9) rfl dX3_remove_40 ?_
          refine lv_iload_n hx hb dX3_remove_43 rfl (lv_at hl 0 rfl) ?_
          refine lv_aload_n hx hb dX3_remove_44 rfl (lv_at hl 1 rfl) ?_
          refine va_get (ci := 3) (C := RX3) (T := TX3) (N := 11) hx hb hts hinX3 hown hK hP 0 rfl rfl 2 (by decide) hfl7 (fun _ h9 => h9) rfl dX3_remove_45 ?_
          refine lv_iload_n hx hb dX3_remove_48 rfl (lv_at hl 0 rfl) ?_
          refine jn_iconst hx hb dX3_remove_49 ?_
          refine jn_iadd hx hb dX3_remove_50 (v := (i : Int) + 1) rfl ?_
          refine jn_iald hx hb hK hP 1 0 rfl rfl (i + 1) (by omega) (by omega) (by decide) (v := K (i + 1)) (by rw [hq0 (i + 1) (by omega), if_neg (by omega)]) dX3_remove_51 ?_
          refine jn_iast hx hb hK hP hD hS 1 0 rfl rfl i (by omega) (by omega) (by decide) dX3_remove_52 (fun H locs hP hD hS => ?_)
          have hP : va_P (dC, dI) vwCl (wo_M v cI 0 (nP : Int) (n : Int) by_ (upd f0_ i (ji_n (K (i + 1)))) f1_ f2_ g0 g1 g2 sz) H := hP
          have hD : va_D A9 (wo_M v cI 0 (nP : Int) (n : Int) by_ (upd f0_ i (ji_n (K (i + 1)))) f1_ f2_ g0 g1 g2 sz) := hD
          refine lv_aload_n hx hb dX3_remove_53 rfl (lv_at hl 1 rfl) ?_
          refine va_get (ci := 3) (C := RX3) (T := TX3) (N := 11) hx hb hts hinX3 hown hK hP 0 rfl rfl 3 (by decide) hfl13 (fun _ h9 => h9) rfl dX3_remove_54 ?_
          refine lv_iload_n hx hb dX3_remove_57 rfl (lv_at hl 0 rfl) ?_
          refine lv_aload_n hx hb dX3_remove_58 rfl (lv_at hl 1 rfl) ?_
          refine va_get (ci := 3) (C := RX3) (T := TX3) (N := 11) hx hb hts hinX3 hown hK hP 0 rfl rfl 3 (by decide) hfl13 (fun _ h9 => h9) rfl dX3_remove_59 ?_
          refine lv_iload_n hx hb dX3_remove_62 rfl (lv_at hl 0 rfl) ?_
          refine jn_iconst hx hb dX3_remove_63 ?_
          refine jn_iadd hx hb dX3_remove_64 (v := (i : Int) + 1) rfl ?_
          refine jn_iald hx hb hK hP 2 0 rfl rfl (i + 1) (by omega) (by omega) (by decide) (v := A (i + 1)) (by rw [hq1 (i + 1) (by omega), if_neg (by omega)]) dX3_remove_65 ?_
          refine jn_iast hx hb hK hP hD hS 2 0 rfl rfl i (by omega) (by omega) (by decide) dX3_remove_66 (fun H locs hP hD hS => ?_)
          have hP : va_P (dC, dI) vwCl (wo_M v cI 0 (nP : Int) (n : Int) by_ (upd f0_ i (ji_n (K (i + 1)))) (upd f1_ i (ji_n (A (i + 1)))) f2_ g0 g1 g2 sz) H := hP
          have hD : va_D A9 (wo_M v cI 0 (nP : Int) (n : Int) by_ (upd f0_ i (ji_n (K (i + 1)))) (upd f1_ i (ji_n (A (i + 1)))) f2_ g0 g1 g2 sz) := hD
          refine lv_aload_n hx hb dX3_remove_67 rfl (lv_at hl 1 rfl) ?_
          refine va_get (ci := 3) (C := RX3) (T := TX3) (N := 11) hx hb hts hinX3 hown hK hP 0 rfl rfl 4 (by decide) hfl16 (fun _ h9 => h9) rfl dX3_remove_68 ?_
          refine lv_iload_n hx hb dX3_remove_71 rfl (lv_at hl 0 rfl) ?_
          refine lv_aload_n hx hb dX3_remove_72 rfl (lv_at hl 1 rfl) ?_
          refine va_get (ci := 3) (C := RX3) (T := TX3) (N := 11) hx hb hts hinX3 hown hK hP 0 rfl rfl 4 (by decide) hfl16 (fun _ h9 => h9) rfl dX3_remove_73 ?_
          refine lv_iload_n hx hb dX3_remove_76 rfl (lv_at hl 0 rfl) ?_
          refine jn_iconst hx hb dX3_remove_77 ?_
          refine jn_iadd hx hb dX3_remove_78 (v := (i : Int) + 1) rfl ?_
          refine jn_iald hx hb hK hP 3 0 rfl rfl (i + 1) (by omega) (by omega) (by decide) (v := B (i + 1)) (by rw [hq2 (i + 1) (by omega), if_neg (by omega)]) dX3_remove_79 ?_
          refine jn_iast hx hb hK hP hD hS 3 0 rfl rfl i (by omega) (by omega) (by decide) dX3_remove_80 (fun H locs hP hD hS => ?_)
          have hP : va_P (dC, dI) vwCl (wo_M v cI 0 (nP : Int) (n : Int) by_ (upd f0_ i (ji_n (K (i + 1)))) (upd f1_ i (ji_n (A (i + 1)))) (upd f2_ i (ji_n (B (i + 1)))) g0 g1 g2 sz) H := hP
          have hD : va_D A9 (wo_M v cI 0 (nP : Int) (n : Int) by_ (upd f0_ i (ji_n (K (i + 1)))) (upd f1_ i (ji_n (A (i + 1)))) (upd f2_ i (ji_n (B (i + 1)))) g0 g1 g2 sz) := hD
          refine jn_iinc (lv' := [(2, .int (ji_n ((i : Int) + 1))), (0, .ref (v 0)), (1, .int (ji_n (i0 : Int)))]) (k := 0) (v := (i : Int) + 1) hx hb dX3_remove_81 hl rfl rfl (by decide) rfl (fun ls hl => ?_)
          refine lv_goto hx hb dX3_remove_84 (tgt := 31) rfl ?_
          have hl : lv_has ls 3 [(2, .int (ji_n ((i + 1 : Nat) : Int))), (0, .ref (v 0)), (1, .int (ji_n (i0 : Int)))] := by
            have hl2 := lv_sub hl (l' := [(2, .int (ji_n ((i : Int) + 1))), (0, .ref (v 0)), (1, .int (ji_n (i0 : Int)))]) [0, 1, 2] rfl
            rw [show (ji_n ((i : Int) + 1)) = (ji_n ((i + 1 : Nat) : Int)) from (congrArg ji_n (by omega))] at hl2
            exact hl2
          exact ih4 (by omega) ls hl H locs (upd f0_ i (ji_n (K (i + 1)))) (upd f1_ i (ji_n (A (i + 1)))) (upd f2_ i (ji_n (B (i + 1)))) hP hD hS (as_rmS hq0 hi0 rfl) (as_rmS hq1 hi0 rfl) (as_rmS hq2 hi0 rfl) (by omega)
      have hl : lv_has ls 3 [(2, .int (ji_n (i0 : Int))), (0, .ref (v 0)), (1, .int (ji_n (i0 : Int)))] := lv_sub hl [0, 1, 2] rfl
      exact loop3 i0 (by omega) ls hl H locs f0 f1 f2 hP hD hS (fun j h => by rw [if_neg (by omega)]; exact hF.1 j h) (fun j h => by rw [if_neg (by omega)]; exact hF.2.1 j h) (fun j h => by rw [if_neg (by omega)]; exact hF.2.2 j h) (by omega)
    · skip
      refine jn_iconst hx hb dX3_remove_17 ?_
      exact hend _ _ _ _ _ dX3_remove_18 (Or.inr ⟨rfl, by omega, hP⟩) hS
