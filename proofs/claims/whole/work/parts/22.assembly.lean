set_option maxHeartbeats 4000000 in
set_option maxRecDepth 100000 in
theorem ct_size (l : Launch) (dC : Nat → ClassId) (dI : Nat → Nat → Nat) (cI : ClassId) (w : Nat → Nat) (n : Nat) (g0 g1 g2 st fm vl : Nat → Int32) (K A B z : Nat → Int) (hF : as_F n K A B g0 g1 g2) (hAS : sp_AS n K A B z) (hS : as_S n K A z st fm vl) : Met l yX0_size wsX0_size { frames := 0, cells := 0, slots := 0, locals := 0 } (va_Pc [.ref (w 0)] (fun U => va_P (dC, dI) vwCl (wo_A w cI n g0 g1 g2 st fm vl) U.heap ∧ kn_K dC dI cI U)) (vp_Si (fun r => r = ji_n (sp_pz z n))) 0 0 (fun _ => False) := by
  refine st_rd (cc := cX0_size) (maxL := 1) (ret := some .int) (ty := .int) (by decide) rfl rfl (Nat.le_of_ble_eq_true rfl) (lv := [(0, .ref (w 0))]) rfl (fun v h => rfl) ?_
  intro p e s m args below meth c R Q ls hx hb hts hown hml hR hB hl hend
  obtain ⟨hP, hN⟩ := hB
  have hK := hN.1
  have hinX0 : ∀ w ∈ u_ws RX0 TX0 4, w ∈ wsX0_size := fun w h => List.mem_cons_of_mem _ (inX0 w h)
  have hfl12 := (hts _ (List.mem_cons_of_mem _ tm_57))
  have hfl18 := (hts _ (List.mem_cons_of_mem _ tm_59))
  have hinX1 : ∀ w ∈ u_ws RX1 TX1 4, w ∈ wsX0_size := fun w h => List.mem_cons_of_mem _ (inX1 w h)
  have hS0 := hS
  have hn := hAS.1
  have hg := hAS.2.1
  have ho := hAS.2.2.1
  obtain ⟨hst, hfm, hvl⟩ := hS
  refine lv_aload_n hx hb dX0_size_0 rfl (lv_at hl 0 rfl) ?_
  refine va_get (ci := 0) (C := RX0) (T := TX0) (N := 4) hx hb hts hinX0 hown hK hP 0 rfl rfl 1 (by decide) hfl18 (fun _ h9 => h9) rfl dX0_size_1 ?_
  refine lv_aload_n hx hb dX0_size_4 rfl (lv_at hl 0 rfl) ?_
  refine va_get (ci := 0) (C := RX0) (T := TX0) (N := 4) hx hb hts hinX0 hown hK hP 0 rfl rfl 0 (by decide) hfl12 (fun _ h9 => h9) rfl dX0_size_5 ?_
  refine va_getN (ci := 1) (C := RX1) (T := TX1) (N := 4) hx hb hts hinX1 hown hK hP 4 rfl rfl 3 (by decide) (va_Nw.use rfl (nw_5 hN)) (fun _ h9 => h9) rfl dX0_size_8 ?_
  refine jn_iald hx hb hK hP 1 0 rfl rfl n (by omega) (by omega) (by decide) (v := sp_pz z n) (hst n (by omega)) dX0_size_11 ?_
  exact hend _ _ _ dX0_size_12 rfl

set_option maxHeartbeats 4000000 in
set_option maxRecDepth 100000 in
theorem ct_lineSize (l : Launch) (dC : Nat → ClassId) (dI : Nat → Nat → Nat) (cI : ClassId) (w : Nat → Nat) (n : Nat) (g0 g1 g2 st fm vl : Nat → Int32) (K A B z : Nat → Int) (hF : as_F n K A B g0 g1 g2) (hn : n ≤ 50) (hg : sp_gp K A B n) (ho : sp_ok K A B z n) (hfm : ∀ j, j < n → fm j = ji_n (sp_fm (K j) (z j))) (j : Nat) (hj : j < n) : Met l yX0_lineSize wsX0_lineSize { frames := 0, cells := 0, slots := 0, locals := 0 } (va_Pc [.ref (w 0), .int (ji_n (j : Int))] (fun U => va_P (dC, dI) vwCl (wo_A w cI n g0 g1 g2 st fm vl) U.heap ∧ kn_K dC dI cI U)) (vp_Si (fun r => r = ji_n (z j))) 0 0 (fun _ => False) := by
  refine st_rd (cc := cX0_lineSize) (maxL := 3) (ret := some .int) (ty := .int) (by decide) rfl rfl (Nat.le_of_ble_eq_true rfl) (lv := [(0, .ref (w 0)), (1, .int (ji_n (j : Int)))]) rfl (fun v h => rfl) ?_
  intro p e s m args below meth c R Q ls hx hb hts hown hml hR hB hl hend
  obtain ⟨hP, hN⟩ := hB
  have hK := hN.1
  have hinX0 : ∀ w ∈ u_ws RX0 TX0 4, w ∈ wsX0_lineSize := fun w h => List.mem_cons_of_mem _ (inX0 w h)
  have hfl12 := (hts _ (List.mem_cons_of_mem _ tm_57))
  have hfl22 := (hts _ (List.mem_cons_of_mem _ tm_61))
  have hinX1 : ∀ w ∈ u_ws RX1 TX1 4, w ∈ wsX0_lineSize := fun w h => List.mem_cons_of_mem _ (inX1 w h)
  have hgj := hg j (by omega)
  unfold sp_gd at hgj
  have hoj := ho j (by omega)
  have hfj := sp_fm_or (K j) (z j)
  have hlj := sp_lg_or (B j)
  refine lv_aload_n hx hb dX0_lineSize_0 rfl (lv_at hl 0 rfl) ?_
  refine va_get (ci := 0) (C := RX0) (T := TX0) (N := 4) hx hb hts hinX0 hown hK hP 0 rfl rfl 0 (by decide) hfl12 (fun _ h9 => h9) rfl dX0_lineSize_1 ?_
  refine va_getN (ci := 1) (C := RX1) (T := TX1) (N := 4) hx hb hts hinX1 hown hK hP 4 rfl rfl 0 (by decide) (va_Nw.use rfl (nw_6 hN)) (fun _ h9 => h9) rfl dX0_lineSize_4 ?_
  refine lv_iload_n hx hb dX0_lineSize_7 rfl (lv_at hl 1 rfl) ?_
  refine jn_iald hx hb hK hP 5 0 rfl rfl j (by omega) (by omega) (by decide) (v := K j) (hF.1 j (by omega)) dX0_lineSize_8 ?_
  refine lv_istore_n (lv' := [(2, .int (ji_n (K j))), (0, .ref (w 0)), (1, .int (ji_n (j : Int)))]) hx hb dX0_lineSize_9 rfl hl (by decide) rfl (fun ls hl => ?_)
  refine lv_iload_n hx hb dX0_lineSize_10 rfl (lv_at hl 0 rfl) ?_
  refine jn_iconst hx hb dX0_lineSize_11 ?_
  refine jn_icmp_ne hx hb dX0_lineSize_12 (tgt := 25) rfl (by unfold ji_r; omega) (by unfold ji_r; omega) (fun hc1 => ?_) (fun hc1 => ?_)
  · skip
    refine lv_iload_n hx hb dX0_lineSize_25 rfl (lv_at hl 0 rfl) ?_
    refine jn_iconst hx hb dX0_lineSize_26 ?_
    refine jn_icmp_ne hx hb dX0_lineSize_27 (tgt := 32) rfl (by unfold ji_r; omega) (by unfold ji_r; omega) (fun hc2 => ?_) (fun hc2 => ?_)
    · skip
      refine lv_aload_n hx hb dX0_lineSize_32 rfl (lv_at hl 1 rfl) ?_
      refine va_get (ci := 0) (C := RX0) (T := TX0) (N := 4) hx hb hts hinX0 hown hK hP 0 rfl rfl 2 (by decide) hfl22 (fun _ h9 => h9) rfl dX0_lineSize_33 ?_
      refine lv_iload_n hx hb dX0_lineSize_36 rfl (lv_at hl 2 rfl) ?_
      refine jn_iald hx hb hK hP 2 0 rfl rfl j (by omega) (by omega) (by decide) (v := sp_fm (K j) (z j)) (hfm j (by omega)) dX0_lineSize_37 ?_
      refine jn_iconst hx hb dX0_lineSize_38 ?_
      refine jn_icmp_ne hx hb dX0_lineSize_39 (tgt := 60) rfl (by unfold ji_r; omega) (by unfold ji_r; omega) (fun hc3 => ?_) (fun hc3 => ?_)
      · skip
        refine lv_aload_n hx hb dX0_lineSize_60 rfl (lv_at hl 1 rfl) ?_
        refine va_get (ci := 0) (C := RX0) (T := TX0) (N := 4) hx hb hts hinX0 hown hK hP 0 rfl rfl 2 (by decide) hfl22 (fun _ h9 => h9) rfl dX0_lineSize_61 ?_
        refine lv_iload_n hx hb dX0_lineSize_64 rfl (lv_at hl 2 rfl) ?_
        refine jn_iald hx hb hK hP 2 0 rfl rfl j (by omega) (by omega) (by decide) (v := sp_fm (K j) (z j)) (hfm j (by omega)) dX0_lineSize_65 ?_
        refine jn_iconst hx hb dX0_lineSize_66 ?_
        refine jn_icmp_ne hx hb dX0_lineSize_67 (tgt := 74) rfl (by unfold ji_r; omega) (by unfold ji_r; omega) (fun hc4 => ?_) (fun hc4 => ?_)
        · skip
          refine jn_iconst hx hb dX0_lineSize_74 ?_
          exact hend _ _ _ dX0_lineSize_75 (congrArg ji_n (by omega))
        · skip
          refine jn_iconst hx hb dX0_lineSize_70 ?_
          refine lv_goto hx hb dX0_lineSize_71 (tgt := 75) rfl ?_
          exact hend _ _ _ dX0_lineSize_75 (congrArg ji_n (by omega))
      · skip
        refine lv_aload_n hx hb dX0_lineSize_42 rfl (lv_at hl 1 rfl) ?_
        refine va_get (ci := 0) (C := RX0) (T := TX0) (N := 4) hx hb hts hinX0 hown hK hP 0 rfl rfl 0 (by decide) hfl12 (fun _ h9 => h9) rfl dX0_lineSize_43 ?_
        refine va_getN (ci := 1) (C := RX1) (T := TX1) (N := 4) hx hb hts hinX1 hown hK hP 4 rfl rfl 2 (by decide) (va_Nw.use rfl (nw_8 hN)) (fun _ h9 => h9) rfl dX0_lineSize_46 ?_
        refine lv_iload_n hx hb dX0_lineSize_49 rfl (lv_at hl 2 rfl) ?_
        refine jn_iald hx hb hK hP 7 0 rfl rfl j (by omega) (by omega) (by decide) (v := B j) (hF.2.2 j (by omega)) dX0_lineSize_50 ?_
        refine jn_if_ne hx hb dX0_lineSize_51 (tgt := 58) rfl (by unfold ji_r; omega) (fun hc5 => ?_) (fun hc5 => ?_)
        · skip
          refine jn_iconst hx hb dX0_lineSize_58 ?_
          exact hend _ _ _ dX0_lineSize_59 (congrArg ji_n (by omega))
        · skip
          refine jn_iconst hx hb dX0_lineSize_54 ?_
          refine lv_goto hx hb dX0_lineSize_55 (tgt := 59) rfl ?_
          exact hend _ _ _ dX0_lineSize_59 (congrArg ji_n (by omega))
    · skip
      refine jn_iconst hx hb dX0_lineSize_30 ?_
      exact hend _ _ _ dX0_lineSize_31 (congrArg ji_n (by omega))
  · skip
    refine lv_aload_n hx hb dX0_lineSize_15 rfl (lv_at hl 1 rfl) ?_
    refine va_get (ci := 0) (C := RX0) (T := TX0) (N := 4) hx hb hts hinX0 hown hK hP 0 rfl rfl 0 (by decide) hfl12 (fun _ h9 => h9) rfl dX0_lineSize_16 ?_
    refine va_getN (ci := 1) (C := RX1) (T := TX1) (N := 4) hx hb hts hinX1 hown hK hP 4 rfl rfl 1 (by decide) (va_Nw.use rfl (nw_7 hN)) (fun _ h9 => h9) rfl dX0_lineSize_19 ?_
    refine lv_iload_n hx hb dX0_lineSize_22 rfl (lv_at hl 2 rfl) ?_
    refine jn_iald hx hb hK hP 6 0 rfl rfl j (by omega) (by omega) (by decide) (v := A j) (hF.2.1 j (by omega)) dX0_lineSize_23 ?_
    exact hend _ _ _ dX0_lineSize_24 (congrArg ji_n (by omega))

set_option maxHeartbeats 4000000 in
set_option maxRecDepth 100000 in
theorem ct_distance (l : Launch) (dC : Nat → ClassId) (dI : Nat → Nat → Nat) (cI : ClassId) (w : Nat → Nat) (n : Nat) (g0 g1 g2 st fm vl : Nat → Int32) (K A B z : Nat → Int) (hF : as_F n K A B g0 g1 g2) (hAS : sp_AS n K A B z) (hst : ∀ j, j < n + 1 → st j = ji_n (sp_pz z j)) (hvl : ∀ x : Int, 0 ≤ x → x < 16 → vl x.toNat = ji_n (sp_la K A z n x)) (j : Nat) (hj : j < n) (h3 : K j ≠ 1) : Met l yX0_distance wsX0_distance { frames := 0, cells := 0, slots := 0, locals := 0 } (va_Pc [.ref (w 0), .int (ji_n (j : Int))] (fun U => va_P (dC, dI) vwCl (wo_A w cI n g0 g1 g2 st fm vl) U.heap ∧ kn_K dC dI cI U)) (vp_Si (fun r => r = ji_n (sp_ds n K A z j))) 0 0 (fun _ => False) := by
  refine st_rd (cc := cX0_distance) (maxL := 2) (ret := some .int) (ty := .int) (by decide) rfl rfl (Nat.le_of_ble_eq_true rfl) (lv := [(0, .ref (w 0)), (1, .int (ji_n (j : Int)))]) rfl (fun v h => rfl) ?_
  intro p e s m args below meth c R Q ls hx hb hts hown hml hR hB hl hend
  obtain ⟨hP, hN⟩ := hB
  have hK := hN.1
  have hinX0 : ∀ w ∈ u_ws RX0 TX0 4, w ∈ wsX0_distance := fun w h => List.mem_cons_of_mem _ (inX0 w h)
  have hfl12 := (hts _ (List.mem_cons_of_mem _ tm_57))
  have hfl18 := (hts _ (List.mem_cons_of_mem _ tm_59))
  have hfl22 := (hts _ (List.mem_cons_of_mem _ tm_61))
  have hfl25 := (hts _ (List.mem_cons_of_mem _ tm_63))
  have hinX1 : ∀ w ∈ u_ws RX1 TX1 4, w ∈ wsX0_distance := fun w h => List.mem_cons_of_mem _ (inX1 w h)
  have hn := hAS.1
  have hg := hAS.2.1
  refine lv_aload_n hx hb dX0_distance_0 rfl (lv_at hl 0 rfl) ?_
  refine va_get (ci := 0) (C := RX0) (T := TX0) (N := 4) hx hb hts hinX0 hown hK hP 0 rfl rfl 3 (by decide) hfl25 (fun _ h9 => h9) rfl dX0_distance_1 ?_
  refine lv_aload_n hx hb dX0_distance_4 rfl (lv_at hl 0 rfl) ?_
  refine va_get (ci := 0) (C := RX0) (T := TX0) (N := 4) hx hb hts hinX0 hown hK hP 0 rfl rfl 0 (by decide) hfl12 (fun _ h9 => h9) rfl dX0_distance_5 ?_
  refine va_getN (ci := 1) (C := RX1) (T := TX1) (N := 4) hx hb hts hinX1 hown hK hP 4 rfl rfl 1 (by decide) (va_Nw.use rfl (nw_7 hN)) (fun _ h9 => h9) rfl dX0_distance_8 ?_
  refine lv_iload_n hx hb dX0_distance_11 rfl (lv_at hl 1 rfl) ?_
  refine jn_iald hx hb hK hP 6 0 rfl rfl j (by omega) (by omega) (by decide) (v := A j) (hF.2.1 j (by omega)) dX0_distance_12 ?_
  have hgj := hg j hj
  unfold sp_gd at hgj
  refine jn_iald hx hb hK hP 3 0 rfl rfl ((A j).toNat) (by omega) (by omega) (by decide) (v := sp_la K A z n (A j)) (hvl (A j) (by omega) (by omega)) dX0_distance_13 ?_
  refine lv_aload_n hx hb dX0_distance_14 rfl (lv_at hl 0 rfl) ?_
  refine va_get (ci := 0) (C := RX0) (T := TX0) (N := 4) hx hb hts hinX0 hown hK hP 0 rfl rfl 1 (by decide) hfl18 (fun _ h9 => h9) rfl dX0_distance_15 ?_
  refine lv_iload_n hx hb dX0_distance_18 rfl (lv_at hl 1 rfl) ?_
  refine jn_iconst hx hb dX0_distance_19 ?_
  refine jn_iadd hx hb dX0_distance_20 (v := (j : Int) + 1) rfl ?_
  refine jn_iald hx hb hK hP 1 0 rfl rfl (j + 1) (by omega) (by omega) (by decide) (v := sp_pz z (j + 1)) (hst (j + 1) (by omega)) dX0_distance_21 ?_
  refine jn_isub hx hb dX0_distance_22 (v := (sp_la K A z n (A j)) - (sp_pz z (j + 1))) rfl ?_
  exact hend _ _ _ dX0_distance_23 rfl

set_option maxHeartbeats 4000000 in
set_option maxRecDepth 100000 in
theorem ct_countLong (l : Launch) (dC : Nat → ClassId) (dI : Nat → Nat → Nat) (cI : ClassId) (w : Nat → Nat) (n : Nat) (g0 g1 g2 st fm vl : Nat → Int32) (K A B z : Nat → Int) (hF : as_F n K A B g0 g1 g2) (hAS : sp_AS n K A B z) (hS : as_S n K A z st fm vl) : Met l yX0_countLong wsX0_countLong { frames := 0, cells := 0, slots := 0, locals := 0 } (va_Pc [.ref (w 0)] (fun U => va_P (dC, dI) vwCl (wo_A w cI n g0 g1 g2 st fm vl) U.heap ∧ kn_K dC dI cI U)) (vp_Si (fun r => r = ji_n (sp_lc K z n))) 0 0 (fun _ => False) := by
  refine st_rd (cc := cX0_countLong) (maxL := 3) (ret := some .int) (ty := .int) (by decide) rfl rfl (Nat.le_of_ble_eq_true rfl) (lv := [(0, .ref (w 0))]) rfl (fun v h => rfl) ?_
  intro p e s m args below meth c R Q ls hx hb hts hown hml hR hB hl hend
  obtain ⟨hP, hN⟩ := hB
  have hK := hN.1
  have hinX0 : ∀ w ∈ u_ws RX0 TX0 4, w ∈ wsX0_countLong := fun w h => List.mem_cons_of_mem _ (inX0 w h)
  have hfl12 := (hts _ (List.mem_cons_of_mem _ tm_57))
  have hfl22 := (hts _ (List.mem_cons_of_mem _ tm_61))
  have hinX1 : ∀ w ∈ u_ws RX1 TX1 4, w ∈ wsX0_countLong := fun w h => List.mem_cons_of_mem _ (inX1 w h)
  have hS0 := hS
  have hn := hAS.1
  have hg := hAS.2.1
  have ho := hAS.2.2.1
  obtain ⟨hst, hfm, hvl⟩ := hS
  refine jn_iconst hx hb dX0_countLong_0 ?_
  refine lv_istore_n (lv' := [(1, .int (ji_n 0)), (0, .ref (w 0))]) hx hb dX0_countLong_1 rfl hl (by decide) rfl (fun ls hl => ?_)
  refine jn_iconst hx hb dX0_countLong_2 ?_
  refine lv_istore_n (lv' := [(2, .int (ji_n 0)), (1, .int (ji_n 0)), (0, .ref (w 0))]) hx hb dX0_countLong_3 rfl hl (by decide) rfl (fun ls hl => ?_)
  have loop1 : ∀ i : Nat, i ≤ n → ∀ ls : Array Slot, lv_has ls 3 [(2, .int (ji_n (i : Int))), (1, .int (ji_n (sp_lc K z i))), (0, .ref (w 0))] → W p l e R s m args below meth c s.heap [] 0 0 Q (F0 m 4 ls []) := by
    refine lp_up n ?_
    intro i hi_i ih2 ls hl
    have hd := sp_lc_b K z i
    have hfi := sp_fm_or (K i) (z i)
    refine lv_iload_n hx hb dX0_countLong_4 rfl (lv_at hl 0 rfl) ?_
    refine lv_aload_n hx hb dX0_countLong_5 rfl (lv_at hl 2 rfl) ?_
    refine va_get (ci := 0) (C := RX0) (T := TX0) (N := 4) hx hb hts hinX0 hown hK hP 0 rfl rfl 0 (by decide) hfl12 (fun _ h9 => h9) rfl dX0_countLong_6 ?_
    refine va_getN (ci := 1) (C := RX1) (T := TX1) (N := 4) hx hb hts hinX1 hown hK hP 4 rfl rfl 3 (by decide) (va_Nw.use rfl (nw_5 hN)) (fun _ h9 => h9) rfl dX0_countLong_9 ?_
    refine jn_icmp_ge hx hb dX0_countLong_12 (tgt := 34) rfl (by unfold ji_r; omega) (by unfold ji_r; omega) (fun hc3 => ?_) (fun hc3 => ?_)
    · skip
      have he : i = n := by omega
      refine lv_iload_n hx hb dX0_countLong_34 rfl (lv_at hl 1 rfl) ?_
      exact hend _ _ _ dX0_countLong_35 (congrArg ji_n (by rw [he]))
    · skip
      refine lv_aload_n hx hb dX0_countLong_15 rfl (lv_at hl 2 rfl) ?_
      refine va_get (ci := 0) (C := RX0) (T := TX0) (N := 4) hx hb hts hinX0 hown hK hP 0 rfl rfl 2 (by decide) hfl22 (fun _ h9 => h9) rfl dX0_countLong_16 ?_
      refine lv_iload_n hx hb dX0_countLong_19 rfl (lv_at hl 0 rfl) ?_
      refine jn_iald hx hb hK hP 2 0 rfl rfl i (by omega) (by omega) (by decide) (v := sp_fm (K i) (z i)) (hfm i (by omega)) dX0_countLong_20 ?_
      refine jn_iconst hx hb dX0_countLong_21 ?_
      refine jn_icmp_ne hx hb dX0_countLong_22 (tgt := 28) rfl (by unfold ji_r; omega) (by unfold ji_r; omega) (fun hc4 => ?_) (fun hc4 => ?_)
      · skip
        refine jn_iinc (lv' := [(2, .int (ji_n ((i : Int) + 1))), (1, .int (ji_n (sp_lc K z i))), (0, .ref (w 0))]) (k := 0) (v := (i : Int) + 1) hx hb dX0_countLong_28 hl rfl rfl (by decide) rfl (fun ls hl => ?_)
        refine lv_goto hx hb dX0_countLong_31 (tgt := 4) rfl ?_
        have hl : lv_has ls 3 [(2, .int (ji_n ((i + 1 : Nat) : Int))), (1, .int (ji_n (sp_lc K z (i + 1)))), (0, .ref (w 0))] := by
          have hl2 := lv_sub hl (l' := [(2, .int (ji_n ((i : Int) + 1))), (1, .int (ji_n (sp_lc K z i))), (0, .ref (w 0))]) [0, 1, 2] rfl
          rw [show (ji_n ((i : Int) + 1)) = (ji_n ((i + 1 : Nat) : Int)) from (congrArg ji_n (by omega))] at hl2
          rw [show (ji_n (sp_lc K z i)) = (ji_n (sp_lc K z (i + 1))) from (congrArg ji_n (by rw [sp_lc_s]; split <;> omega))] at hl2
          exact hl2
        exact ih2 (by omega) ls hl 
      · skip
        refine jn_iinc (lv' := [(1, .int (ji_n ((sp_lc K z i) + 1))), (2, .int (ji_n (i : Int))), (0, .ref (w 0))]) (k := 1) (v := (sp_lc K z i) + 1) hx hb dX0_countLong_25 hl rfl rfl (by decide) rfl (fun ls hl => ?_)
        refine jn_iinc (lv' := [(2, .int (ji_n ((i : Int) + 1))), (1, .int (ji_n ((sp_lc K z i) + 1))), (0, .ref (w 0))]) (k := 1) (v := (i : Int) + 1) hx hb dX0_countLong_28 hl rfl rfl (by decide) rfl (fun ls hl => ?_)
        refine lv_goto hx hb dX0_countLong_31 (tgt := 4) rfl ?_
        have hl : lv_has ls 3 [(2, .int (ji_n ((i + 1 : Nat) : Int))), (1, .int (ji_n (sp_lc K z (i + 1)))), (0, .ref (w 0))] := by
          have hl2 := lv_sub hl (l' := [(2, .int (ji_n ((i : Int) + 1))), (1, .int (ji_n ((sp_lc K z i) + 1))), (0, .ref (w 0))]) [0, 1, 2] rfl
          rw [show (ji_n ((i : Int) + 1)) = (ji_n ((i + 1 : Nat) : Int)) from (congrArg ji_n (by omega))] at hl2
          rw [show (ji_n ((sp_lc K z i) + 1)) = (ji_n (sp_lc K z (i + 1))) from (congrArg ji_n (by rw [sp_lc_s]; split <;> omega))] at hl2
          exact hl2
        exact ih2 (by omega) ls hl 
  have hl : lv_has ls 3 [(2, .int (ji_n ((0 : Nat) : Int))), (1, .int (ji_n (sp_lc K z 0))), (0, .ref (w 0))] := lv_sub hl [0, 1, 2] rfl
  exact loop1 0 (by omega) ls hl 

set_option maxHeartbeats 4000000 in
set_option maxRecDepth 100000 in
theorem ct_opposite (l : Launch) (x : Int) (r1 : 0 ≤ x ∧ x ≤ 7) : Met l yX0_oppositeCode wsX0_oppositeCode { frames := 0, cells := 0, slots := 0, locals := 0 } (va_Pc [.int (ji_n x)] (fun U => True)) (vp_Si (fun r => r = ji_n (sp_op x))) 0 0 (fun _ => False) := by
  refine st_rd (cc := cX0_oppositeCode) (maxL := 2) (ret := some .int) (ty := .int) (by decide) rfl rfl (Nat.le_of_ble_eq_true rfl) (lv := [(0, .int (ji_n x))]) rfl (fun v h => rfl) ?_
  intro p e s m args below meth c R Q ls hx hb hts hown hml hR hB hl hend
  have hop := sp_op_or (c := x)
  refine jn_bipush hx hb dX0_oppositeCode_0 (by decide) ?_
  refine lv_iload_n hx hb dX0_oppositeCode_2 rfl (lv_at hl 0 rfl) ?_
  refine jn_iconst hx hb dX0_oppositeCode_3 ?_
  refine jn_xor4 hx hb dX0_oppositeCode_4 (by omega) ?_
  have hx4 := sp_x4_or x
  refine jn_iadd hx hb dX0_oppositeCode_5 (v := 32 + (sp_x4 x)) rfl ?_
  refine lv_istore_n (lv' := [(1, .int (ji_n (32 + (sp_x4 x)))), (0, .int (ji_n x))]) hx hb dX0_oppositeCode_6 rfl hl (by decide) rfl (fun ls hl => ?_)
  refine lv_iload_n hx hb dX0_oppositeCode_7 rfl (lv_at hl 0 rfl) ?_
  refine jn_bipush hx hb dX0_oppositeCode_8 (by decide) ?_
  refine jn_icmp_ne hx hb dX0_oppositeCode_10 (tgt := 20) rfl (by unfold ji_r; omega) (by unfold ji_r; omega) (fun hc1 => ?_) (fun hc1 => ?_)
  · skip
    refine lv_iload_n hx hb dX0_oppositeCode_20 rfl (lv_at hl 0 rfl) ?_
    exact hend _ _ _ dX0_oppositeCode_21 (congrArg ji_n (by omega))
  · skip
    refine jn_bipush hx hb dX0_oppositeCode_13 (by decide) ?_
    refine lv_iload_n hx hb dX0_oppositeCode_15 rfl (lv_at hl 1 rfl) ?_
    refine jn_iadd hx hb dX0_oppositeCode_16 (v := 40 + x) rfl ?_
    refine lv_goto hx hb dX0_oppositeCode_17 (tgt := 21) rfl ?_
    exact hend _ _ _ dX0_oppositeCode_21 (congrArg ji_n (by omega))

set_option maxHeartbeats 4000000 in
set_option maxRecDepth 100000 in
theorem ct_pairByte (l : Launch) (x o : Int) (r1 : ji_r x) (r2 : ji_r o) : Met l yX0_pairByte wsX0_pairByte { frames := 0, cells := 0, slots := 0, locals := 0 } (va_Pc [.int (ji_n x), .int (ji_n o)] (fun U => True)) (vp_Si (fun r => r = ji_n (sp_pb x o))) 0 0 (fun _ => False) := by
  refine st_rd (cc := cX0_pairByte) (maxL := 2) (ret := some .int) (ty := .int) (by decide) rfl rfl (Nat.le_of_ble_eq_true rfl) (lv := [(0, .int (ji_n x)), (1, .int (ji_n o))]) rfl (fun v h => rfl) ?_
  intro p e s m args below meth c R Q ls hx hb hts hown hml hR hB hl hend
  have hpb := sp_pb_or x o
  refine lv_iload_n hx hb dX0_pairByte_0 rfl (lv_at hl 1 rfl) ?_
  refine jn_if_ne hx hb dX0_pairByte_1 (tgt := 15) rfl r2 (fun hc1 => ?_) (fun hc1 => ?_)
  · skip
    refine lv_iload_n hx hb dX0_pairByte_15 rfl (lv_at hl 0 rfl) ?_
    refine jn_sipush hx hb dX0_pairByte_16 (by decide) ?_
    refine jn_and255 hx hb dX0_pairByte_19 ?_
    exact hend _ _ _ dX0_pairByte_20 (congrArg ji_n (by omega))
  · skip
    refine lv_iload_n hx hb dX0_pairByte_4 rfl (lv_at hl 0 rfl) ?_
    refine jn_bipush hx hb dX0_pairByte_5 (by decide) ?_
    refine jn_shr8 hx hb dX0_pairByte_7 r1 ?_
    refine jn_sipush hx hb dX0_pairByte_8 (by decide) ?_
    refine jn_and255 hx hb dX0_pairByte_11 ?_
    refine lv_goto hx hb dX0_pairByte_12 (tgt := 20) rfl ?_
    exact hend _ _ _ dX0_pairByte_20 (congrArg ji_n (by omega))

set_option maxHeartbeats 4000000 in
set_option maxRecDepth 100000 in
theorem ct_shortByte (l : Launch) (dC : Nat → ClassId) (dI : Nat → Nat → Nat) (cI : ClassId) (w : Nat → Nat) (n : Nat) (g0 g1 g2 st fm vl : Nat → Int32) (K A B z : Nat → Int) (hF : as_F n K A B g0 g1 g2) (hAS : sp_AS n K A B z) (hS : as_S n K A z st fm vl) (j : Nat) (hj : j < n) (o : Int) (h3 : K j = 3) (ho0 : 0 ≤ o) (hoz : o < z j) (hz2 : z j = 2) : Met l yX0_shortByte wsX0_shortByte { frames := 1, cells := 0, slots := 0, locals := 21 } (va_Pc [.ref (w 0), .int (ji_n (j : Int)), .int (ji_n o)] (fun U => va_P (dC, dI) vwCl (wo_A w cI n g0 g1 g2 st fm vl) U.heap ∧ kn_K dC dI cI U)) (vp_Si (fun r => r = ji_n (sp_lb n K A B z j o))) 0 0 (fun _ => False) := by
  refine st_rd (cc := cX0_shortByte) (maxL := 3) (ret := some .int) (ty := .int) (by decide) rfl rfl (Nat.le_of_ble_eq_true rfl) (lv := [(0, .ref (w 0)), (1, .int (ji_n (j : Int))), (2, .int (ji_n o))]) rfl (fun v h => rfl) ?_
  intro p e s m args below meth c R Q ls hx hb hts hown hml hR hB hl hend
  obtain ⟨hP, hN⟩ := hB
  have hK := hN.1
  have hinX0 : ∀ w ∈ u_ws RX0 TX0 4, w ∈ wsX0_shortByte := fun w h => List.mem_cons_of_mem _ (inX0 w h)
  have hfl12 := (hts _ (List.mem_cons_of_mem _ tm_57))
  have hinX1 : ∀ w ∈ u_ws RX1 TX1 4, w ∈ wsX0_shortByte := fun w h => List.mem_cons_of_mem _ (inX1 w h)
  have hS0 := hS
  have hn := hAS.1
  have hg := hAS.2.1
  have ho := hAS.2.2.1
  obtain ⟨hst, hfm, hvl⟩ := hS
  have hgj := hg j (by omega)
  unfold sp_gd at hgj
  have hoj := ho j (by omega)
  have hfj := sp_fm_or (K j) (z j)
  have hlj := sp_lg_or (B j)
  have hlb := sp_lb_or (n := n) (A := A) (B := B) (z := z) (j := j) o h3
  have hlo : sp_lo (sp_ds n K A z j) = sp_ds n K A z j % 256 := rfl
  refine lv_iload_n hx hb dX0_shortByte_0 rfl (lv_at hl 2 rfl) ?_
  refine jn_if_ne hx hb dX0_shortByte_1 (tgt := 19) rfl (by unfold ji_r; omega) (fun hc1 => ?_) (fun hc1 => ?_)
  · skip
    refine lv_aload_n hx hb dX0_shortByte_19 rfl (lv_at hl 0 rfl) ?_
    refine lv_iload_n hx hb dX0_shortByte_20 rfl (lv_at hl 1 rfl) ?_
    refine cl_rd (va_runV (As := [.int (ji_n (j : Int))]) (rest := []) ⟨hx, hb, hml, hown, hts⟩ (ct_distance l dC dI cI w n g0 g1 g2 st fm vl K A B z hF hAS hst hvl j (by omega) (by omega)) (cwV 1 hts (ub_V tm_147 tm_149 tm_s4 tm_3 tm_150) rfl rfl rfl (by decide +kernel) (by rw [hR]; exact ⟨Nat.le_of_ble_eq_true rfl, Nat.le_of_ble_eq_true rfl⟩)) (pv_rd (q0 := 0) (ci := 0) hN hP rfl rfl) rfl rfl hl.1 rfl (lv_room (Nat.le_of_ble_eq_true rfl)) dX0_shortByte_21 ⟨Nat.zero_le _, Nat.zero_le _⟩) ?_
    have hds := sp_AS_ds hAS (j := j) (by omega)
    refine jn_sipush hx hb dX0_shortByte_24 (by decide) ?_
    refine jn_and255 hx hb dX0_shortByte_27 ?_
    exact hend _ _ _ dX0_shortByte_28 (congrArg ji_n (by omega))
  · skip
    refine jn_bipush hx hb dX0_shortByte_4 (by decide) ?_
    refine lv_aload_n hx hb dX0_shortByte_6 rfl (lv_at hl 0 rfl) ?_
    refine va_get (ci := 0) (C := RX0) (T := TX0) (N := 4) hx hb hts hinX0 hown hK hP 0 rfl rfl 0 (by decide) hfl12 (fun _ h9 => h9) rfl dX0_shortByte_7 ?_
    refine va_getN (ci := 1) (C := RX1) (T := TX1) (N := 4) hx hb hts hinX1 hown hK hP 4 rfl rfl 2 (by decide) (va_Nw.use rfl (nw_8 hN)) (fun _ h9 => h9) rfl dX0_shortByte_10 ?_
    refine lv_iload_n hx hb dX0_shortByte_13 rfl (lv_at hl 1 rfl) ?_
    refine jn_iald hx hb hK hP 7 0 rfl rfl j (by omega) (by omega) (by decide) (v := B j) (hF.2.2 j (by omega)) dX0_shortByte_14 ?_
    refine jn_iadd hx hb dX0_shortByte_15 (v := 32 + (B j)) rfl ?_
    refine lv_goto hx hb dX0_shortByte_16 (tgt := 28) rfl ?_
    exact hend _ _ _ dX0_shortByte_28 (congrArg ji_n (by omega))

set_option maxHeartbeats 4000000 in
set_option maxRecDepth 100000 in
theorem ct_longByte (l : Launch) (dC : Nat → ClassId) (dI : Nat → Nat → Nat) (cI : ClassId) (w : Nat → Nat) (n : Nat) (g0 g1 g2 st fm vl : Nat → Int32) (K A B z : Nat → Int) (hF : as_F n K A B g0 g1 g2) (hAS : sp_AS n K A B z) (hS : as_S n K A z st fm vl) (j : Nat) (hj : j < n) (o : Int) (h3 : K j = 3) (ho0 : 0 ≤ o) (hoz : o < z j) (hz2 : z j ≠ 2) : Met l yX0_longByte wsX0_longByte { frames := 1, cells := 0, slots := 0, locals := 22 } (va_Pc [.ref (w 0), .int (ji_n (j : Int)), .int (ji_n o)] (fun U => va_P (dC, dI) vwCl (wo_A w cI n g0 g1 g2 st fm vl) U.heap ∧ kn_K dC dI cI U)) (vp_Si (fun r => r = ji_n (sp_lb n K A B z j o))) 0 0 (fun _ => False) := by
  refine st_rd (cc := cX0_longByte) (maxL := 4) (ret := some .int) (ty := .int) (by decide) rfl rfl (Nat.le_of_ble_eq_true rfl) (lv := [(0, .ref (w 0)), (1, .int (ji_n (j : Int))), (2, .int (ji_n o))]) rfl (fun v h => rfl) ?_
  intro p e s m args below meth c R Q ls hx hb hts hown hml hR hB hl hend
  obtain ⟨hP, hN⟩ := hB
  have hK := hN.1
  have hinX0 : ∀ w ∈ u_ws RX0 TX0 4, w ∈ wsX0_longByte := fun w h => List.mem_cons_of_mem _ (inX0 w h)
  have hfl12 := (hts _ (List.mem_cons_of_mem _ tm_57))
  have hinX1 : ∀ w ∈ u_ws RX1 TX1 4, w ∈ wsX0_longByte := fun w h => List.mem_cons_of_mem _ (inX1 w h)
  have hS0 := hS
  have hn := hAS.1
  have hg := hAS.2.1
  have ho := hAS.2.2.1
  obtain ⟨hst, hfm, hvl⟩ := hS
  have hgj := hg j (by omega)
  unfold sp_gd at hgj
  have hoj := ho j (by omega)
  have hfj := sp_fm_or (K j) (z j)
  have hlj := sp_lg_or (B j)
  have hlb := sp_lb_or (n := n) (A := A) (B := B) (z := z) (j := j) o h3
  have hlo : sp_lo (sp_ds n K A z j) = sp_ds n K A z j % 256 := rfl
  refine lv_aload_n hx hb dX0_longByte_0 rfl (lv_at hl 0 rfl) ?_
  refine lv_iload_n hx hb dX0_longByte_1 rfl (lv_at hl 1 rfl) ?_
  refine cl_rd (va_runV (As := [.int (ji_n (j : Int))]) (rest := []) ⟨hx, hb, hml, hown, hts⟩ (ct_lineSize l dC dI cI w n g0 g1 g2 st fm vl K A B z hF hn hg ho hfm j (by omega)) (cwV 1 hts (ub_V tm_140 tm_142 tm_s3 tm_3 tm_143) rfl rfl rfl (by decide +kernel) (by rw [hR]; exact ⟨Nat.le_of_ble_eq_true rfl, Nat.le_of_ble_eq_true rfl⟩)) (pv_rd (q0 := 0) (ci := 0) hN hP rfl rfl) rfl rfl hl.1 rfl (lv_room (Nat.le_of_ble_eq_true rfl)) dX0_longByte_2 ⟨Nat.zero_le _, Nat.zero_le _⟩) ?_
  refine jn_iconst hx hb dX0_longByte_5 ?_
  refine jn_isub hx hb dX0_longByte_6 (v := (z j) - 3) rfl ?_
  refine lv_istore_n (lv' := [(3, .int (ji_n ((z j) - 3))), (0, .ref (w 0)), (1, .int (ji_n (j : Int))), (2, .int (ji_n o))]) hx hb dX0_longByte_7 rfl hl (by decide) rfl (fun ls hl => ?_)
  refine lv_iload_n hx hb dX0_longByte_8 rfl (lv_at hl 3 rfl) ?_
  refine lv_iload_n hx hb dX0_longByte_9 rfl (lv_at hl 0 rfl) ?_
  refine jn_icmp_ge hx hb dX0_longByte_10 (tgt := 34) rfl (by unfold ji_r; omega) (by unfold ji_r; omega) (fun hc1 => ?_) (fun hc1 => ?_)
  · skip
    refine lv_iload_n hx hb dX0_longByte_34 rfl (lv_at hl 3 rfl) ?_
    refine lv_iload_n hx hb dX0_longByte_35 rfl (lv_at hl 0 rfl) ?_
    refine jn_icmp_ne hx hb dX0_longByte_36 (tgt := 44) rfl (by unfold ji_r; omega) (by unfold ji_r; omega) (fun hc2 => ?_) (fun hc2 => ?_)
    · skip
      refine lv_aload_n hx hb dX0_longByte_44 rfl (lv_at hl 1 rfl) ?_
      refine lv_iload_n hx hb dX0_longByte_45 rfl (lv_at hl 2 rfl) ?_
      refine cl_rd (va_runV (As := [.int (ji_n (j : Int))]) (rest := []) ⟨hx, hb, hml, hown, hts⟩ (ct_distance l dC dI cI w n g0 g1 g2 st fm vl K A B z hF hAS hst hvl j (by omega) (by omega)) (cwV 1 hts (ub_V tm_147 tm_149 tm_s4 tm_3 tm_150) rfl rfl rfl (by decide +kernel) (by rw [hR]; exact ⟨Nat.le_of_ble_eq_true rfl, Nat.le_of_ble_eq_true rfl⟩)) (pv_rd (q0 := 0) (ci := 0) hN hP rfl rfl) rfl rfl hl.1 rfl (lv_room (Nat.le_of_ble_eq_true rfl)) dX0_longByte_46 ⟨Nat.zero_le _, Nat.zero_le _⟩) ?_
      have hds := sp_AS_ds hAS (j := j) (by omega)
      refine lv_iload_n hx hb dX0_longByte_49 rfl (lv_at hl 3 rfl) ?_
      refine lv_iload_n hx hb dX0_longByte_50 rfl (lv_at hl 0 rfl) ?_
      refine jn_isub hx hb dX0_longByte_51 (v := o - ((z j) - 3)) rfl ?_
      refine jn_iconst hx hb dX0_longByte_52 ?_
      refine jn_isub hx hb dX0_longByte_53 (v := (o - ((z j) - 3)) - 1) rfl ?_
      refine cl_rd (va_runS (As := [.int (ji_n (sp_ds n K A z j)), .int (ji_n ((o - ((z j) - 3)) - 1))]) (rest := []) ⟨hx, hb, hml, hown, hts⟩ (ct_pairByte l (sp_ds n K A z j) ((o - ((z j) - 3)) - 1) (by unfold ji_r; omega) (by unfold ji_r; omega)) (va_cwS 2 hts (ub_S tm_133 tm_134 tm_3 tm_135) rfl rfl rfl (by decide +kernel) (by rw [hR]; exact ⟨Nat.le_of_ble_eq_true rfl, Nat.le_of_ble_eq_true rfl⟩)) ⟨fun _ _ _ _ q => q, fun U _ _ => ⟨rfl, trivial⟩⟩ rfl rfl hl.1 rfl (lv_room (Nat.le_of_ble_eq_true rfl)) dX0_longByte_54 ⟨Nat.zero_le _, Nat.zero_le _⟩) ?_
      exact hend _ _ _ dX0_longByte_57 (congrArg ji_n (by have hpb := sp_pb_or (sp_ds n K A z j) (o - (z j - 3) - 1); omega))
    · skip
      refine jn_bipush hx hb dX0_longByte_39 (by decide) ?_
      refine lv_goto hx hb dX0_longByte_41 (tgt := 57) rfl ?_
      exact hend _ _ _ dX0_longByte_57 (congrArg ji_n (by have hpb := sp_pb_or (sp_ds n K A z j) (o - (z j - 3) - 1); omega))
  · skip
    refine lv_iload_n hx hb dX0_longByte_13 rfl (lv_at hl 3 rfl) ?_
    refine jn_if_ne hx hb dX0_longByte_14 (tgt := 32) rfl (by unfold ji_r; omega) (fun hc3 => ?_) (fun hc3 => ?_)
    · skip
      refine jn_iconst hx hb dX0_longByte_32 ?_
      exact hend _ _ _ dX0_longByte_33 (congrArg ji_n (by have hpb := sp_pb_or (sp_ds n K A z j) (o - (z j - 3) - 1); omega))
    · skip
      refine lv_aload_n hx hb dX0_longByte_17 rfl (lv_at hl 1 rfl) ?_
      refine va_get (ci := 0) (C := RX0) (T := TX0) (N := 4) hx hb hts hinX0 hown hK hP 0 rfl rfl 0 (by decide) hfl12 (fun _ h9 => h9) rfl dX0_longByte_18 ?_
      refine va_getN (ci := 1) (C := RX1) (T := TX1) (N := 4) hx hb hts hinX1 hown hK hP 4 rfl rfl 2 (by decide) (va_Nw.use rfl (nw_8 hN)) (fun _ h9 => h9) rfl dX0_longByte_21 ?_
      refine lv_iload_n hx hb dX0_longByte_24 rfl (lv_at hl 2 rfl) ?_
      refine jn_iald hx hb hK hP 7 0 rfl rfl j (by omega) (by omega) (by decide) (v := B j) (hF.2.2 j (by omega)) dX0_longByte_25 ?_
      refine cl_rd (va_runS (As := [.int (ji_n (B j))]) (rest := []) ⟨hx, hb, hml, hown, hts⟩ (ct_opposite l (B j) (by omega)) (va_cwS 1 hts (ub_S tm_144 tm_145 tm_3 tm_146) rfl rfl rfl (by decide +kernel) (by rw [hR]; exact ⟨Nat.le_of_ble_eq_true rfl, Nat.le_of_ble_eq_true rfl⟩)) ⟨fun _ _ _ _ q => q, fun U _ _ => ⟨rfl, trivial⟩⟩ rfl rfl hl.1 rfl (lv_room (Nat.le_of_ble_eq_true rfl)) dX0_longByte_26 ⟨Nat.zero_le _, Nat.zero_le _⟩) ?_
      refine lv_goto hx hb dX0_longByte_29 (tgt := 33) rfl ?_
      exact hend _ _ _ dX0_longByte_33 (congrArg ji_n (by have hpb := sp_pb_or (sp_ds n K A z j) (o - (z j - 3) - 1); omega))

set_option maxHeartbeats 4000000 in
set_option maxRecDepth 100000 in
theorem ct_lineByte (l : Launch) (dC : Nat → ClassId) (dI : Nat → Nat → Nat) (cI : ClassId) (w : Nat → Nat) (n : Nat) (g0 g1 g2 st fm vl : Nat → Int32) (K A B z : Nat → Int) (hF : as_F n K A B g0 g1 g2) (hAS : sp_AS n K A B z) (hS : as_S n K A z st fm vl) (j : Nat) (hj : j < n) (o : Int) (ho0 : 0 ≤ o) (hoz : o < z j) : Met l yX0_lineByte wsX0_lineByte { frames := 2, cells := 0, slots := 0, locals := 45 } (va_Pc [.ref (w 0), .int (ji_n (j : Int)), .int (ji_n o)] (fun U => va_P (dC, dI) vwCl (wo_A w cI n g0 g1 g2 st fm vl) U.heap ∧ kn_K dC dI cI U)) (vp_Si (fun r => r = ji_n (sp_lb n K A B z j o))) 0 0 (fun _ => False) := by
  refine st_rd (cc := cX0_lineByte) (maxL := 4) (ret := some .int) (ty := .int) (by decide) rfl rfl (Nat.le_of_ble_eq_true rfl) (lv := [(0, .ref (w 0)), (1, .int (ji_n (j : Int))), (2, .int (ji_n o))]) rfl (fun v h => rfl) ?_
  intro p e s m args below meth c R Q ls hx hb hts hown hml hR hB hl hend
  obtain ⟨hP, hN⟩ := hB
  have hK := hN.1
  have hinX0 : ∀ w ∈ u_ws RX0 TX0 4, w ∈ wsX0_lineByte := fun w h => List.mem_cons_of_mem _ (inX0 w h)
  have hfl12 := (hts _ (List.mem_cons_of_mem _ tm_57))
  have hfl18 := (hts _ (List.mem_cons_of_mem _ tm_59))
  have hfl22 := (hts _ (List.mem_cons_of_mem _ tm_61))
  have hfl25 := (hts _ (List.mem_cons_of_mem _ tm_63))
  have hinX1 : ∀ w ∈ u_ws RX1 TX1 4, w ∈ wsX0_lineByte := fun w h => List.mem_cons_of_mem _ (inX1 w h)
  have hS0 := hS
  have hn := hAS.1
  have hg := hAS.2.1
  have ho := hAS.2.2.1
  obtain ⟨hst, hfm, hvl⟩ := hS
  have hgj := hg j (by omega)
  unfold sp_gd at hgj
  have hoj := ho j (by omega)
  have hfj := sp_fm_or (K j) (z j)
  have hlj := sp_lg_or (B j)
  have hla := sp_AS_la hAS (Nat.le_refl n) (A j)
  refine lv_aload_n hx hb dX0_lineByte_0 rfl (lv_at hl 0 rfl) ?_
  refine va_get (ci := 0) (C := RX0) (T := TX0) (N := 4) hx hb hts hinX0 hown hK hP 0 rfl rfl 0 (by decide) hfl12 (fun _ h9 => h9) rfl dX0_lineByte_1 ?_
  refine va_getN (ci := 1) (C := RX1) (T := TX1) (N := 4) hx hb hts hinX1 hown hK hP 4 rfl rfl 0 (by decide) (va_Nw.use rfl (nw_6 hN)) (fun _ h9 => h9) rfl dX0_lineByte_4 ?_
  refine lv_iload_n hx hb dX0_lineByte_7 rfl (lv_at hl 1 rfl) ?_
  refine jn_iald hx hb hK hP 5 0 rfl rfl j (by omega) (by omega) (by decide) (v := K j) (hF.1 j (by omega)) dX0_lineByte_8 ?_
  refine lv_istore_n (lv' := [(3, .int (ji_n (K j))), (0, .ref (w 0)), (1, .int (ji_n (j : Int))), (2, .int (ji_n o))]) hx hb dX0_lineByte_9 rfl hl (by decide) rfl (fun ls hl => ?_)
  refine lv_iload_n hx hb dX0_lineByte_10 rfl (lv_at hl 0 rfl) ?_
  refine jn_iconst hx hb dX0_lineByte_11 ?_
  refine jn_icmp_ne hx hb dX0_lineByte_12 (tgt := 25) rfl (by unfold ji_r; omega) (by unfold ji_r; omega) (fun hc1 => ?_) (fun hc1 => ?_)
  · skip
    refine lv_iload_n hx hb dX0_lineByte_25 rfl (lv_at hl 0 rfl) ?_
    refine jn_iconst hx hb dX0_lineByte_26 ?_
    refine jn_icmp_ne hx hb dX0_lineByte_27 (tgt := 59) rfl (by unfold ji_r; omega) (by unfold ji_r; omega) (fun hc2 => ?_) (fun hc2 => ?_)
    · skip
      refine lv_aload_n hx hb dX0_lineByte_59 rfl (lv_at hl 1 rfl) ?_
      refine va_get (ci := 0) (C := RX0) (T := TX0) (N := 4) hx hb hts hinX0 hown hK hP 0 rfl rfl 2 (by decide) hfl22 (fun _ h9 => h9) rfl dX0_lineByte_60 ?_
      refine lv_iload_n hx hb dX0_lineByte_63 rfl (lv_at hl 2 rfl) ?_
      refine jn_iald hx hb hK hP 2 0 rfl rfl j (by omega) (by omega) (by decide) (v := sp_fm (K j) (z j)) (hfm j (by omega)) dX0_lineByte_64 ?_
      refine jn_iconst hx hb dX0_lineByte_65 ?_
      refine jn_icmp_ne hx hb dX0_lineByte_66 (tgt := 78) rfl (by unfold ji_r; omega) (by unfold ji_r; omega) (fun hc3 => ?_) (fun hc3 => ?_)
      · skip
        refine lv_aload_n hx hb dX0_lineByte_78 rfl (lv_at hl 1 rfl) ?_
        refine lv_iload_n hx hb dX0_lineByte_79 rfl (lv_at hl 2 rfl) ?_
        refine lv_iload_n hx hb dX0_lineByte_80 rfl (lv_at hl 3 rfl) ?_
        refine cl_rd (va_runV (As := [.int (ji_n (j : Int)), .int (ji_n o)]) (rest := []) ⟨hx, hb, hml, hown, hts⟩ (ct_shortByte l dC dI cI w n g0 g1 g2 st fm vl K A B z hF hAS hS0 j hj o (by omega) ho0 hoz (by omega)) (cwV 2 hts (ub_V tm_151 tm_153 tm_s5 tm_3 tm_154) rfl rfl rfl (by decide +kernel) (by rw [hR]; exact ⟨Nat.le_of_ble_eq_true rfl, Nat.le_of_ble_eq_true rfl⟩)) (pv_rd (q0 := 0) (ci := 0) hN hP rfl rfl) rfl rfl hl.1 rfl (lv_room (Nat.le_of_ble_eq_true rfl)) dX0_lineByte_81 ⟨Nat.zero_le _, Nat.zero_le _⟩) ?_
        exact hend _ _ _ dX0_lineByte_84 rfl
      · skip
        refine lv_aload_n hx hb dX0_lineByte_69 rfl (lv_at hl 1 rfl) ?_
        refine lv_iload_n hx hb dX0_lineByte_70 rfl (lv_at hl 2 rfl) ?_
        refine lv_iload_n hx hb dX0_lineByte_71 rfl (lv_at hl 3 rfl) ?_
        refine cl_rd (va_runV (As := [.int (ji_n (j : Int)), .int (ji_n o)]) (rest := []) ⟨hx, hb, hml, hown, hts⟩ (ct_longByte l dC dI cI w n g0 g1 g2 st fm vl K A B z hF hAS hS0 j hj o (by omega) ho0 hoz (by omega)) (cwV 2 hts (ub_V tm_136 tm_138 tm_s2 tm_3 tm_139) rfl rfl rfl (by decide +kernel) (by rw [hR]; exact ⟨Nat.le_of_ble_eq_true rfl, Nat.le_of_ble_eq_true rfl⟩)) (pv_rd (q0 := 0) (ci := 0) hN hP rfl rfl) rfl rfl hl.1 rfl (lv_room (Nat.le_of_ble_eq_true rfl)) dX0_lineByte_72 ⟨Nat.zero_le _, Nat.zero_le _⟩) ?_
        refine lv_goto hx hb dX0_lineByte_75 (tgt := 84) rfl ?_
        exact hend _ _ _ dX0_lineByte_84 rfl
    · skip
      refine lv_aload_n hx hb dX0_lineByte_30 rfl (lv_at hl 1 rfl) ?_
      refine va_get (ci := 0) (C := RX0) (T := TX0) (N := 4) hx hb hts hinX0 hown hK hP 0 rfl rfl 3 (by decide) hfl25 (fun _ h9 => h9) rfl dX0_lineByte_31 ?_
      refine lv_aload_n hx hb dX0_lineByte_34 rfl (lv_at hl 1 rfl) ?_
      refine va_get (ci := 0) (C := RX0) (T := TX0) (N := 4) hx hb hts hinX0 hown hK hP 0 rfl rfl 0 (by decide) hfl12 (fun _ h9 => h9) rfl dX0_lineByte_35 ?_
      refine va_getN (ci := 1) (C := RX1) (T := TX1) (N := 4) hx hb hts hinX1 hown hK hP 4 rfl rfl 1 (by decide) (va_Nw.use rfl (nw_7 hN)) (fun _ h9 => h9) rfl dX0_lineByte_38 ?_
      refine lv_iload_n hx hb dX0_lineByte_41 rfl (lv_at hl 2 rfl) ?_
      refine jn_iald hx hb hK hP 6 0 rfl rfl j (by omega) (by omega) (by decide) (v := A j) (hF.2.1 j (by omega)) dX0_lineByte_42 ?_
      refine jn_iald hx hb hK hP 3 0 rfl rfl ((A j).toNat) (by omega) (by omega) (by decide) (v := sp_la K A z n (A j)) (hvl (A j) (by omega) (by omega)) dX0_lineByte_43 ?_
      refine lv_aload_n hx hb dX0_lineByte_44 rfl (lv_at hl 1 rfl) ?_
      refine va_get (ci := 0) (C := RX0) (T := TX0) (N := 4) hx hb hts hinX0 hown hK hP 0 rfl rfl 0 (by decide) hfl12 (fun _ h9 => h9) rfl dX0_lineByte_45 ?_
      refine va_getN (ci := 1) (C := RX1) (T := TX1) (N := 4) hx hb hts hinX1 hown hK hP 4 rfl rfl 2 (by decide) (va_Nw.use rfl (nw_8 hN)) (fun _ h9 => h9) rfl dX0_lineByte_48 ?_
      refine lv_iload_n hx hb dX0_lineByte_51 rfl (lv_at hl 2 rfl) ?_
      refine jn_iald hx hb hK hP 7 0 rfl rfl j (by omega) (by omega) (by decide) (v := B j) (hF.2.2 j (by omega)) dX0_lineByte_52 ?_
      refine jn_iadd hx hb dX0_lineByte_53 (v := (sp_la K A z n (A j)) + (B j)) rfl ?_
      refine lv_iload_n hx hb dX0_lineByte_54 rfl (lv_at hl 3 rfl) ?_
      refine cl_rd (va_runS (As := [.int (ji_n ((sp_la K A z n (A j)) + (B j))), .int (ji_n o)]) (rest := []) ⟨hx, hb, hml, hown, hts⟩ (ct_pairByte l ((sp_la K A z n (A j)) + (B j)) o (by unfold ji_r; omega) (by unfold ji_r; omega)) (va_cwS 2 hts (ub_S tm_133 tm_134 tm_3 tm_135) rfl rfl rfl (by decide +kernel) (by rw [hR]; exact ⟨Nat.le_of_ble_eq_true rfl, Nat.le_of_ble_eq_true rfl⟩)) ⟨fun _ _ _ _ q => q, fun U _ _ => ⟨rfl, trivial⟩⟩ rfl rfl hl.1 rfl (lv_room (Nat.le_of_ble_eq_true rfl)) dX0_lineByte_55 ⟨Nat.zero_le _, Nat.zero_le _⟩) ?_
      exact hend _ _ _ dX0_lineByte_58 (congrArg ji_n (sp_lb_2 (by omega)).symm)
  · skip
    refine lv_aload_n hx hb dX0_lineByte_15 rfl (lv_at hl 1 rfl) ?_
    refine va_get (ci := 0) (C := RX0) (T := TX0) (N := 4) hx hb hts hinX0 hown hK hP 0 rfl rfl 0 (by decide) hfl12 (fun _ h9 => h9) rfl dX0_lineByte_16 ?_
    refine va_getN (ci := 1) (C := RX1) (T := TX1) (N := 4) hx hb hts hinX1 hown hK hP 4 rfl rfl 2 (by decide) (va_Nw.use rfl (nw_8 hN)) (fun _ h9 => h9) rfl dX0_lineByte_19 ?_
    refine lv_iload_n hx hb dX0_lineByte_22 rfl (lv_at hl 2 rfl) ?_
    refine jn_iald hx hb hK hP 7 0 rfl rfl j (by omega) (by omega) (by decide) (v := B j) (hF.2.2 j (by omega)) dX0_lineByte_23 ?_
    exact hend _ _ _ dX0_lineByte_24 (congrArg ji_n (sp_lb_1 (by omega)).symm)

set_option maxHeartbeats 4000000 in
set_option maxRecDepth 100000 in
theorem ct_byteAt (l : Launch) (dC : Nat → ClassId) (dI : Nat → Nat → Nat) (cI : ClassId) (w : Nat → Nat) (n : Nat) (g0 g1 g2 st fm vl : Nat → Int32) (K A B z : Nat → Int) (hF : as_F n K A B g0 g1 g2) (hAS : sp_AS n K A B z) (hS : as_S n K A z st fm vl) (x : Int) (r1 : ji_r x) : Met l yX0_byteAt wsX0_byteAt { frames := 3, cells := 0, slots := 0, locals := 68 } (va_Pc [.ref (w 0), .int (ji_n x)] (fun U => va_P (dC, dI) vwCl (wo_A w cI n g0 g1 g2 st fm vl) U.heap ∧ kn_K dC dI cI U)) (vp_Si (fun r => r = ji_n (sp_ba n K A B z x))) 0 0 (fun _ => False) := by
  refine st_rd (cc := cX0_byteAt) (maxL := 3) (ret := some .int) (ty := .int) (by decide) rfl rfl (Nat.le_of_ble_eq_true rfl) (lv := [(0, .ref (w 0)), (1, .int (ji_n x))]) rfl (fun v h => rfl) ?_
  intro p e s m args below meth c R Q ls hx hb hts hown hml hR hB hl hend
  obtain ⟨hP, hN⟩ := hB
  have hK := hN.1
  have hinX0 : ∀ w ∈ u_ws RX0 TX0 4, w ∈ wsX0_byteAt := fun w h => List.mem_cons_of_mem _ (inX0 w h)
  have hfl12 := (hts _ (List.mem_cons_of_mem _ tm_57))
  have hfl18 := (hts _ (List.mem_cons_of_mem _ tm_59))
  have hinX1 : ∀ w ∈ u_ws RX1 TX1 4, w ∈ wsX0_byteAt := fun w h => List.mem_cons_of_mem _ (inX1 w h)
  have hS0 := hS
  have hn := hAS.1
  have hg := hAS.2.1
  have ho := hAS.2.2.1
  obtain ⟨hst, hfm, hvl⟩ := hS
  refine lv_iload_n hx hb dX0_byteAt_0 rfl (lv_at hl 1 rfl) ?_
  refine jn_if_ge hx hb dX0_byteAt_1 (tgt := 6) rfl r1 (fun hc1 => ?_) (fun hc1 => ?_)
  · skip
    refine jn_iconst hx hb dX0_byteAt_6 ?_
    refine lv_istore_n (lv' := [(2, .int (ji_n 0)), (0, .ref (w 0)), (1, .int (ji_n x))]) hx hb dX0_byteAt_7 rfl hl (by decide) rfl (fun ls hl => ?_)
    have loop2 : ∀ i : Nat, i ≤ n → ∀ ls : Array Slot, lv_has ls 3 [(2, .int (ji_n (i : Int))), (0, .ref (w 0)), (1, .int (ji_n x))] → sp_pz z i ≤ x → W p l e R s m args below meth c s.heap [] 0 0 Q (F0 m 8 ls []) := by
      refine lp_up n ?_
      intro i hi_i ih3 ls hl hq
      have hp0 := sp_AS_p hAS (i := i) (by omega)
      refine lv_iload_n hx hb dX0_byteAt_8 rfl (lv_at hl 0 rfl) ?_
      refine lv_aload_n hx hb dX0_byteAt_9 rfl (lv_at hl 1 rfl) ?_
      refine va_get (ci := 0) (C := RX0) (T := TX0) (N := 4) hx hb hts hinX0 hown hK hP 0 rfl rfl 0 (by decide) hfl12 (fun _ h9 => h9) rfl dX0_byteAt_10 ?_
      refine va_getN (ci := 1) (C := RX1) (T := TX1) (N := 4) hx hb hts hinX1 hown hK hP 4 rfl rfl 3 (by decide) (va_Nw.use rfl (nw_5 hN)) (fun _ h9 => h9) rfl dX0_byteAt_13 ?_
      refine jn_icmp_ge hx hb dX0_byteAt_16 (tgt := 51) rfl (by unfold ji_r; omega) (by unfold ji_r; omega) (fun hc4 => ?_) (fun hc4 => ?_)
      · skip
        refine jn_iconst hx hb dX0_byteAt_51 ?_
        exact hend _ _ _ dX0_byteAt_52 (congrArg ji_n (sp_ba_no hAS (by right; have he : i = n := (by omega); rw [he] at hq; omega)).symm)
      · skip
        have hp1 := sp_AS_p hAS (i := i + 1) (by omega)
        refine lv_iload_n hx hb dX0_byteAt_19 rfl (lv_at hl 2 rfl) ?_
        refine lv_aload_n hx hb dX0_byteAt_20 rfl (lv_at hl 1 rfl) ?_
        refine va_get (ci := 0) (C := RX0) (T := TX0) (N := 4) hx hb hts hinX0 hown hK hP 0 rfl rfl 1 (by decide) hfl18 (fun _ h9 => h9) rfl dX0_byteAt_21 ?_
        refine lv_iload_n hx hb dX0_byteAt_24 rfl (lv_at hl 0 rfl) ?_
        refine jn_iconst hx hb dX0_byteAt_25 ?_
        refine jn_iadd hx hb dX0_byteAt_26 (v := (i : Int) + 1) rfl ?_
        refine jn_iald hx hb hK hP 1 0 rfl rfl (i + 1) (by omega) (by omega) (by decide) (v := sp_pz z (i + 1)) (hst (i + 1) (by omega)) dX0_byteAt_27 ?_
        refine jn_icmp_ge hx hb dX0_byteAt_28 (tgt := 45) rfl r1 (by unfold ji_r; omega) (fun hc5 => ?_) (fun hc5 => ?_)
        · skip
          refine jn_iinc (lv' := [(2, .int (ji_n ((i : Int) + 1))), (0, .ref (w 0)), (1, .int (ji_n x))]) (k := 0) (v := (i : Int) + 1) hx hb dX0_byteAt_45 hl rfl rfl (by decide) rfl (fun ls hl => ?_)
          refine lv_goto hx hb dX0_byteAt_48 (tgt := 8) rfl ?_
          have hl : lv_has ls 3 [(2, .int (ji_n ((i + 1 : Nat) : Int))), (0, .ref (w 0)), (1, .int (ji_n x))] := by
            have hl2 := lv_sub hl (l' := [(2, .int (ji_n ((i : Int) + 1))), (0, .ref (w 0)), (1, .int (ji_n x))]) [0, 1, 2] rfl
            rw [show (ji_n ((i : Int) + 1)) = (ji_n ((i + 1 : Nat) : Int)) from (congrArg ji_n (by omega))] at hl2
            exact hl2
          exact ih3 (by omega) ls hl (by omega)
        · skip
          refine lv_aload_n hx hb dX0_byteAt_31 rfl (lv_at hl 1 rfl) ?_
          refine lv_iload_n hx hb dX0_byteAt_32 rfl (lv_at hl 0 rfl) ?_
          refine lv_iload_n hx hb dX0_byteAt_33 rfl (lv_at hl 2 rfl) ?_
          refine lv_aload_n hx hb dX0_byteAt_34 rfl (lv_at hl 1 rfl) ?_
          refine va_get (ci := 0) (C := RX0) (T := TX0) (N := 4) hx hb hts hinX0 hown hK hP 0 rfl rfl 1 (by decide) hfl18 (fun _ h9 => h9) rfl dX0_byteAt_35 ?_
          refine lv_iload_n hx hb dX0_byteAt_38 rfl (lv_at hl 0 rfl) ?_
          refine jn_iald hx hb hK hP 1 0 rfl rfl i (by omega) (by omega) (by decide) (v := sp_pz z i) (hst i (by omega)) dX0_byteAt_39 ?_
          refine jn_isub hx hb dX0_byteAt_40 (v := x - (sp_pz z i)) rfl ?_
          refine cl_rd (va_runV (As := [.int (ji_n (i : Int)), .int (ji_n (x - (sp_pz z i)))]) (rest := []) ⟨hx, hb, hml, hown, hts⟩ (ct_lineByte l dC dI cI w n g0 g1 g2 st fm vl K A B z hF hAS hS0 i (by omega) (x - sp_pz z i) (by omega) (by have := sp_pz_s z i; omega)) (cwV 2 hts (ub_V tm_129 tm_131 tm_s1 tm_3 tm_132) rfl rfl rfl (by decide +kernel) (by rw [hR]; exact ⟨Nat.le_of_ble_eq_true rfl, Nat.le_of_ble_eq_true rfl⟩)) (pv_rd (q0 := 0) (ci := 0) hN hP rfl rfl) rfl rfl hl.1 rfl (lv_room (Nat.le_of_ble_eq_true rfl)) dX0_byteAt_41 ⟨Nat.zero_le _, Nat.zero_le _⟩) ?_
          exact hend _ _ _ dX0_byteAt_44 (congrArg ji_n (sp_ba_at hAS (by omega) (by omega) (by omega)).symm)
    have hl : lv_has ls 3 [(2, .int (ji_n ((0 : Nat) : Int))), (0, .ref (w 0)), (1, .int (ji_n x))] := lv_sub hl [0, 1, 2] rfl
    exact loop2 0 (by omega) ls hl (by have : sp_pz z 0 = 0 := rfl; omega)
  · skip
    refine jn_iconst hx hb dX0_byteAt_4 ?_
    exact hend _ _ _ dX0_byteAt_5 (congrArg ji_n (sp_ba_no hAS (by left; omega)).symm)

set_option maxHeartbeats 4000000 in
set_option maxRecDepth 100000 in
theorem ct_opSize (l : Launch) (dC : Nat → ClassId) (dI : Nat → Nat → Nat) (cI : ClassId) (w : Nat → Nat) (n : Nat) (g0 g1 g2 st fm vl : Nat → Int32) (K A B z : Nat → Int) (hF : as_F n K A B g0 g1 g2) (hAS : sp_AS n K A B z) (hS : as_S n K A z st fm vl) (x : Int) (r1 : ji_r x) : Met l yX0_operationSize wsX0_operationSize { frames := 4, cells := 0, slots := 0, locals := 90 } (va_Pc [.ref (w 0), .int (ji_n x)] (fun U => va_P (dC, dI) vwCl (wo_A w cI n g0 g1 g2 st fm vl) U.heap ∧ kn_K dC dI cI U)) (vp_Si (fun r => r = ji_n (sp_os n K A B z x))) 0 0 (fun _ => False) := by
  refine st_rd (cc := cX0_operationSize) (maxL := 4) (ret := some .int) (ty := .int) (by decide) rfl rfl (Nat.le_of_ble_eq_true rfl) (lv := [(0, .ref (w 0)), (1, .int (ji_n x))]) rfl (fun v h => rfl) ?_
  intro p e s m args below meth c R Q ls hx hb hts hown hml hR hB hl hend
  obtain ⟨hP, hN⟩ := hB
  have hK := hN.1
  have hS0 := hS
  have hn := hAS.1
  have hg := hAS.2.1
  have ho := hAS.2.2.1
  obtain ⟨hst, hfm, hvl⟩ := hS
  have hnd := sp_nd_or (sp_ba n K A B z x)
  refine lv_aload_n hx hb dX0_operationSize_0 rfl (lv_at hl 0 rfl) ?_
  refine lv_iload_n hx hb dX0_operationSize_1 rfl (lv_at hl 1 rfl) ?_
  refine cl_rd (va_runV (As := [.int (ji_n x)]) (rest := []) ⟨hx, hb, hml, hown, hts⟩ (ct_byteAt l dC dI cI w n g0 g1 g2 st fm vl K A B z hF hAS hS0 x r1) (cwV 1 hts (ub_V tm_184 tm_126 tm_127 tm_3 tm_128) rfl rfl rfl (by decide +kernel) (by rw [hR]; exact ⟨Nat.le_of_ble_eq_true rfl, Nat.le_of_ble_eq_true rfl⟩)) (pv_rd (q0 := 0) (ci := 0) hN hP rfl rfl) rfl rfl hl.1 rfl (lv_room (Nat.le_of_ble_eq_true rfl)) dX0_operationSize_2 ⟨Nat.zero_le _, Nat.zero_le _⟩) ?_
  have hb2 := sp_ba_b hAS x
  refine lv_istore_n (lv' := [(2, .int (ji_n (sp_ba n K A B z x))), (0, .ref (w 0)), (1, .int (ji_n x))]) hx hb dX0_operationSize_5 rfl hl (by decide) rfl (fun ls hl => ?_)
  refine lv_iload_n hx hb dX0_operationSize_6 rfl (lv_at hl 0 rfl) ?_
  refine jn_iconst hx hb dX0_operationSize_7 ?_
  refine jn_icmp_ne hx hb dX0_operationSize_8 (tgt := 13) rfl (by unfold ji_r; omega) (by unfold ji_r; omega) (fun hc1 => ?_) (fun hc1 => ?_)
  · skip
    refine jn_iconst hx hb dX0_operationSize_13 ?_
    refine lv_istore_n (lv' := [(3, .int (ji_n 1)), (2, .int (ji_n (sp_ba n K A B z x))), (0, .ref (w 0)), (1, .int (ji_n x))]) hx hb dX0_operationSize_14 rfl hl (by decide) rfl (fun ls hl => ?_)
    refine lv_iload_n hx hb dX0_operationSize_15 rfl (lv_at hl 1 rfl) ?_
    refine jn_bipush hx hb dX0_operationSize_16 (by decide) ?_
    refine jn_bipush hx hb dX0_operationSize_18 (by decide) ?_
    refine cl_rd (va_runSN (As := [.int (ji_n (sp_ba n K A B z x)), .int (ji_n 32), .int (ji_n 47)]) (rest := []) ⟨hx, hb, hml, hown, hts⟩ (ct_isWithin l (sp_ba n K A B z x) 32 47 (by unfold ji_r; omega) (by unfold ji_r; omega) (by unfold ji_r; omega)) ⟨(va_cnB 3 hts (ub_I tm_93) rfl rfl rfl (nw_9 hN) (hts _ (List.mem_cons_of_mem _ tm_1)) (by decide +kernel) (by rw [hR]; exact ⟨Nat.le_of_ble_eq_true rfl, Nat.le_of_ble_eq_true rfl⟩)), (hts _ (List.mem_cons_of_mem _ tm_92)), trivial⟩ ⟨fun _ _ _ _ q => q, fun U _ _ => ⟨rfl, trivial⟩⟩ rfl rfl hl.1 rfl (lv_room (Nat.le_of_ble_eq_true rfl)) dX0_operationSize_20 ⟨Nat.zero_le _, Nat.zero_le _⟩) ?_
    have hw20 := sp_wi_or (sp_ba n K A B z x) 32 47
    refine jn_if_eq hx hb dX0_operationSize_23 (tgt := 31) rfl (by unfold ji_r; omega) (fun hc2 => ?_) (fun hc2 => ?_)
    · skip
      refine lv_iload_n hx hb dX0_operationSize_31 rfl (lv_at hl 1 rfl) ?_
      refine jn_bipush hx hb dX0_operationSize_32 (by decide) ?_
      refine jn_icmp_ne hx hb dX0_operationSize_34 (tgt := 39) rfl (by unfold ji_r; omega) (by unfold ji_r; omega) (fun hc3 => ?_) (fun hc3 => ?_)
      · skip
        refine lv_iload_n hx hb dX0_operationSize_39 rfl (lv_at hl 0 rfl) ?_
        refine lv_aload_n hx hb dX0_operationSize_40 rfl (lv_at hl 2 rfl) ?_
        refine cl_rd (va_runV (As := []) (rest := [.int (ji_n 1)]) ⟨hx, hb, hml, hown, hts⟩ (ct_size l dC dI cI w n g0 g1 g2 st fm vl K A B z hF hAS hS0) (cwV 0 hts (ub_V tm_186 tm_187 tm_188 tm_3 tm_189) rfl rfl rfl (by decide +kernel) (by rw [hR]; exact ⟨Nat.le_of_ble_eq_true rfl, Nat.le_of_ble_eq_true rfl⟩)) (pv_rd (q0 := 0) (ci := 0) hN hP rfl rfl) rfl rfl hl.1 rfl (lv_room (Nat.le_of_ble_eq_true rfl)) dX0_operationSize_41 ⟨Nat.zero_le _, Nat.zero_le _⟩) ?_
        have hpn := sp_AS_p hAS (Nat.le_refl n)
        refine lv_iload_n hx hb dX0_operationSize_44 rfl (lv_at hl 3 rfl) ?_
        refine jn_isub hx hb dX0_operationSize_45 (v := (sp_pz z n) - x) rfl ?_
        refine jn_icmp_gt hx hb dX0_operationSize_46 (tgt := 53) rfl (by unfold ji_r; omega) (by unfold ji_r; omega) (fun hc4 => ?_) (fun hc4 => ?_)
        · skip
          refine jn_iconst hx hb dX0_operationSize_53 ?_
          exact hend _ _ _ dX0_operationSize_54 (congrArg ji_n (by unfold sp_os; (repeat' split) <;> omega))
        · skip
          refine lv_iload_n hx hb dX0_operationSize_49 rfl (lv_at hl 0 rfl) ?_
          refine lv_goto hx hb dX0_operationSize_50 (tgt := 54) rfl ?_
          exact hend _ _ _ dX0_operationSize_54 (congrArg ji_n (by unfold sp_os; (repeat' split) <;> omega))
      · skip
        refine jn_iconst hx hb dX0_operationSize_37 ?_
        refine lv_istore_n (lv' := [(3, .int (ji_n 3)), (2, .int (ji_n (sp_ba n K A B z x))), (0, .ref (w 0)), (1, .int (ji_n x))]) hx hb dX0_operationSize_38 rfl hl (by decide) rfl (fun ls hl => ?_)
        refine lv_iload_n hx hb dX0_operationSize_39 rfl (lv_at hl 0 rfl) ?_
        refine lv_aload_n hx hb dX0_operationSize_40 rfl (lv_at hl 2 rfl) ?_
        refine cl_rd (va_runV (As := []) (rest := [.int (ji_n 3)]) ⟨hx, hb, hml, hown, hts⟩ (ct_size l dC dI cI w n g0 g1 g2 st fm vl K A B z hF hAS hS0) (cwV 0 hts (ub_V tm_186 tm_187 tm_188 tm_3 tm_189) rfl rfl rfl (by decide +kernel) (by rw [hR]; exact ⟨Nat.le_of_ble_eq_true rfl, Nat.le_of_ble_eq_true rfl⟩)) (pv_rd (q0 := 0) (ci := 0) hN hP rfl rfl) rfl rfl hl.1 rfl (lv_room (Nat.le_of_ble_eq_true rfl)) dX0_operationSize_41 ⟨Nat.zero_le _, Nat.zero_le _⟩) ?_
        have hpn := sp_AS_p hAS (Nat.le_refl n)
        refine lv_iload_n hx hb dX0_operationSize_44 rfl (lv_at hl 3 rfl) ?_
        refine jn_isub hx hb dX0_operationSize_45 (v := (sp_pz z n) - x) rfl ?_
        refine jn_icmp_gt hx hb dX0_operationSize_46 (tgt := 53) rfl (by unfold ji_r; omega) (by unfold ji_r; omega) (fun hc5 => ?_) (fun hc5 => ?_)
        · skip
          refine jn_iconst hx hb dX0_operationSize_53 ?_
          exact hend _ _ _ dX0_operationSize_54 (congrArg ji_n (by unfold sp_os; (repeat' split) <;> omega))
        · skip
          refine lv_iload_n hx hb dX0_operationSize_49 rfl (lv_at hl 0 rfl) ?_
          refine lv_goto hx hb dX0_operationSize_50 (tgt := 54) rfl ?_
          exact hend _ _ _ dX0_operationSize_54 (congrArg ji_n (by unfold sp_os; (repeat' split) <;> omega))
    · skip
      refine jn_iconst hx hb dX0_operationSize_26 ?_
      refine lv_istore_n (lv' := [(3, .int (ji_n 2)), (2, .int (ji_n (sp_ba n K A B z x))), (0, .ref (w 0)), (1, .int (ji_n x))]) hx hb dX0_operationSize_27 rfl hl (by decide) rfl (fun ls hl => ?_)
      refine lv_goto hx hb dX0_operationSize_28 (tgt := 39) rfl ?_
      refine lv_iload_n hx hb dX0_operationSize_39 rfl (lv_at hl 0 rfl) ?_
      refine lv_aload_n hx hb dX0_operationSize_40 rfl (lv_at hl 2 rfl) ?_
      refine cl_rd (va_runV (As := []) (rest := [.int (ji_n 2)]) ⟨hx, hb, hml, hown, hts⟩ (ct_size l dC dI cI w n g0 g1 g2 st fm vl K A B z hF hAS hS0) (cwV 0 hts (ub_V tm_186 tm_187 tm_188 tm_3 tm_189) rfl rfl rfl (by decide +kernel) (by rw [hR]; exact ⟨Nat.le_of_ble_eq_true rfl, Nat.le_of_ble_eq_true rfl⟩)) (pv_rd (q0 := 0) (ci := 0) hN hP rfl rfl) rfl rfl hl.1 rfl (lv_room (Nat.le_of_ble_eq_true rfl)) dX0_operationSize_41 ⟨Nat.zero_le _, Nat.zero_le _⟩) ?_
      have hpn := sp_AS_p hAS (Nat.le_refl n)
      refine lv_iload_n hx hb dX0_operationSize_44 rfl (lv_at hl 3 rfl) ?_
      refine jn_isub hx hb dX0_operationSize_45 (v := (sp_pz z n) - x) rfl ?_
      refine jn_icmp_gt hx hb dX0_operationSize_46 (tgt := 53) rfl (by unfold ji_r; omega) (by unfold ji_r; omega) (fun hc6 => ?_) (fun hc6 => ?_)
      · skip
        refine jn_iconst hx hb dX0_operationSize_53 ?_
        exact hend _ _ _ dX0_operationSize_54 (congrArg ji_n (by unfold sp_os; (repeat' split) <;> omega))
      · skip
        refine lv_iload_n hx hb dX0_operationSize_49 rfl (lv_at hl 0 rfl) ?_
        refine lv_goto hx hb dX0_operationSize_50 (tgt := 54) rfl ?_
        exact hend _ _ _ dX0_operationSize_54 (congrArg ji_n (by unfold sp_os; (repeat' split) <;> omega))
  · skip
    refine jn_iconst hx hb dX0_operationSize_11 ?_
    exact hend _ _ _ dX0_operationSize_12 (congrArg ji_n (by unfold sp_os; (repeat' split) <;> omega))

set_option maxHeartbeats 4000000 in
set_option maxRecDepth 100000 in
theorem ct_always (l : Launch) (dC : Nat → ClassId) (dI : Nat → Nat → Nat) (cI : ClassId) (w : Nat → Nat) (n : Nat) (g0 g1 g2 st fm vl : Nat → Int32) (K A B z : Nat → Int) (hF : as_F n K A B g0 g1 g2) (hAS : sp_AS n K A B z) (hS : as_S n K A z st fm vl) (x : Int) (r1 : ji_r x) : Met l yX0_goesAlways wsX0_goesAlways { frames := 4, cells := 0, slots := 0, locals := 90 } (va_Pc [.ref (w 0), .int (ji_n x)] (fun U => va_P (dC, dI) vwCl (wo_A w cI n g0 g1 g2 st fm vl) U.heap ∧ kn_K dC dI cI U)) (vp_Si (fun r => r = ji_n (sp_ai n K A B z x))) 0 0 (fun _ => False) := by
  refine st_rd (cc := cX0_goesAlways) (maxL := 3) (ret := some .boolean) (ty := .boolean) (by decide) rfl rfl (Nat.le_of_ble_eq_true rfl) (lv := [(0, .ref (w 0)), (1, .int (ji_n x))]) rfl (fun v h => by rw [h]; exact nb_b (sp_ai_b _ _ _ _ _ _)) ?_
  intro p e s m args below meth c R Q ls hx hb hts hown hml hR hB hl hend
  obtain ⟨hP, hN⟩ := hB
  have hK := hN.1
  have hS0 := hS
  have hn := hAS.1
  have hg := hAS.2.1
  have ho := hAS.2.2.1
  obtain ⟨hst, hfm, hvl⟩ := hS
  refine lv_aload_n hx hb dX0_goesAlways_0 rfl (lv_at hl 0 rfl) ?_
  refine lv_iload_n hx hb dX0_goesAlways_1 rfl (lv_at hl 1 rfl) ?_
  refine cl_rd (va_runV (As := [.int (ji_n x)]) (rest := []) ⟨hx, hb, hml, hown, hts⟩ (ct_byteAt l dC dI cI w n g0 g1 g2 st fm vl K A B z hF hAS hS0 x r1) (cwV 1 hts (ub_V tm_184 tm_126 tm_127 tm_3 tm_128) rfl rfl rfl (by decide +kernel) (by rw [hR]; exact ⟨Nat.le_of_ble_eq_true rfl, Nat.le_of_ble_eq_true rfl⟩)) (pv_rd (q0 := 0) (ci := 0) hN hP rfl rfl) rfl rfl hl.1 rfl (lv_room (Nat.le_of_ble_eq_true rfl)) dX0_goesAlways_2 ⟨Nat.zero_le _, Nat.zero_le _⟩) ?_
  have hb2 := sp_ba_b hAS x
  refine lv_istore_n (lv' := [(2, .int (ji_n (sp_ba n K A B z x))), (0, .ref (w 0)), (1, .int (ji_n x))]) hx hb dX0_goesAlways_5 rfl hl (by decide) rfl (fun ls hl => ?_)
  refine lv_iload_n hx hb dX0_goesAlways_6 rfl (lv_at hl 0 rfl) ?_
  refine jn_bipush hx hb dX0_goesAlways_7 (by decide) ?_
  refine jn_icmp_eq hx hb dX0_goesAlways_9 (tgt := 18) rfl (by unfold ji_r; omega) (by unfold ji_r; omega) (fun hc1 => ?_) (fun hc1 => ?_)
  · skip
    refine jn_iconst hx hb dX0_goesAlways_18 ?_
    refine lv_goto hx hb dX0_goesAlways_19 (tgt := 23) rfl ?_
    exact hend _ _ _ dX0_goesAlways_23 (congrArg ji_n (by unfold sp_ai; split <;> omega))
  · skip
    refine lv_iload_n hx hb dX0_goesAlways_12 rfl (lv_at hl 0 rfl) ?_
    refine jn_bipush hx hb dX0_goesAlways_13 (by decide) ?_
    refine jn_icmp_ne hx hb dX0_goesAlways_15 (tgt := 22) rfl (by unfold ji_r; omega) (by unfold ji_r; omega) (fun hc2 => ?_) (fun hc2 => ?_)
    · skip
      refine jn_iconst hx hb dX0_goesAlways_22 ?_
      exact hend _ _ _ dX0_goesAlways_23 (congrArg ji_n (by unfold sp_ai; split <;> omega))
    · skip
      refine jn_iconst hx hb dX0_goesAlways_18 ?_
      refine lv_goto hx hb dX0_goesAlways_19 (tgt := 23) rfl ?_
      exact hend _ _ _ dX0_goesAlways_23 (congrArg ji_n (by unfold sp_ai; split <;> omega))

set_option maxHeartbeats 4000000 in
set_option maxRecDepth 100000 in
theorem ct_target (l : Launch) (dC : Nat → ClassId) (dI : Nat → Nat → Nat) (cI : ClassId) (w : Nat → Nat) (n : Nat) (g0 g1 g2 st fm vl : Nat → Int32) (K A B z : Nat → Int) (hF : as_F n K A B g0 g1 g2) (hAS : sp_AS n K A B z) (hS : as_S n K A z st fm vl) (x y : Int) (hos : y = sp_os n K A B z x) (h0 : y ≠ 0) : Met l yX0_target wsX0_target { frames := 4, cells := 0, slots := 0, locals := 90 } (va_Pc [.ref (w 0), .int (ji_n x), .int (ji_n y)] (fun U => va_P (dC, dI) vwCl (wo_A w cI n g0 g1 g2 st fm vl) U.heap ∧ kn_K dC dI cI U)) (vp_Si (fun r => r = ji_n (sp_tg n K A B z x y))) 0 0 (fun _ => False) := by
  refine st_rd (cc := cX0_target) (maxL := 4) (ret := some .int) (ty := .int) (by decide) rfl rfl (Nat.le_of_ble_eq_true rfl) (lv := [(0, .ref (w 0)), (1, .int (ji_n x)), (2, .int (ji_n y))]) rfl (fun v h => rfl) ?_
  intro p e s m args below meth c R Q ls hx hb hts hown hml hR hB hl hend
  obtain ⟨hP, hN⟩ := hB
  have hK := hN.1
  have hS0 := hS
  have hn := hAS.1
  have hg := hAS.2.1
  have ho := hAS.2.2.1
  obtain ⟨hst, hfm, hvl⟩ := hS
  have hob := sp_os_b hAS x
  have hpn := sp_AS_p hAS (Nat.le_refl n)
  have hsb1 := sp_sb_or (sp_ba n K A B z (x + 1))
  refine lv_iload_n hx hb dX0_target_0 rfl (lv_at hl 1 rfl) ?_
  refine lv_iload_n hx hb dX0_target_1 rfl (lv_at hl 2 rfl) ?_
  refine jn_iadd hx hb dX0_target_2 (v := x + y) rfl ?_
  refine lv_istore_n (lv' := [(3, .int (ji_n (x + y))), (0, .ref (w 0)), (1, .int (ji_n x)), (2, .int (ji_n y))]) hx hb dX0_target_3 rfl hl (by decide) rfl (fun ls hl => ?_)
  refine lv_iload_n hx hb dX0_target_4 rfl (lv_at hl 3 rfl) ?_
  refine jn_iconst hx hb dX0_target_5 ?_
  refine jn_icmp_ne hx hb dX0_target_6 (tgt := 20) rfl (by unfold ji_r; omega) (by unfold ji_r; omega) (fun hc1 => ?_) (fun hc1 => ?_)
  · skip
    refine lv_iload_n hx hb dX0_target_20 rfl (lv_at hl 3 rfl) ?_
    refine jn_iconst hx hb dX0_target_21 ?_
    refine jn_icmp_ne hx hb dX0_target_22 (tgt := 48) rfl (by unfold ji_r; omega) (by unfold ji_r; omega) (fun hc2 => ?_) (fun hc2 => ?_)
    · skip
      refine lv_iload_n hx hb dX0_target_48 rfl (lv_at hl 0 rfl) ?_
      exact hend _ _ _ dX0_target_49 (congrArg ji_n (by unfold sp_tg; (repeat' split) <;> omega))
    · skip
      refine lv_iload_n hx hb dX0_target_25 rfl (lv_at hl 0 rfl) ?_
      refine lv_aload_n hx hb dX0_target_26 rfl (lv_at hl 1 rfl) ?_
      refine lv_iload_n hx hb dX0_target_27 rfl (lv_at hl 2 rfl) ?_
      refine jn_iconst hx hb dX0_target_28 ?_
      refine jn_iadd hx hb dX0_target_29 (v := x + 1) rfl ?_
      refine cl_rd (va_runV (As := [.int (ji_n (x + 1))]) (rest := [.int (ji_n (x + y))]) ⟨hx, hb, hml, hown, hts⟩ (ct_byteAt l dC dI cI w n g0 g1 g2 st fm vl K A B z hF hAS hS0 (x + 1) (by unfold ji_r; omega)) (cwV 1 hts (ub_V tm_184 tm_126 tm_127 tm_3 tm_128) rfl rfl rfl (by decide +kernel) (by rw [hR]; exact ⟨Nat.le_of_ble_eq_true rfl, Nat.le_of_ble_eq_true rfl⟩)) (pv_rd (q0 := 0) (ci := 0) hN hP rfl rfl) rfl rfl hl.1 rfl (lv_room (Nat.le_of_ble_eq_true rfl)) dX0_target_30 ⟨Nat.zero_le _, Nat.zero_le _⟩) ?_
      have hb30 := sp_ba_b hAS (x + 1)
      refine jn_sipush hx hb dX0_target_33 (by decide) ?_
      refine jn_imul hx hb dX0_target_36 (v := (sp_ba n K A B z (x + 1)) * 256) rfl ?_
      refine lv_aload_n hx hb dX0_target_37 rfl (lv_at hl 1 rfl) ?_
      refine lv_iload_n hx hb dX0_target_38 rfl (lv_at hl 2 rfl) ?_
      refine jn_iconst hx hb dX0_target_39 ?_
      refine jn_iadd hx hb dX0_target_40 (v := x + 2) rfl ?_
      refine cl_rd (va_runV (As := [.int (ji_n (x + 2))]) (rest := [.int (ji_n ((sp_ba n K A B z (x + 1)) * 256)), .int (ji_n (x + y))]) ⟨hx, hb, hml, hown, hts⟩ (ct_byteAt l dC dI cI w n g0 g1 g2 st fm vl K A B z hF hAS hS0 (x + 2) (by unfold ji_r; omega)) (cwV 1 hts (ub_V tm_184 tm_126 tm_127 tm_3 tm_128) rfl rfl rfl (by decide +kernel) (by rw [hR]; exact ⟨Nat.le_of_ble_eq_true rfl, Nat.le_of_ble_eq_true rfl⟩)) (pv_rd (q0 := 0) (ci := 0) hN hP rfl rfl) rfl rfl hl.1 rfl (lv_room (Nat.le_of_ble_eq_true rfl)) dX0_target_41 ⟨Nat.zero_le _, Nat.zero_le _⟩) ?_
      have hb41 := sp_ba_b hAS (x + 2)
      refine jn_iadd hx hb dX0_target_44 (v := ((sp_ba n K A B z (x + 1)) * 256) + (sp_ba n K A B z (x + 2))) rfl ?_
      refine jn_i2s hx hb dX0_target_45 (by omega) ?_
      have hsh := sp_sh_or (((sp_ba n K A B z (x + 1)) * 256) + (sp_ba n K A B z (x + 2)))
      refine jn_iadd hx hb dX0_target_46 (v := (x + y) + (sp_sh (((sp_ba n K A B z (x + 1)) * 256) + (sp_ba n K A B z (x + 2))))) rfl ?_
      exact hend _ _ _ dX0_target_47 (congrArg ji_n (by unfold sp_tg; (repeat' split) <;> omega))
  · skip
    refine lv_iload_n hx hb dX0_target_9 rfl (lv_at hl 0 rfl) ?_
    refine lv_aload_n hx hb dX0_target_10 rfl (lv_at hl 1 rfl) ?_
    refine lv_iload_n hx hb dX0_target_11 rfl (lv_at hl 2 rfl) ?_
    refine jn_iconst hx hb dX0_target_12 ?_
    refine jn_iadd hx hb dX0_target_13 (v := x + 1) rfl ?_
    refine cl_rd (va_runV (As := [.int (ji_n (x + 1))]) (rest := [.int (ji_n (x + y))]) ⟨hx, hb, hml, hown, hts⟩ (ct_byteAt l dC dI cI w n g0 g1 g2 st fm vl K A B z hF hAS hS0 (x + 1) (by unfold ji_r; omega)) (cwV 1 hts (ub_V tm_184 tm_126 tm_127 tm_3 tm_128) rfl rfl rfl (by decide +kernel) (by rw [hR]; exact ⟨Nat.le_of_ble_eq_true rfl, Nat.le_of_ble_eq_true rfl⟩)) (pv_rd (q0 := 0) (ci := 0) hN hP rfl rfl) rfl rfl hl.1 rfl (lv_room (Nat.le_of_ble_eq_true rfl)) dX0_target_14 ⟨Nat.zero_le _, Nat.zero_le _⟩) ?_
    have hb14 := sp_ba_b hAS (x + 1)
    refine jn_i2b hx hb dX0_target_17 (by omega) ?_
    have hsb := sp_sb_or (sp_ba n K A B z (x + 1))
    refine jn_iadd hx hb dX0_target_18 (v := (x + y) + (sp_sb (sp_ba n K A B z (x + 1)))) rfl ?_
    exact hend _ _ _ dX0_target_19 (congrArg ji_n (by unfold sp_tg; (repeat' split) <;> omega))
