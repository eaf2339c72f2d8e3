set_option maxHeartbeats 4000000 in
set_option maxRecDepth 100000 in
theorem cm_in_ (l : Launch) (x lo hi : Int) (r1 : ji_r x) (r2 : ji_r lo) (r3 : ji_r hi) : Met l yX3_in wsX3_in { frames := 0, cells := 0, slots := 0, locals := 0 } (va_Pc [.int (ji_n x), .int (ji_n lo), .int (ji_n hi)] (fun U => True)) (vp_Si (fun r => r = ji_n (sp_wi x lo hi))) 0 0 (fun _ => False) := by
  refine st_rd (cc := cX3_in) (maxL := 3) (ret := some .boolean) (ty := .boolean) (by decide) rfl rfl (Nat.le_of_ble_eq_true rfl) (lv := [(0, .int (ji_n x)), (1, .int (ji_n lo)), (2, .int (ji_n hi))]) rfl (fun v h => by rw [h]; exact nb_b (sp_wi_b _ _ _)) ?_
  intro p e s m args below meth c R Q ls hx hb hts hown hml hR hB hl hend
  have hw := sp_wi_or x lo hi
  refine lv_iload_n hx hb dX3_in_0 rfl (lv_at hl 0 rfl) ?_
  refine lv_iload_n hx hb dX3_in_1 rfl (lv_at hl 1 rfl) ?_
  refine jn_icmp_lt hx hb dX3_in_2 (tgt := 14) rfl r1 r2 (fun hc1 => ?_) (fun hc1 => ?_)
  · skip
    refine jn_iconst hx hb dX3_in_14 ?_
    exact hend _ _ _ dX3_in_15 (congrArg ji_n (by omega))
  · skip
    refine lv_iload_n hx hb dX3_in_5 rfl (lv_at hl 0 rfl) ?_
    refine lv_iload_n hx hb dX3_in_6 rfl (lv_at hl 2 rfl) ?_
    refine jn_icmp_gt hx hb dX3_in_7 (tgt := 14) rfl r1 r3 (fun hc2 => ?_) (fun hc2 => ?_)
    · skip
      refine jn_iconst hx hb dX3_in_14 ?_
      exact hend _ _ _ dX3_in_15 (congrArg ji_n (by omega))
    · skip
      refine jn_iconst hx hb dX3_in_10 ?_
      refine lv_goto hx hb dX3_in_11 (tgt := 15) rfl ?_
      exact hend _ _ _ dX3_in_15 (congrArg ji_n (by omega))

set_option maxHeartbeats 4000000 in
set_option maxRecDepth 100000 in
theorem cm_good (l : Launch) (k a b : Int) (r1 : ji_r k) (r2 : ji_r a) (r3 : ji_r b) : Met l yX3_good wsX3_good { frames := 1, cells := 0, slots := 0, locals := 22 } (va_Pc [.int (ji_n k), .int (ji_n a), .int (ji_n b)] (fun U => True)) (vp_Si (fun r => r = ji_n (sp_gl k a b))) 0 0 (fun _ => False) := by
  refine st_rd (cc := cX3_good) (maxL := 3) (ret := some .boolean) (ty := .boolean) (by decide) rfl rfl (Nat.le_of_ble_eq_true rfl) (lv := [(0, .int (ji_n k)), (1, .int (ji_n a)), (2, .int (ji_n b))]) rfl (fun v h => by rw [h]; exact nb_b (by have := sp_gl_or k a b; omega)) ?_
  intro p e s m args below meth c R Q ls hx hb hts hown hml hR hB hl hend
  have hg := sp_gl_or k a b
  unfold sp_gd at hg
  refine lv_iload_n hx hb dX3_good_0 rfl (lv_at hl 0 rfl) ?_
  rcases (show k = 0 ∨ k = 1 ∨ k = 2 ∨ k = 3 ∨ (k < 0 ∨ 3 < k) from by omega) with rfl | rfl | rfl | rfl | hk
  · skip
    refine lv_tableIn hx hb dX3_good_1 (tgt := 32) (by decide) (by decide) rfl rfl ?_
    refine lv_iload_n hx hb dX3_good_32 rfl (lv_at hl 1 rfl) ?_
    refine jn_iconst hx hb dX3_good_33 ?_
    refine jn_bipush hx hb dX3_good_34 (by decide) ?_
    refine cl_rd (va_runS (As := [.int (ji_n a), .int (ji_n 0), .int (ji_n 15)]) (rest := []) ⟨hx, hb, hml, hown, hts⟩ (cm_in_ l a 0 15 r2 (by unfold ji_r; omega) (by unfold ji_r; omega)) (va_cwS 3 hts (ub_S tm_403 tm_404 tm_5 tm_405) rfl rfl rfl (by decide +kernel) (by rw [hR]; exact ⟨Nat.le_of_ble_eq_true rfl, Nat.le_of_ble_eq_true rfl⟩)) ⟨fun _ _ _ _ q => q, fun U _ _ => ⟨rfl, trivial⟩⟩ rfl rfl hl.1 rfl (lv_room (Nat.le_of_ble_eq_true rfl)) dX3_good_36 ⟨Nat.zero_le _, Nat.zero_le _⟩) ?_
    have hw36 := sp_wi_or a 0 15
    refine jn_if_eq hx hb dX3_good_39 (tgt := 50) rfl (by unfold ji_r; omega) (fun hc1 => ?_) (fun hc1 => ?_)
    · skip
      refine jn_iconst hx hb dX3_good_50 ?_
      exact hend _ _ _ dX3_good_51 (congrArg ji_n (by omega))
    · skip
      refine lv_iload_n hx hb dX3_good_42 rfl (lv_at hl 2 rfl) ?_
      refine jn_if_ne hx hb dX3_good_43 (tgt := 50) rfl r3 (fun hc2 => ?_) (fun hc2 => ?_)
      · skip
        refine jn_iconst hx hb dX3_good_50 ?_
        exact hend _ _ _ dX3_good_51 (congrArg ji_n (by omega))
      · skip
        refine jn_iconst hx hb dX3_good_46 ?_
        refine lv_goto hx hb dX3_good_47 (tgt := 51) rfl ?_
        exact hend _ _ _ dX3_good_51 (congrArg ji_n (by omega))
  · skip
    refine lv_tableIn hx hb dX3_good_1 (tgt := 52) (by decide) (by decide) rfl rfl ?_
    refine lv_iload_n hx hb dX3_good_52 rfl (lv_at hl 1 rfl) ?_
    refine jn_iconst hx hb dX3_good_53 ?_
    refine jn_sipush hx hb dX3_good_54 (by decide) ?_
    refine cl_rd (va_runS (As := [.int (ji_n a), .int (ji_n 1), .int (ji_n 200)]) (rest := []) ⟨hx, hb, hml, hown, hts⟩ (cm_in_ l a 1 200 r2 (by unfold ji_r; omega) (by unfold ji_r; omega)) (va_cwS 3 hts (ub_S tm_403 tm_404 tm_5 tm_405) rfl rfl rfl (by decide +kernel) (by rw [hR]; exact ⟨Nat.le_of_ble_eq_true rfl, Nat.le_of_ble_eq_true rfl⟩)) ⟨fun _ _ _ _ q => q, fun U _ _ => ⟨rfl, trivial⟩⟩ rfl rfl hl.1 rfl (lv_room (Nat.le_of_ble_eq_true rfl)) dX3_good_57 ⟨Nat.zero_le _, Nat.zero_le _⟩) ?_
    have hw57 := sp_wi_or a 1 200
    refine jn_if_eq hx hb dX3_good_60 (tgt := 78) rfl (by unfold ji_r; omega) (fun hc3 => ?_) (fun hc3 => ?_)
    · skip
      refine jn_iconst hx hb dX3_good_78 ?_
      exact hend _ _ _ dX3_good_79 (congrArg ji_n (by omega))
    · skip
      refine lv_iload_n hx hb dX3_good_63 rfl (lv_at hl 2 rfl) ?_
      refine jn_iconst hx hb dX3_good_64 ?_
      refine jn_sipush hx hb dX3_good_65 (by decide) ?_
      refine cl_rd (va_runS (As := [.int (ji_n b), .int (ji_n 0), .int (ji_n 255)]) (rest := []) ⟨hx, hb, hml, hown, hts⟩ (cm_in_ l b 0 255 r3 (by unfold ji_r; omega) (by unfold ji_r; omega)) (va_cwS 3 hts (ub_S tm_403 tm_404 tm_5 tm_405) rfl rfl rfl (by decide +kernel) (by rw [hR]; exact ⟨Nat.le_of_ble_eq_true rfl, Nat.le_of_ble_eq_true rfl⟩)) ⟨fun _ _ _ _ q => q, fun U _ _ => ⟨rfl, trivial⟩⟩ rfl rfl hl.1 rfl (lv_room (Nat.le_of_ble_eq_true rfl)) dX3_good_68 ⟨Nat.zero_le _, Nat.zero_le _⟩) ?_
      have hw68 := sp_wi_or b 0 255
      refine jn_if_eq hx hb dX3_good_71 (tgt := 78) rfl (by unfold ji_r; omega) (fun hc4 => ?_) (fun hc4 => ?_)
      · skip
        refine jn_iconst hx hb dX3_good_78 ?_
        exact hend _ _ _ dX3_good_79 (congrArg ji_n (by omega))
      · skip
        refine jn_iconst hx hb dX3_good_74 ?_
        refine lv_goto hx hb dX3_good_75 (tgt := 79) rfl ?_
        exact hend _ _ _ dX3_good_79 (congrArg ji_n (by omega))
  · skip
    refine lv_tableIn hx hb dX3_good_1 (tgt := 80) (by decide) (by decide) rfl rfl ?_
    refine lv_iload_n hx hb dX3_good_80 rfl (lv_at hl 1 rfl) ?_
    refine jn_iconst hx hb dX3_good_81 ?_
    refine jn_bipush hx hb dX3_good_82 (by decide) ?_
    refine cl_rd (va_runS (As := [.int (ji_n a), .int (ji_n 0), .int (ji_n 15)]) (rest := []) ⟨hx, hb, hml, hown, hts⟩ (cm_in_ l a 0 15 r2 (by unfold ji_r; omega) (by unfold ji_r; omega)) (va_cwS 3 hts (ub_S tm_403 tm_404 tm_5 tm_405) rfl rfl rfl (by decide +kernel) (by rw [hR]; exact ⟨Nat.le_of_ble_eq_true rfl, Nat.le_of_ble_eq_true rfl⟩)) ⟨fun _ _ _ _ q => q, fun U _ _ => ⟨rfl, trivial⟩⟩ rfl rfl hl.1 rfl (lv_room (Nat.le_of_ble_eq_true rfl)) dX3_good_84 ⟨Nat.zero_le _, Nat.zero_le _⟩) ?_
    have hw84 := sp_wi_or a 0 15
    refine jn_if_eq hx hb dX3_good_87 (tgt := 107) rfl (by unfold ji_r; omega) (fun hc5 => ?_) (fun hc5 => ?_)
    · skip
      refine jn_iconst hx hb dX3_good_107 ?_
      exact hend _ _ _ dX3_good_108 (congrArg ji_n (by omega))
    · skip
      refine lv_iload_n hx hb dX3_good_90 rfl (lv_at hl 2 rfl) ?_
      refine jn_sipush hx hb dX3_good_91 (by decide) ?_
      refine jn_sipush hx hb dX3_good_94 (by decide) ?_
      refine cl_rd (va_runS (As := [.int (ji_n b), .int (ji_n (-1000)), .int (ji_n 1000)]) (rest := []) ⟨hx, hb, hml, hown, hts⟩ (cm_in_ l b (-1000) 1000 r3 (by unfold ji_r; omega) (by unfold ji_r; omega)) (va_cwS 3 hts (ub_S tm_403 tm_404 tm_5 tm_405) rfl rfl rfl (by decide +kernel) (by rw [hR]; exact ⟨Nat.le_of_ble_eq_true rfl, Nat.le_of_ble_eq_true rfl⟩)) ⟨fun _ _ _ _ q => q, fun U _ _ => ⟨rfl, trivial⟩⟩ rfl rfl hl.1 rfl (lv_room (Nat.le_of_ble_eq_true rfl)) dX3_good_97 ⟨Nat.zero_le _, Nat.zero_le _⟩) ?_
      have hw97 := sp_wi_or b (-1000) 1000
      refine jn_if_eq hx hb dX3_good_100 (tgt := 107) rfl (by unfold ji_r; omega) (fun hc6 => ?_) (fun hc6 => ?_)
      · skip
        refine jn_iconst hx hb dX3_good_107 ?_
        exact hend _ _ _ dX3_good_108 (congrArg ji_n (by omega))
      · skip
        refine jn_iconst hx hb dX3_good_103 ?_
        refine lv_goto hx hb dX3_good_104 (tgt := 108) rfl ?_
        exact hend _ _ _ dX3_good_108 (congrArg ji_n (by omega))
  · skip
    refine lv_tableIn hx hb dX3_good_1 (tgt := 109) (by decide) (by decide) rfl rfl ?_
    refine lv_iload_n hx hb dX3_good_109 rfl (lv_at hl 1 rfl) ?_
    refine jn_iconst hx hb dX3_good_110 ?_
    refine jn_bipush hx hb dX3_good_111 (by decide) ?_
    refine cl_rd (va_runS (As := [.int (ji_n a), .int (ji_n 0), .int (ji_n 15)]) (rest := []) ⟨hx, hb, hml, hown, hts⟩ (cm_in_ l a 0 15 r2 (by unfold ji_r; omega) (by unfold ji_r; omega)) (va_cwS 3 hts (ub_S tm_403 tm_404 tm_5 tm_405) rfl rfl rfl (by decide +kernel) (by rw [hR]; exact ⟨Nat.le_of_ble_eq_true rfl, Nat.le_of_ble_eq_true rfl⟩)) ⟨fun _ _ _ _ q => q, fun U _ _ => ⟨rfl, trivial⟩⟩ rfl rfl hl.1 rfl (lv_room (Nat.le_of_ble_eq_true rfl)) dX3_good_113 ⟨Nat.zero_le _, Nat.zero_le _⟩) ?_
    have hw113 := sp_wi_or a 0 15
    refine jn_if_eq hx hb dX3_good_116 (tgt := 133) rfl (by unfold ji_r; omega) (fun hc7 => ?_) (fun hc7 => ?_)
    · skip
      refine jn_iconst hx hb dX3_good_133 ?_
      exact hend _ _ _ dX3_good_134 (congrArg ji_n (by omega))
    · skip
      refine lv_iload_n hx hb dX3_good_119 rfl (lv_at hl 2 rfl) ?_
      refine jn_iconst hx hb dX3_good_120 ?_
      refine jn_bipush hx hb dX3_good_121 (by decide) ?_
      refine cl_rd (va_runS (As := [.int (ji_n b), .int (ji_n 0), .int (ji_n 7)]) (rest := []) ⟨hx, hb, hml, hown, hts⟩ (cm_in_ l b 0 7 r3 (by unfold ji_r; omega) (by unfold ji_r; omega)) (va_cwS 3 hts (ub_S tm_403 tm_404 tm_5 tm_405) rfl rfl rfl (by decide +kernel) (by rw [hR]; exact ⟨Nat.le_of_ble_eq_true rfl, Nat.le_of_ble_eq_true rfl⟩)) ⟨fun _ _ _ _ q => q, fun U _ _ => ⟨rfl, trivial⟩⟩ rfl rfl hl.1 rfl (lv_room (Nat.le_of_ble_eq_true rfl)) dX3_good_123 ⟨Nat.zero_le _, Nat.zero_le _⟩) ?_
      have hw123 := sp_wi_or b 0 7
      refine jn_if_eq hx hb dX3_good_126 (tgt := 133) rfl (by unfold ji_r; omega) (fun hc8 => ?_) (fun hc8 => ?_)
      · skip
        refine jn_iconst hx hb dX3_good_133 ?_
        exact hend _ _ _ dX3_good_134 (congrArg ji_n (by omega))
      · skip
        refine jn_iconst hx hb dX3_good_129 ?_
        refine lv_goto hx hb dX3_good_130 (tgt := 134) rfl ?_
        exact hend _ _ _ dX3_good_134 (congrArg ji_n (by omega))
  · skip
    refine lv_tableOut hx hb dX3_good_1 (tgt := 135) (by rw [ji_toInt r1]; omega) rfl ?_
    refine jn_iconst hx hb dX3_good_135 ?_
    exact hend _ _ _ dX3_good_136 (congrArg ji_n (by omega))

set_option maxHeartbeats 4000000 in
set_option maxRecDepth 100000 in
theorem cm_defs (l : Launch) (dC : Nat → ClassId) (dI : Nat → Nat → Nat) (cI : ClassId) (v : Nat → Nat) (th by_ : Int) (nP n : Nat) (f0 f1 f2 g0 g1 g2 sz : Nat → Int32) (K A B : Nat → Int) (hn : nP ≤ 50) (hg : sp_gp K A B nP) (hF : as_F nP K A B f0 f1 f2) (x : Int) (r1 : ji_r x) : Met l yX3_definitions wsX3_definitions { frames := 0, cells := 0, slots := 0, locals := 0 } (va_Pc [.ref (v 0), .int (ji_n x)] (fun U => va_P (dC, dI) vwCl (wo_M v cI th (nP : Int) (n : Int) by_ f0 f1 f2 g0 g1 g2 sz) U.heap ∧ kn_K dC dI cI U)) (vp_Si (fun r => r = ji_n (sp_dn K A x nP))) 0 0 (fun _ => False) := by
  refine st_rd (cc := cX3_definitions) (maxL := 4) (ret := some .int) (ty := .int) (by decide) rfl rfl (Nat.le_of_ble_eq_true rfl) (lv := [(0, .ref (v 0)), (1, .int (ji_n x))]) rfl (fun v h => rfl) ?_
  intro p e s m args below meth c R Q ls hx hb hts hown hml hR hB hl hend
  obtain ⟨hP, hN⟩ := hB
  have hK := hN.1
  have hinX3 : ∀ w ∈ u_ws RX3 TX3 11, w ∈ wsX3_definitions := fun w h => List.mem_cons_of_mem _ (inX3 w h)
  have hfl7 := (hts _ (List.mem_cons_of_mem _ tm_360))
  have hfl13 := (hts _ (List.mem_cons_of_mem _ tm_361))
  have hfl39 := (hts _ (List.mem_cons_of_mem _ tm_359))
  refine jn_iconst hx hb dX3_definitions_0 ?_
  refine lv_istore_n (lv' := [(2, .int (ji_n 0)), (0, .ref (v 0)), (1, .int (ji_n x))]) hx hb dX3_definitions_1 rfl hl (by decide) rfl (fun ls hl => ?_)
  refine jn_iconst hx hb dX3_definitions_2 ?_
  refine lv_istore_n (lv' := [(3, .int (ji_n 0)), (2, .int (ji_n 0)), (0, .ref (v 0)), (1, .int (ji_n x))]) hx hb dX3_definitions_3 rfl hl (by decide) rfl (fun ls hl => ?_)
  have loop1 : ∀ i : Nat, i ≤ nP → ∀ ls : Array Slot, lv_has ls 4 [(3, .int (ji_n (i : Int))), (2, .int (ji_n (sp_dn K A x i))), (0, .ref (v 0)), (1, .int (ji_n x))] → W p l e R s m args below meth c s.heap [] 0 0 Q (F0 m 4 ls []) := by
    refine lp_up nP ?_
    intro i hi_i ih2 ls hl
    have hd := sp_dn_b K A x i
    refine lv_iload_n hx hb dX3_definitions_4 rfl (lv_at hl 0 rfl) ?_
    refine lv_aload_n hx hb dX3_definitions_5 rfl (lv_at hl 2 rfl) ?_
    refine va_get (ci := 3) (C := RX3) (T := TX3) (N := 11) hx hb hts hinX3 hown hK hP 0 rfl rfl 1 (by decide) hfl39 (fun _ h9 => h9) rfl dX3_definitions_6 ?_
    refine jn_icmp_ge hx hb dX3_definitions_9 (tgt := 45) rfl (by unfold ji_r; omega) (by unfold ji_r; omega) (fun hc3 => ?_) (fun hc3 => ?_)
    · skip
      have he : i = nP := by omega
      refine lv_iload_n hx hb dX3_definitions_45 rfl (lv_at hl 1 rfl) ?_
      exact hend _ _ _ dX3_definitions_46 (congrArg ji_n (by rw [he]))
    · skip
      have hgi := hg i (by omega)
      unfold sp_gd at hgi
      refine lv_aload_n hx hb dX3_definitions_12 rfl (lv_at hl 2 rfl) ?_
      refine va_get (ci := 3) (C := RX3) (T := TX3) (N := 11) hx hb hts hinX3 hown hK hP 0 rfl rfl 2 (by decide) hfl7 (fun _ h9 => h9) rfl dX3_definitions_13 ?_
      refine lv_iload_n hx hb dX3_definitions_16 rfl (lv_at hl 0 rfl) ?_
      refine jn_iald hx hb hK hP 1 0 rfl rfl i (by omega) (by omega) (by decide) (v := K i) (hF.1 i (by omega)) dX3_definitions_17 ?_
      refine jn_if_ne hx hb dX3_definitions_18 (tgt := 37) rfl (by unfold ji_r; omega) (fun hc4 => ?_) (fun hc4 => ?_)
      · skip
        refine lv_iload_n hx hb dX3_definitions_37 rfl (lv_at hl 1 rfl) ?_
        refine lv_istore_n (lv' := [(2, .int (ji_n (sp_dn K A x i))), (3, .int (ji_n (i : Int))), (0, .ref (v 0)), (1, .int (ji_n x))]) hx hb dX3_definitions_38 rfl hl (by decide) rfl (fun ls hl => ?_)
        refine jn_iinc (lv' := [(3, .int (ji_n ((i : Int) + 1))), (2, .int (ji_n (sp_dn K A x i))), (0, .ref (v 0)), (1, .int (ji_n x))]) (k := 1) (v := (i : Int) + 1) hx hb dX3_definitions_39 hl rfl rfl (by decide) rfl (fun ls hl => ?_)
        refine lv_goto hx hb dX3_definitions_42 (tgt := 4) rfl ?_
        have hl : lv_has ls 4 [(3, .int (ji_n ((i + 1 : Nat) : Int))), (2, .int (ji_n (sp_dn K A x (i + 1)))), (0, .ref (v 0)), (1, .int (ji_n x))] := by
          have hl2 := lv_sub hl (l' := [(3, .int (ji_n ((i : Int) + 1))), (2, .int (ji_n (sp_dn K A x i))), (0, .ref (v 0)), (1, .int (ji_n x))]) [0, 1, 2, 3] rfl
          rw [show (ji_n ((i : Int) + 1)) = (ji_n ((i + 1 : Nat) : Int)) from (congrArg ji_n (by omega))] at hl2
          rw [show (ji_n (sp_dn K A x i)) = (ji_n (sp_dn K A x (i + 1))) from (congrArg ji_n (by rw [sp_dn_s]; split <;> omega))] at hl2
          exact hl2
        exact ih2 (by omega) ls hl 
      · skip
        refine lv_aload_n hx hb dX3_definitions_21 rfl (lv_at hl 2 rfl) ?_
        refine va_get (ci := 3) (C := RX3) (T := TX3) (N := 11) hx hb hts hinX3 hown hK hP 0 rfl rfl 3 (by decide) hfl13 (fun _ h9 => h9) rfl dX3_definitions_22 ?_
        refine lv_iload_n hx hb dX3_definitions_25 rfl (lv_at hl 0 rfl) ?_
        refine jn_iald hx hb hK hP 2 0 rfl rfl i (by omega) (by omega) (by decide) (v := A i) (hF.2.1 i (by omega)) dX3_definitions_26 ?_
        refine lv_iload_n hx hb dX3_definitions_27 rfl (lv_at hl 3 rfl) ?_
        refine jn_icmp_ne hx hb dX3_definitions_28 (tgt := 37) rfl (by unfold ji_r; omega) r1 (fun hc5 => ?_) (fun hc5 => ?_)
        · skip
          refine lv_iload_n hx hb dX3_definitions_37 rfl (lv_at hl 1 rfl) ?_
          refine lv_istore_n (lv' := [(2, .int (ji_n (sp_dn K A x i))), (3, .int (ji_n (i : Int))), (0, .ref (v 0)), (1, .int (ji_n x))]) hx hb dX3_definitions_38 rfl hl (by decide) rfl (fun ls hl => ?_)
          refine jn_iinc (lv' := [(3, .int (ji_n ((i : Int) + 1))), (2, .int (ji_n (sp_dn K A x i))), (0, .ref (v 0)), (1, .int (ji_n x))]) (k := 1) (v := (i : Int) + 1) hx hb dX3_definitions_39 hl rfl rfl (by decide) rfl (fun ls hl => ?_)
          refine lv_goto hx hb dX3_definitions_42 (tgt := 4) rfl ?_
          have hl : lv_has ls 4 [(3, .int (ji_n ((i + 1 : Nat) : Int))), (2, .int (ji_n (sp_dn K A x (i + 1)))), (0, .ref (v 0)), (1, .int (ji_n x))] := by
            have hl2 := lv_sub hl (l' := [(3, .int (ji_n ((i : Int) + 1))), (2, .int (ji_n (sp_dn K A x i))), (0, .ref (v 0)), (1, .int (ji_n x))]) [0, 1, 2, 3] rfl
            rw [show (ji_n ((i : Int) + 1)) = (ji_n ((i + 1 : Nat) : Int)) from (congrArg ji_n (by omega))] at hl2
            rw [show (ji_n (sp_dn K A x i)) = (ji_n (sp_dn K A x (i + 1))) from (congrArg ji_n (by rw [sp_dn_s]; split <;> omega))] at hl2
            exact hl2
          exact ih2 (by omega) ls hl 
        · skip
          refine lv_iload_n hx hb dX3_definitions_31 rfl (lv_at hl 1 rfl) ?_
          refine jn_iconst hx hb dX3_definitions_32 ?_
          refine jn_iadd hx hb dX3_definitions_33 (v := (sp_dn K A x i) + 1) rfl ?_
          refine lv_goto hx hb dX3_definitions_34 (tgt := 38) rfl ?_
          refine lv_istore_n (lv' := [(2, .int (ji_n ((sp_dn K A x i) + 1))), (3, .int (ji_n (i : Int))), (0, .ref (v 0)), (1, .int (ji_n x))]) hx hb dX3_definitions_38 rfl hl (by decide) rfl (fun ls hl => ?_)
          refine jn_iinc (lv' := [(3, .int (ji_n ((i : Int) + 1))), (2, .int (ji_n ((sp_dn K A x i) + 1))), (0, .ref (v 0)), (1, .int (ji_n x))]) (k := 1) (v := (i : Int) + 1) hx hb dX3_definitions_39 hl rfl rfl (by decide) rfl (fun ls hl => ?_)
          refine lv_goto hx hb dX3_definitions_42 (tgt := 4) rfl ?_
          have hl : lv_has ls 4 [(3, .int (ji_n ((i + 1 : Nat) : Int))), (2, .int (ji_n (sp_dn K A x (i + 1)))), (0, .ref (v 0)), (1, .int (ji_n x))] := by
            have hl2 := lv_sub hl (l' := [(3, .int (ji_n ((i : Int) + 1))), (2, .int (ji_n ((sp_dn K A x i) + 1))), (0, .ref (v 0)), (1, .int (ji_n x))]) [0, 1, 2, 3] rfl
            rw [show (ji_n ((i : Int) + 1)) = (ji_n ((i + 1 : Nat) : Int)) from (congrArg ji_n (by omega))] at hl2
            rw [show (ji_n ((sp_dn K A x i) + 1)) = (ji_n (sp_dn K A x (i + 1))) from (congrArg ji_n (by rw [sp_dn_s]; split <;> omega))] at hl2
            exact hl2
          exact ih2 (by omega) ls hl 
  have hl : lv_has ls 4 [(3, .int (ji_n ((0 : Nat) : Int))), (2, .int (ji_n (sp_dn K A x 0))), (0, .ref (v 0)), (1, .int (ji_n x))] := lv_sub hl [0, 1, 2, 3] rfl
  exact loop1 0 (by omega) ls hl 

set_option maxHeartbeats 4000000 in
set_option maxRecDepth 100000 in
theorem cm_wrong (l : Launch) (dC : Nat → ClassId) (dI : Nat → Nat → Nat) (cI : ClassId) (v : Nat → Nat) (th by_ : Int) (nP n : Nat) (f0 f1 f2 g0 g1 g2 sz : Nat → Int32) (K A B : Nat → Int) (hn : nP ≤ 50) (hg : sp_gp K A B nP) (hF : as_F nP K A B f0 f1 f2) : Met l yX3_wrong wsX3_wrong { frames := 1, cells := 0, slots := 0, locals := 23 } (va_Pc [.ref (v 0)] (fun U => va_P (dC, dI) vwCl (wo_M v cI th (nP : Int) (n : Int) by_ f0 f1 f2 g0 g1 g2 sz) U.heap ∧ kn_K dC dI cI U)) (vp_Si (fun r => r = ji_n (sp_wr nP K A))) 0 0 (fun _ => False) := by
  refine st_rd (cc := cX3_wrong) (maxL := 3) (ret := some .int) (ty := .int) (by decide) rfl rfl (Nat.le_of_ble_eq_true rfl) (lv := [(0, .ref (v 0))]) rfl (fun v h => rfl) ?_
  intro p e s m args below meth c R Q ls hx hb hts hown hml hR hB hl hend
  obtain ⟨hP, hN⟩ := hB
  have hK := hN.1
  have hinX3 : ∀ w ∈ u_ws RX3 TX3 11, w ∈ wsX3_wrong := fun w h => List.mem_cons_of_mem _ (inX3 w h)
  have hfl7 := (hts _ (List.mem_cons_of_mem _ tm_360))
  have hfl13 := (hts _ (List.mem_cons_of_mem _ tm_361))
  have hfl39 := (hts _ (List.mem_cons_of_mem _ tm_359))
  refine jn_iconst hx hb dX3_wrong_0 ?_
  refine lv_istore_n (lv' := [(1, .int (ji_n 0)), (0, .ref (v 0))]) hx hb dX3_wrong_1 rfl hl (by decide) rfl (fun ls hl => ?_)
  refine jn_iconst hx hb dX3_wrong_2 ?_
  refine lv_istore_n (lv' := [(2, .int (ji_n 0)), (1, .int (ji_n 0)), (0, .ref (v 0))]) hx hb dX3_wrong_3 rfl hl (by decide) rfl (fun ls hl => ?_)
  have loop1 : ∀ i : Nat, i ≤ nP → ∀ ls : Array Slot, lv_has ls 3 [(2, .int (ji_n (i : Int))), (1, .int (ji_n (sp_wu nP K A i))), (0, .ref (v 0))] → W p l e R s m args below meth c s.heap [] 0 0 Q (F0 m 4 ls []) := by
    refine lp_up nP ?_
    intro i hi_i ih2 ls hl
    refine lv_iload_n hx hb dX3_wrong_4 rfl (lv_at hl 0 rfl) ?_
    refine lv_aload_n hx hb dX3_wrong_5 rfl (lv_at hl 2 rfl) ?_
    refine va_get (ci := 3) (C := RX3) (T := TX3) (N := 11) hx hb hts hinX3 hown hK hP 0 rfl rfl 1 (by decide) hfl39 (fun _ h9 => h9) rfl dX3_wrong_6 ?_
    refine jn_icmp_ge hx hb dX3_wrong_9 (tgt := 47) rfl (by unfold ji_r; omega) (by unfold ji_r; omega) (fun hc3 => ?_) (fun hc3 => ?_)
    · skip
      have he : i = nP := by omega
      rw [he] at hl
      refine jn_iconst hx hb dX3_wrong_47 ?_
      refine lv_istore_n (lv' := [(2, .int (ji_n 0)), (1, .int (ji_n (sp_wu nP K A nP))), (0, .ref (v 0))]) hx hb dX3_wrong_48 rfl hl (by decide) rfl (fun ls hl => ?_)
      have loop4 : ∀ i : Nat, i ≤ 16 → ∀ ls : Array Slot, lv_has ls 3 [(2, .int (ji_n (i : Int))), (1, .int (ji_n (sp_wt nP K A (sp_wu nP K A nP) i))), (0, .ref (v 0))] → W p l e R s m args below meth c s.heap [] 0 0 Q (F0 m 49 ls []) := by
        refine lp_up 16 ?_
        intro i hi_i ih5 ls hl
        refine lv_iload_n hx hb dX3_wrong_49 rfl (lv_at hl 0 rfl) ?_
        refine jn_bipush hx hb dX3_wrong_50 (by decide) ?_
        refine jn_icmp_ge hx hb dX3_wrong_52 (tgt := 76) rfl (by unfold ji_r; omega) (by unfold ji_r; omega) (fun hc6 => ?_) (fun hc6 => ?_)
        · skip
          have he : i = 16 := by omega
          refine lv_iload_n hx hb dX3_wrong_76 rfl (lv_at hl 1 rfl) ?_
          exact hend _ _ _ dX3_wrong_77 (congrArg ji_n (by rw [he]; rfl))
        · skip
          refine lv_aload_n hx hb dX3_wrong_55 rfl (lv_at hl 2 rfl) ?_
          refine lv_iload_n hx hb dX3_wrong_56 rfl (lv_at hl 0 rfl) ?_
          refine cl_rd (va_runV (As := [.int (ji_n (i : Int))]) (rest := []) ⟨hx, hb, hml, hown, hts⟩ (cm_defs l dC dI cI v th by_ nP n f0 f1 f2 g0 g1 g2 sz K A B hn hg hF (i : Int) (by unfold ji_r; omega)) (cwV 1 hts (ub_V tm_422 tm_424 tm_s12 tm_5 tm_425) rfl rfl rfl (by decide +kernel) (by rw [hR]; exact ⟨Nat.le_of_ble_eq_true rfl, Nat.le_of_ble_eq_true rfl⟩)) (pv_rd (q0 := 0) (ci := 3) hN hP rfl rfl) rfl rfl hl.1 rfl (lv_room (Nat.le_of_ble_eq_true rfl)) dX3_wrong_57 ⟨Nat.zero_le _, Nat.zero_le _⟩) ?_
          have hd57 := sp_dn_b K A (i : Int) nP
          refine jn_iconst hx hb dX3_wrong_60 ?_
          refine jn_icmp_le hx hb dX3_wrong_61 (tgt := 68) rfl (by unfold ji_r; omega) (by unfold ji_r; omega) (fun hc7 => ?_) (fun hc7 => ?_)
          · skip
            refine lv_iload_n hx hb dX3_wrong_68 rfl (lv_at hl 1 rfl) ?_
            refine lv_istore_n (lv' := [(1, .int (ji_n (sp_wt nP K A (sp_wu nP K A nP) i))), (2, .int (ji_n (i : Int))), (0, .ref (v 0))]) hx hb dX3_wrong_69 rfl hl (by decide) rfl (fun ls hl => ?_)
            refine jn_iinc (lv' := [(2, .int (ji_n ((i : Int) + 1))), (1, .int (ji_n (sp_wt nP K A (sp_wu nP K A nP) i))), (0, .ref (v 0))]) (k := 1) (v := (i : Int) + 1) hx hb dX3_wrong_70 hl rfl rfl (by decide) rfl (fun ls hl => ?_)
            refine lv_goto hx hb dX3_wrong_73 (tgt := 49) rfl ?_
            have hl : lv_has ls 3 [(2, .int (ji_n ((i + 1 : Nat) : Int))), (1, .int (ji_n (sp_wt nP K A (sp_wu nP K A nP) (i + 1)))), (0, .ref (v 0))] := by
              have hl2 := lv_sub hl (l' := [(2, .int (ji_n ((i : Int) + 1))), (1, .int (ji_n (sp_wt nP K A (sp_wu nP K A nP) i))), (0, .ref (v 0))]) [0, 1, 2] rfl
              rw [show (ji_n ((i : Int) + 1)) = (ji_n ((i + 1 : Nat) : Int)) from (congrArg ji_n (by omega))] at hl2
              rw [show (ji_n (sp_wt nP K A (sp_wu nP K A nP) i)) = (ji_n (sp_wt nP K A (sp_wu nP K A nP) (i + 1))) from (congrArg ji_n (by rw [sp_wt_s]; split <;> omega))] at hl2
              exact hl2
            exact ih5 (by omega) ls hl 
          · skip
            refine jn_iconst hx hb dX3_wrong_64 ?_
            refine lv_goto hx hb dX3_wrong_65 (tgt := 69) rfl ?_
            refine lv_istore_n (lv' := [(1, .int (ji_n 1)), (2, .int (ji_n (i : Int))), (0, .ref (v 0))]) hx hb dX3_wrong_69 rfl hl (by decide) rfl (fun ls hl => ?_)
            refine jn_iinc (lv' := [(2, .int (ji_n ((i : Int) + 1))), (1, .int (ji_n 1)), (0, .ref (v 0))]) (k := 1) (v := (i : Int) + 1) hx hb dX3_wrong_70 hl rfl rfl (by decide) rfl (fun ls hl => ?_)
            refine lv_goto hx hb dX3_wrong_73 (tgt := 49) rfl ?_
            have hl : lv_has ls 3 [(2, .int (ji_n ((i + 1 : Nat) : Int))), (1, .int (ji_n (sp_wt nP K A (sp_wu nP K A nP) (i + 1)))), (0, .ref (v 0))] := by
              have hl2 := lv_sub hl (l' := [(2, .int (ji_n ((i : Int) + 1))), (1, .int (ji_n 1)), (0, .ref (v 0))]) [0, 1, 2] rfl
              rw [show (ji_n ((i : Int) + 1)) = (ji_n ((i + 1 : Nat) : Int)) from (congrArg ji_n (by omega))] at hl2
              rw [show (ji_n 1) = (ji_n (sp_wt nP K A (sp_wu nP K A nP) (i + 1))) from (congrArg ji_n (by rw [sp_wt_s]; split <;> omega))] at hl2
              exact hl2
            exact ih5 (by omega) ls hl 
      have hl : lv_has ls 3 [(2, .int (ji_n ((0 : Nat) : Int))), (1, .int (ji_n (sp_wt nP K A (sp_wu nP K A nP) 0))), (0, .ref (v 0))] := lv_sub hl [0, 1, 2] rfl
      exact loop4 0 (by omega) ls hl 
    · skip
      have hgi := hg i (by omega)
      unfold sp_gd at hgi
      refine lv_aload_n hx hb dX3_wrong_12 rfl (lv_at hl 2 rfl) ?_
      refine va_get (ci := 3) (C := RX3) (T := TX3) (N := 11) hx hb hts hinX3 hown hK hP 0 rfl rfl 2 (by decide) hfl7 (fun _ h9 => h9) rfl dX3_wrong_13 ?_
      refine lv_iload_n hx hb dX3_wrong_16 rfl (lv_at hl 0 rfl) ?_
      refine jn_iald hx hb hK hP 1 0 rfl rfl i (by omega) (by omega) (by decide) (v := K i) (hF.1 i (by omega)) dX3_wrong_17 ?_
      refine jn_iconst hx hb dX3_wrong_18 ?_
      refine jn_icmp_le hx hb dX3_wrong_19 (tgt := 39) rfl (by unfold ji_r; omega) (by unfold ji_r; omega) (fun hc8 => ?_) (fun hc8 => ?_)
      · skip
        refine lv_iload_n hx hb dX3_wrong_39 rfl (lv_at hl 1 rfl) ?_
        refine lv_istore_n (lv' := [(1, .int (ji_n (sp_wu nP K A i))), (2, .int (ji_n (i : Int))), (0, .ref (v 0))]) hx hb dX3_wrong_40 rfl hl (by decide) rfl (fun ls hl => ?_)
        refine jn_iinc (lv' := [(2, .int (ji_n ((i : Int) + 1))), (1, .int (ji_n (sp_wu nP K A i))), (0, .ref (v 0))]) (k := 1) (v := (i : Int) + 1) hx hb dX3_wrong_41 hl rfl rfl (by decide) rfl (fun ls hl => ?_)
        refine lv_goto hx hb dX3_wrong_44 (tgt := 4) rfl ?_
        have hl : lv_has ls 3 [(2, .int (ji_n ((i + 1 : Nat) : Int))), (1, .int (ji_n (sp_wu nP K A (i + 1)))), (0, .ref (v 0))] := by
          have hl2 := lv_sub hl (l' := [(2, .int (ji_n ((i : Int) + 1))), (1, .int (ji_n (sp_wu nP K A i))), (0, .ref (v 0))]) [0, 1, 2] rfl
          rw [show (ji_n ((i : Int) + 1)) = (ji_n ((i + 1 : Nat) : Int)) from (congrArg ji_n (by omega))] at hl2
          rw [show (ji_n (sp_wu nP K A i)) = (ji_n (sp_wu nP K A (i + 1))) from (congrArg ji_n (by rw [sp_wu_s]; split <;> omega))] at hl2
          exact hl2
        exact ih2 (by omega) ls hl 
      · skip
        refine lv_aload_n hx hb dX3_wrong_22 rfl (lv_at hl 2 rfl) ?_
        refine lv_aload_n hx hb dX3_wrong_23 rfl (lv_at hl 2 rfl) ?_
        refine va_get (ci := 3) (C := RX3) (T := TX3) (N := 11) hx hb hts hinX3 hown hK hP 0 rfl rfl 3 (by decide) hfl13 (fun _ h9 => h9) rfl dX3_wrong_24 ?_
        refine lv_iload_n hx hb dX3_wrong_27 rfl (lv_at hl 0 rfl) ?_
        refine jn_iald hx hb hK hP 2 0 rfl rfl i (by omega) (by omega) (by decide) (v := A i) (hF.2.1 i (by omega)) dX3_wrong_28 ?_
        refine cl_rd (va_runV (As := [.int (ji_n (A i))]) (rest := []) ⟨hx, hb, hml, hown, hts⟩ (cm_defs l dC dI cI v th by_ nP n f0 f1 f2 g0 g1 g2 sz K A B hn hg hF (A i) (by unfold ji_r; omega)) (cwV 1 hts (ub_V tm_422 tm_424 tm_s12 tm_5 tm_425) rfl rfl rfl (by decide +kernel) (by rw [hR]; exact ⟨Nat.le_of_ble_eq_true rfl, Nat.le_of_ble_eq_true rfl⟩)) (pv_rd (q0 := 0) (ci := 3) hN hP rfl rfl) rfl rfl hl.1 rfl (lv_room (Nat.le_of_ble_eq_true rfl)) dX3_wrong_29 ⟨Nat.zero_le _, Nat.zero_le _⟩) ?_
        have hd29 := sp_dn_b K A (A i) nP
        refine jn_if_ne hx hb dX3_wrong_32 (tgt := 39) rfl (by unfold ji_r; omega) (fun hc9 => ?_) (fun hc9 => ?_)
        · skip
          refine lv_iload_n hx hb dX3_wrong_39 rfl (lv_at hl 1 rfl) ?_
          refine lv_istore_n (lv' := [(1, .int (ji_n (sp_wu nP K A i))), (2, .int (ji_n (i : Int))), (0, .ref (v 0))]) hx hb dX3_wrong_40 rfl hl (by decide) rfl (fun ls hl => ?_)
          refine jn_iinc (lv' := [(2, .int (ji_n ((i : Int) + 1))), (1, .int (ji_n (sp_wu nP K A i))), (0, .ref (v 0))]) (k := 1) (v := (i : Int) + 1) hx hb dX3_wrong_41 hl rfl rfl (by decide) rfl (fun ls hl => ?_)
          refine lv_goto hx hb dX3_wrong_44 (tgt := 4) rfl ?_
          have hl : lv_has ls 3 [(2, .int (ji_n ((i + 1 : Nat) : Int))), (1, .int (ji_n (sp_wu nP K A (i + 1)))), (0, .ref (v 0))] := by
            have hl2 := lv_sub hl (l' := [(2, .int (ji_n ((i : Int) + 1))), (1, .int (ji_n (sp_wu nP K A i))), (0, .ref (v 0))]) [0, 1, 2] rfl
            rw [show (ji_n ((i : Int) + 1)) = (ji_n ((i + 1 : Nat) : Int)) from (congrArg ji_n (by omega))] at hl2
            rw [show (ji_n (sp_wu nP K A i)) = (ji_n (sp_wu nP K A (i + 1))) from (congrArg ji_n (by rw [sp_wu_s]; split <;> omega))] at hl2
            exact hl2
          exact ih2 (by omega) ls hl 
        · skip
          refine jn_iconst hx hb dX3_wrong_35 ?_
          refine lv_goto hx hb dX3_wrong_36 (tgt := 40) rfl ?_
          refine lv_istore_n (lv' := [(1, .int (ji_n 2)), (2, .int (ji_n (i : Int))), (0, .ref (v 0))]) hx hb dX3_wrong_40 rfl hl (by decide) rfl (fun ls hl => ?_)
          refine jn_iinc (lv' := [(2, .int (ji_n ((i : Int) + 1))), (1, .int (ji_n 2)), (0, .ref (v 0))]) (k := 1) (v := (i : Int) + 1) hx hb dX3_wrong_41 hl rfl rfl (by decide) rfl (fun ls hl => ?_)
          refine lv_goto hx hb dX3_wrong_44 (tgt := 4) rfl ?_
          have hl : lv_has ls 3 [(2, .int (ji_n ((i + 1 : Nat) : Int))), (1, .int (ji_n (sp_wu nP K A (i + 1)))), (0, .ref (v 0))] := by
            have hl2 := lv_sub hl (l' := [(2, .int (ji_n ((i : Int) + 1))), (1, .int (ji_n 2)), (0, .ref (v 0))]) [0, 1, 2] rfl
            rw [show (ji_n ((i : Int) + 1)) = (ji_n ((i + 1 : Nat) : Int)) from (congrArg ji_n (by omega))] at hl2
            rw [show (ji_n 2) = (ji_n (sp_wu nP K A (i + 1))) from (congrArg ji_n (by rw [sp_wu_s]; split <;> omega))] at hl2
            exact hl2
          exact ih2 (by omega) ls hl 
  have hl : lv_has ls 3 [(2, .int (ji_n ((0 : Nat) : Int))), (1, .int (ji_n (sp_wu nP K A 0))), (0, .ref (v 0))] := lv_sub hl [0, 1, 2] rfl
  exact loop1 0 (by omega) ls hl 

set_option maxHeartbeats 4000000 in
set_option maxRecDepth 100000 in
theorem cm_place (l : Launch) (dC : Nat → ClassId) (dI : Nat → Nat → Nat) (cI : ClassId) (v : Nat → Nat) (th by_ : Int) (nP n : Nat) (f0 f1 f2 g0 g1 g2 sz : Nat → Int32) (K A B z : Nat → Int) (hF : as_F n K A B g0 g1 g2) (hAS : sp_AS n K A B z) (hsz : ∀ j, j < n → sz j = ji_n (z j)) (j : Nat) (hj : j ≤ n) : Met l yX3_place wsX3_place { frames := 0, cells := 0, slots := 0, locals := 0 } (va_Pc [.ref (v 0), .int (ji_n (j : Int))] (fun U => va_P (dC, dI) vwCl (wo_M v cI th (nP : Int) (n : Int) by_ f0 f1 f2 g0 g1 g2 sz) U.heap ∧ kn_K dC dI cI U)) (vp_Si (fun r => r = ji_n (sp_pz z j))) 0 0 (fun _ => False) := by
  refine st_rd (cc := cX3_place) (maxL := 4) (ret := some .int) (ty := .int) (by decide) rfl rfl (Nat.le_of_ble_eq_true rfl) (lv := [(0, .ref (v 0)), (1, .int (ji_n (j : Int)))]) rfl (fun v h => rfl) ?_
  intro p e s m args below meth c R Q ls hx hb hts hown hml hR hB hl hend
  obtain ⟨hP, hN⟩ := hB
  have hK := hN.1
  have hinX3 : ∀ w ∈ u_ws RX3 TX3 11, w ∈ wsX3_place := fun w h => List.mem_cons_of_mem _ (inX3 w h)
  have hfl28 := (hts _ (List.mem_cons_of_mem _ tm_367))
  have hn := hAS.1
  have hg := hAS.2.1
  have ho := hAS.2.2.1
  have hu := hAS.2.2.2
  refine jn_iconst hx hb dX3_place_0 ?_
  refine lv_istore_n (lv' := [(2, .int (ji_n 0)), (0, .ref (v 0)), (1, .int (ji_n (j : Int)))]) hx hb dX3_place_1 rfl hl (by decide) rfl (fun ls hl => ?_)
  refine jn_iconst hx hb dX3_place_2 ?_
  refine lv_istore_n (lv' := [(3, .int (ji_n 0)), (2, .int (ji_n 0)), (0, .ref (v 0)), (1, .int (ji_n (j : Int)))]) hx hb dX3_place_3 rfl hl (by decide) rfl (fun ls hl => ?_)
  have loop1 : ∀ i : Nat, i ≤ j → ∀ ls : Array Slot, lv_has ls 4 [(3, .int (ji_n (i : Int))), (2, .int (ji_n (sp_pz z i))), (0, .ref (v 0)), (1, .int (ji_n (j : Int)))] → W p l e R s m args below meth c s.heap [] 0 0 Q (F0 m 4 ls []) := by
    refine lp_up j ?_
    intro i hi_i ih2 ls hl
    have hp := sp_AS_p hAS (i := i) (by omega)
    refine lv_iload_n hx hb dX3_place_4 rfl (lv_at hl 0 rfl) ?_
    refine lv_iload_n hx hb dX3_place_5 rfl (lv_at hl 3 rfl) ?_
    refine jn_icmp_ge hx hb dX3_place_6 (tgt := 24) rfl (by unfold ji_r; omega) (by unfold ji_r; omega) (fun hc3 => ?_) (fun hc3 => ?_)
    · skip
      have he : i = j := by omega
      refine lv_iload_n hx hb dX3_place_24 rfl (lv_at hl 1 rfl) ?_
      exact hend _ _ _ dX3_place_25 (congrArg ji_n (by rw [he]))
    · skip
      refine lv_iload_n hx hb dX3_place_9 rfl (lv_at hl 1 rfl) ?_
      refine lv_aload_n hx hb dX3_place_10 rfl (lv_at hl 2 rfl) ?_
      refine va_get (ci := 3) (C := RX3) (T := TX3) (N := 11) hx hb hts hinX3 hown hK hP 0 rfl rfl 9 (by decide) hfl28 (fun _ h9 => h9) rfl dX3_place_11 ?_
      refine lv_iload_n hx hb dX3_place_14 rfl (lv_at hl 0 rfl) ?_
      refine jn_iald hx hb hK hP 7 0 rfl rfl i (by omega) (by omega) (by decide) (v := z i) (hsz i (by omega)) dX3_place_15 ?_
      refine jn_iadd hx hb dX3_place_16 (v := (sp_pz z i) + (z i)) rfl ?_
      refine lv_istore_n (lv' := [(2, .int (ji_n ((sp_pz z i) + (z i)))), (3, .int (ji_n (i : Int))), (0, .ref (v 0)), (1, .int (ji_n (j : Int)))]) hx hb dX3_place_17 rfl hl (by decide) rfl (fun ls hl => ?_)
      refine jn_iinc (lv' := [(3, .int (ji_n ((i : Int) + 1))), (2, .int (ji_n ((sp_pz z i) + (z i)))), (0, .ref (v 0)), (1, .int (ji_n (j : Int)))]) (k := 1) (v := (i : Int) + 1) hx hb dX3_place_18 hl rfl rfl (by decide) rfl (fun ls hl => ?_)
      refine lv_goto hx hb dX3_place_21 (tgt := 4) rfl ?_
      have hl : lv_has ls 4 [(3, .int (ji_n ((i + 1 : Nat) : Int))), (2, .int (ji_n (sp_pz z (i + 1)))), (0, .ref (v 0)), (1, .int (ji_n (j : Int)))] := by
        have hl2 := lv_sub hl (l' := [(3, .int (ji_n ((i : Int) + 1))), (2, .int (ji_n ((sp_pz z i) + (z i)))), (0, .ref (v 0)), (1, .int (ji_n (j : Int)))]) [0, 1, 2, 3] rfl
        rw [show (ji_n ((i : Int) + 1)) = (ji_n ((i + 1 : Nat) : Int)) from (congrArg ji_n (by omega))] at hl2
        rw [show (ji_n ((sp_pz z i) + (z i))) = (ji_n (sp_pz z (i + 1))) from (congrArg ji_n (by rfl))] at hl2
        exact hl2
      exact ih2 (by omega) ls hl 
  have hl : lv_has ls 4 [(3, .int (ji_n ((0 : Nat) : Int))), (2, .int (ji_n (sp_pz z 0))), (0, .ref (v 0)), (1, .int (ji_n (j : Int)))] := lv_sub hl [0, 1, 2, 3] rfl
  exact loop1 0 (by omega) ls hl 

set_option maxHeartbeats 4000000 in
set_option maxRecDepth 100000 in
theorem cm_labelled (l : Launch) (dC : Nat → ClassId) (dI : Nat → Nat → Nat) (cI : ClassId) (v : Nat → Nat) (th by_ : Int) (nP n : Nat) (f0 f1 f2 g0 g1 g2 sz : Nat → Int32) (K A B z : Nat → Int) (hF : as_F n K A B g0 g1 g2) (hAS : sp_AS n K A B z) (hsz : ∀ j, j < n → sz j = ji_n (z j)) (x : Int) (r1 : ji_r x) : Met l yX3_labelled wsX3_labelled { frames := 1, cells := 0, slots := 0, locals := 23 } (va_Pc [.ref (v 0), .int (ji_n x)] (fun U => va_P (dC, dI) vwCl (wo_M v cI th (nP : Int) (n : Int) by_ f0 f1 f2 g0 g1 g2 sz) U.heap ∧ kn_K dC dI cI U)) (vp_Si (fun r => r = ji_n (sp_la K A z n x))) 0 0 (fun _ => False) := by
  refine st_rd (cc := cX3_labelled) (maxL := 3) (ret := some .int) (ty := .int) (by decide) rfl rfl (Nat.le_of_ble_eq_true rfl) (lv := [(0, .ref (v 0)), (1, .int (ji_n x))]) rfl (fun v h => rfl) ?_
  intro p e s m args below meth c R Q ls hx hb hts hown hml hR hB hl hend
  obtain ⟨hP, hN⟩ := hB
  have hK := hN.1
  have hinX3 : ∀ w ∈ u_ws RX3 TX3 11, w ∈ wsX3_labelled := fun w h => List.mem_cons_of_mem _ (inX3 w h)
  have hfl49 := (hts _ (List.mem_cons_of_mem _ tm_363))
  have hfl19 := (hts _ (List.mem_cons_of_mem _ tm_364))
  have hfl22 := (hts _ (List.mem_cons_of_mem _ tm_365))
  have hn := hAS.1
  have hg := hAS.2.1
  have ho := hAS.2.2.1
  have hu := hAS.2.2.2
  refine jn_iconst hx hb dX3_labelled_0 ?_
  refine lv_istore_n (lv' := [(2, .int (ji_n 0)), (0, .ref (v 0)), (1, .int (ji_n x))]) hx hb dX3_labelled_1 rfl hl (by decide) rfl (fun ls hl => ?_)
  have loop1 : ∀ i : Nat, i ≤ n → ∀ ls : Array Slot, lv_has ls 3 [(2, .int (ji_n (i : Int))), (0, .ref (v 0)), (1, .int (ji_n x))] → (∀ k : Nat, k < i → ¬ (K k = 0 ∧ A k = x)) → W p l e R s m args below meth c s.heap [] 0 0 Q (F0 m 2 ls []) := by
    refine lp_up n ?_
    intro i hi_i ih2 ls hl hq
    refine lv_iload_n hx hb dX3_labelled_2 rfl (lv_at hl 0 rfl) ?_
    refine lv_aload_n hx hb dX3_labelled_3 rfl (lv_at hl 1 rfl) ?_
    refine va_get (ci := 3) (C := RX3) (T := TX3) (N := 11) hx hb hts hinX3 hown hK hP 0 rfl rfl 5 (by decide) hfl49 (fun _ h9 => h9) rfl dX3_labelled_4 ?_
    refine jn_icmp_ge hx hb dX3_labelled_7 (tgt := 41) rfl (by unfold ji_r; omega) (by unfold ji_r; omega) (fun hc3 => ?_) (fun hc3 => ?_)
    · skip
      refine jn_iconst hx hb dX3_labelled_41 ?_
      exact hend _ _ _ dX3_labelled_42 (congrArg ji_n (sp_la_no (fun k hk => hq k (by omega))).symm)
    · skip
      have hgi := hg i (by omega)
      unfold sp_gd at hgi
      refine lv_aload_n hx hb dX3_labelled_10 rfl (lv_at hl 1 rfl) ?_
      refine va_get (ci := 3) (C := RX3) (T := TX3) (N := 11) hx hb hts hinX3 hown hK hP 0 rfl rfl 6 (by decide) hfl19 (fun _ h9 => h9) rfl dX3_labelled_11 ?_
      refine lv_iload_n hx hb dX3_labelled_14 rfl (lv_at hl 0 rfl) ?_
      refine jn_iald hx hb hK hP 4 0 rfl rfl i (by omega) (by omega) (by decide) (v := K i) (hF.1 i (by omega)) dX3_labelled_15 ?_
      refine jn_if_ne hx hb dX3_labelled_16 (tgt := 35) rfl (by unfold ji_r; omega) (fun hc4 => ?_) (fun hc4 => ?_)
      · skip
        refine jn_iinc (lv' := [(2, .int (ji_n ((i : Int) + 1))), (0, .ref (v 0)), (1, .int (ji_n x))]) (k := 0) (v := (i : Int) + 1) hx hb dX3_labelled_35 hl rfl rfl (by decide) rfl (fun ls hl => ?_)
        refine lv_goto hx hb dX3_labelled_38 (tgt := 2) rfl ?_
        have hl : lv_has ls 3 [(2, .int (ji_n ((i + 1 : Nat) : Int))), (0, .ref (v 0)), (1, .int (ji_n x))] := by
          have hl2 := lv_sub hl (l' := [(2, .int (ji_n ((i : Int) + 1))), (0, .ref (v 0)), (1, .int (ji_n x))]) [0, 1, 2] rfl
          rw [show (ji_n ((i : Int) + 1)) = (ji_n ((i + 1 : Nat) : Int)) from (congrArg ji_n (by omega))] at hl2
          exact hl2
        exact ih2 (by omega) ls hl (fun k h => by rcases Nat.lt_succ_iff_lt_or_eq.mp h with h | h; exact hq k h; rw [h]; omega)
      · skip
        refine lv_aload_n hx hb dX3_labelled_19 rfl (lv_at hl 1 rfl) ?_
        refine va_get (ci := 3) (C := RX3) (T := TX3) (N := 11) hx hb hts hinX3 hown hK hP 0 rfl rfl 7 (by decide) hfl22 (fun _ h9 => h9) rfl dX3_labelled_20 ?_
        refine lv_iload_n hx hb dX3_labelled_23 rfl (lv_at hl 0 rfl) ?_
        refine jn_iald hx hb hK hP 5 0 rfl rfl i (by omega) (by omega) (by decide) (v := A i) (hF.2.1 i (by omega)) dX3_labelled_24 ?_
        refine lv_iload_n hx hb dX3_labelled_25 rfl (lv_at hl 2 rfl) ?_
        refine jn_icmp_ne hx hb dX3_labelled_26 (tgt := 35) rfl (by unfold ji_r; omega) r1 (fun hc5 => ?_) (fun hc5 => ?_)
        · skip
          refine jn_iinc (lv' := [(2, .int (ji_n ((i : Int) + 1))), (0, .ref (v 0)), (1, .int (ji_n x))]) (k := 0) (v := (i : Int) + 1) hx hb dX3_labelled_35 hl rfl rfl (by decide) rfl (fun ls hl => ?_)
          refine lv_goto hx hb dX3_labelled_38 (tgt := 2) rfl ?_
          have hl : lv_has ls 3 [(2, .int (ji_n ((i + 1 : Nat) : Int))), (0, .ref (v 0)), (1, .int (ji_n x))] := by
            have hl2 := lv_sub hl (l' := [(2, .int (ji_n ((i : Int) + 1))), (0, .ref (v 0)), (1, .int (ji_n x))]) [0, 1, 2] rfl
            rw [show (ji_n ((i : Int) + 1)) = (ji_n ((i + 1 : Nat) : Int)) from (congrArg ji_n (by omega))] at hl2
            exact hl2
          exact ih2 (by omega) ls hl (fun k h => by rcases Nat.lt_succ_iff_lt_or_eq.mp h with h | h; exact hq k h; rw [h]; omega)
        · skip
          refine lv_aload_n hx hb dX3_labelled_29 rfl (lv_at hl 1 rfl) ?_
          refine lv_iload_n hx hb dX3_labelled_30 rfl (lv_at hl 0 rfl) ?_
          refine cl_rd (va_runV (As := [.int (ji_n (i : Int))]) (rest := []) ⟨hx, hb, hml, hown, hts⟩ (cm_place l dC dI cI v th by_ nP n f0 f1 f2 g0 g1 g2 sz K A B z hF hAS hsz i (by omega)) (cwV 1 hts (ub_V tm_434 tm_436 tm_s15 tm_5 tm_437) rfl rfl rfl (by decide +kernel) (by rw [hR]; exact ⟨Nat.le_of_ble_eq_true rfl, Nat.le_of_ble_eq_true rfl⟩)) (pv_rd (q0 := 0) (ci := 3) hN hP rfl rfl) rfl rfl hl.1 rfl (lv_room (Nat.le_of_ble_eq_true rfl)) dX3_labelled_31 ⟨Nat.zero_le _, Nat.zero_le _⟩) ?_
          have hp31 := sp_AS_p hAS (i := i) (by omega)
          exact hend _ _ _ dX3_labelled_34 (congrArg ji_n (by have h9 : A i = x := (by omega); rw [← h9]; exact (sp_la_at hu (by omega) (by omega)).symm))
  have hl : lv_has ls 3 [(2, .int (ji_n ((0 : Nat) : Int))), (0, .ref (v 0)), (1, .int (ji_n x))] := lv_sub hl [0, 1, 2] rfl
  exact loop1 0 (by omega) ls hl (fun k h => absurd h (Nat.not_lt_zero k))

set_option maxHeartbeats 4000000 in
set_option maxRecDepth 100000 in
theorem cm_span (l : Launch) (dC : Nat → ClassId) (dI : Nat → Nat → Nat) (cI : ClassId) (v : Nat → Nat) (th by_ : Int) (nP n : Nat) (f0 f1 f2 g0 g1 g2 sz : Nat → Int32) (K A B z : Nat → Int) (hF : as_F n K A B g0 g1 g2) (hAS : sp_AS n K A B z) (hsz : ∀ j, j < n → sz j = ji_n (z j)) (j : Nat) (hj : j < n) : Met l yX3_span wsX3_span { frames := 2, cells := 0, slots := 0, locals := 45 } (va_Pc [.ref (v 0), .int (ji_n (j : Int))] (fun U => va_P (dC, dI) vwCl (wo_M v cI th (nP : Int) (n : Int) by_ f0 f1 f2 g0 g1 g2 sz) U.heap ∧ kn_K dC dI cI U)) (vp_Si (fun r => r = ji_n (sp_ds n K A z j))) 0 0 (fun _ => False) := by
  refine st_rd (cc := cX3_span) (maxL := 2) (ret := some .int) (ty := .int) (by decide) rfl rfl (Nat.le_of_ble_eq_true rfl) (lv := [(0, .ref (v 0)), (1, .int (ji_n (j : Int)))]) rfl (fun v h => rfl) ?_
  intro p e s m args below meth c R Q ls hx hb hts hown hml hR hB hl hend
  obtain ⟨hP, hN⟩ := hB
  have hK := hN.1
  have hinX3 : ∀ w ∈ u_ws RX3 TX3 11, w ∈ wsX3_span := fun w h => List.mem_cons_of_mem _ (inX3 w h)
  have hfl22 := (hts _ (List.mem_cons_of_mem _ tm_365))
  have hn := hAS.1
  have hg := hAS.2.1
  have ho := hAS.2.2.1
  have hu := hAS.2.2.2
  have hgj := hg j hj
  unfold sp_gd at hgj
  refine lv_aload_n hx hb dX3_span_0 rfl (lv_at hl 0 rfl) ?_
  refine lv_aload_n hx hb dX3_span_1 rfl (lv_at hl 0 rfl) ?_
  refine va_get (ci := 3) (C := RX3) (T := TX3) (N := 11) hx hb hts hinX3 hown hK hP 0 rfl rfl 7 (by decide) hfl22 (fun _ h9 => h9) rfl dX3_span_2 ?_
  refine lv_iload_n hx hb dX3_span_5 rfl (lv_at hl 1 rfl) ?_
  refine jn_iald hx hb hK hP 5 0 rfl rfl j (by omega) (by omega) (by decide) (v := A j) (hF.2.1 j (by omega)) dX3_span_6 ?_
  refine cl_rd (va_runV (As := [.int (ji_n (A j))]) (rest := []) ⟨hx, hb, hml, hown, hts⟩ (cm_labelled l dC dI cI v th by_ nP n f0 f1 f2 g0 g1 g2 sz K A B z hF hAS hsz (A j) (by unfold ji_r; omega)) (cwV 1 hts (ub_V tm_430 tm_432 tm_s14 tm_5 tm_433) rfl rfl rfl (by decide +kernel) (by rw [hR]; exact ⟨Nat.le_of_ble_eq_true rfl, Nat.le_of_ble_eq_true rfl⟩)) (pv_rd (q0 := 0) (ci := 3) hN hP rfl rfl) rfl rfl hl.1 rfl (lv_room (Nat.le_of_ble_eq_true rfl)) dX3_span_7 ⟨Nat.zero_le _, Nat.zero_le _⟩) ?_
  refine lv_aload_n hx hb dX3_span_10 rfl (lv_at hl 0 rfl) ?_
  refine lv_iload_n hx hb dX3_span_11 rfl (lv_at hl 1 rfl) ?_
  refine jn_iconst hx hb dX3_span_12 ?_
  refine jn_iadd hx hb dX3_span_13 (v := (j : Int) + 1) rfl ?_
  refine cl_rd (va_runV (As := [.int (ji_n ((j : Int) + 1))]) (rest := [.int (ji_n (sp_la K A z n (A j)))]) ⟨hx, hb, hml, hown, hts⟩ (cm_place l dC dI cI v th by_ nP n f0 f1 f2 g0 g1 g2 sz K A B z hF hAS hsz (j + 1) (by omega)) (cwV 1 hts (ub_V tm_434 tm_436 tm_s15 tm_5 tm_437) rfl rfl rfl (by decide +kernel) (by rw [hR]; exact ⟨Nat.le_of_ble_eq_true rfl, Nat.le_of_ble_eq_true rfl⟩)) (pv_rd (q0 := 0) (ci := 3) hN hP rfl rfl) rfl rfl hl.1 rfl (lv_room (Nat.le_of_ble_eq_true rfl)) dX3_span_14 ⟨Nat.zero_le _, Nat.zero_le _⟩) ?_
  refine jn_isub hx hb dX3_span_17 (v := (sp_la K A z n (A j)) - (sp_pz z (j + 1))) rfl ?_
  exact hend _ _ _ dX3_span_18 rfl

set_option maxHeartbeats 4000000 in
set_option maxRecDepth 100000 in
theorem cm_jumpByte (l : Launch) (dC : Nat → ClassId) (dI : Nat → Nat → Nat) (cI : ClassId) (v : Nat → Nat) (th by_ : Int) (nP n : Nat) (f0 f1 f2 g0 g1 g2 sz : Nat → Int32) (K A B z : Nat → Int) (hF : as_F n K A B g0 g1 g2) (hAS : sp_AS n K A B z) (hsz : ∀ j, j < n → sz j = ji_n (z j)) (j : Nat) (hj : j < n) (o : Int) (h3 : K j = 3) (ho0 : 0 ≤ o) (hoz : o < z j) : Met l yX3_jumpByte wsX3_jumpByte { frames := 3, cells := 0, slots := 0, locals := 66 } (va_Pc [.ref (v 0), .int (ji_n (j : Int)), .int (ji_n o)] (fun U => va_P (dC, dI) vwCl (wo_M v cI th (nP : Int) (n : Int) by_ f0 f1 f2 g0 g1 g2 sz) U.heap ∧ kn_K dC dI cI U)) (vp_Si (fun r => r = ji_n (sp_lb n K A B z j o))) 0 0 (fun _ => False) := by
  refine st_rd (cc := cX3_jumpByte) (maxL := 7) (ret := some .int) (ty := .int) (by decide) rfl rfl (Nat.le_of_ble_eq_true rfl) (lv := [(0, .ref (v 0)), (1, .int (ji_n (j : Int))), (2, .int (ji_n o))]) rfl (fun v h => rfl) ?_
  intro p e s m args below meth c R Q ls hx hb hts hown hml hR hB hl hend
  obtain ⟨hP, hN⟩ := hB
  have hK := hN.1
  have hinX3 : ∀ w ∈ u_ws RX3 TX3 11, w ∈ wsX3_jumpByte := fun w h => List.mem_cons_of_mem _ (inX3 w h)
  have hfl25 := (hts _ (List.mem_cons_of_mem _ tm_366))
  have hfl28 := (hts _ (List.mem_cons_of_mem _ tm_367))
  have hn := hAS.1
  have hg := hAS.2.1
  have ho := hAS.2.2.1
  have hu := hAS.2.2.2
  have hgj := hg j (by omega)
  unfold sp_gd at hgj
  have hoj := ho j (by omega)
  have hfj := sp_fm_or (K j) (z j)
  have hlj := sp_lg_or (B j)
  have hlb := sp_lb_or (n := n) (A := A) (B := B) (z := z) (j := j) o h3
  have hop := sp_op_or (c := B j)
  refine lv_aload_n hx hb dX3_jumpByte_0 rfl (lv_at hl 0 rfl) ?_
  refine lv_iload_n hx hb dX3_jumpByte_1 rfl (lv_at hl 1 rfl) ?_
  refine cl_rd (va_runV (As := [.int (ji_n (j : Int))]) (rest := []) ⟨hx, hb, hml, hown, hts⟩ (cm_span l dC dI cI v th by_ nP n f0 f1 f2 g0 g1 g2 sz K A B z hF hAS hsz j (by omega)) (cwV 1 hts (ub_V tm_426 tm_428 tm_s13 tm_5 tm_429) rfl rfl rfl (by decide +kernel) (by rw [hR]; exact ⟨Nat.le_of_ble_eq_true rfl, Nat.le_of_ble_eq_true rfl⟩)) (pv_rd (q0 := 0) (ci := 3) hN hP rfl rfl) rfl rfl hl.1 rfl (lv_room (Nat.le_of_ble_eq_true rfl)) dX3_jumpByte_2 ⟨Nat.zero_le _, Nat.zero_le _⟩) ?_
  have hds := sp_AS_ds hAS (j := j) (by omega)
  refine lv_istore_n (lv' := [(3, .int (ji_n (sp_ds n K A z j))), (0, .ref (v 0)), (1, .int (ji_n (j : Int))), (2, .int (ji_n o))]) hx hb dX3_jumpByte_5 rfl hl (by decide) rfl (fun ls hl => ?_)
  refine lv_aload_n hx hb dX3_jumpByte_6 rfl (lv_at hl 1 rfl) ?_
  refine va_get (ci := 3) (C := RX3) (T := TX3) (N := 11) hx hb hts hinX3 hown hK hP 0 rfl rfl 8 (by decide) hfl25 (fun _ h9 => h9) rfl dX3_jumpByte_7 ?_
  refine lv_iload_n hx hb dX3_jumpByte_10 rfl (lv_at hl 2 rfl) ?_
  refine jn_iald hx hb hK hP 6 0 rfl rfl j (by omega) (by omega) (by decide) (v := B j) (hF.2.2 j (by omega)) dX3_jumpByte_11 ?_
  refine lv_istore (lv' := [(4, .int (ji_n (B j))), (3, .int (ji_n (sp_ds n K A z j))), (0, .ref (v 0)), (1, .int (ji_n (j : Int))), (2, .int (ji_n o))]) hx hb dX3_jumpByte_12 hl (by decide) rfl (fun ls hl => ?_)
  refine lv_aload_n hx hb dX3_jumpByte_14 rfl (lv_at hl 2 rfl) ?_
  refine va_get (ci := 3) (C := RX3) (T := TX3) (N := 11) hx hb hts hinX3 hown hK hP 0 rfl rfl 9 (by decide) hfl28 (fun _ h9 => h9) rfl dX3_jumpByte_15 ?_
  refine lv_iload_n hx hb dX3_jumpByte_18 rfl (lv_at hl 3 rfl) ?_
  refine jn_iald hx hb hK hP 7 0 rfl rfl j (by omega) (by omega) (by decide) (v := z j) (hsz j (by omega)) dX3_jumpByte_19 ?_
  refine lv_istore (lv' := [(5, .int (ji_n (z j))), (4, .int (ji_n (B j))), (3, .int (ji_n (sp_ds n K A z j))), (0, .ref (v 0)), (1, .int (ji_n (j : Int))), (2, .int (ji_n o))]) hx hb dX3_jumpByte_20 hl (by decide) rfl (fun ls hl => ?_)
  refine lv_iload hx hb dX3_jumpByte_22 (lv_at hl 0 rfl) ?_
  refine jn_iconst hx hb dX3_jumpByte_24 ?_
  refine jn_icmp_ne hx hb dX3_jumpByte_25 (tgt := 46) rfl (by unfold ji_r; omega) (by unfold ji_r; omega) (fun hc1 => ?_) (fun hc1 => ?_)
  · skip
    refine lv_iload hx hb dX3_jumpByte_46 (lv_at hl 0 rfl) ?_
    refine jn_iconst hx hb dX3_jumpByte_48 ?_
    refine jn_icmp_ne hx hb dX3_jumpByte_49 (tgt := 85) rfl (by unfold ji_r; omega) (by unfold ji_r; omega) (fun hc2 => ?_) (fun hc2 => ?_)
    · skip
      refine lv_iload hx hb dX3_jumpByte_85 (lv_at hl 0 rfl) ?_
      refine lv_iload_n hx hb dX3_jumpByte_87 rfl (lv_at hl 5 rfl) ?_
      refine jn_isub hx hb dX3_jumpByte_88 (v := (z j) - o) rfl ?_
      refine lv_istore (lv' := [(6, .int (ji_n ((z j) - o))), (5, .int (ji_n (z j))), (4, .int (ji_n (B j))), (3, .int (ji_n (sp_ds n K A z j))), (0, .ref (v 0)), (1, .int (ji_n (j : Int))), (2, .int (ji_n o))]) hx hb dX3_jumpByte_89 hl (by decide) rfl (fun ls hl => ?_)
      refine lv_iload hx hb dX3_jumpByte_91 (lv_at hl 0 rfl) ?_
      refine jn_iconst hx hb dX3_jumpByte_93 ?_
      refine jn_icmp_ne hx hb dX3_jumpByte_94 (tgt := 102) rfl (by unfold ji_r; omega) (by unfold ji_r; omega) (fun hc3 => ?_) (fun hc3 => ?_)
      · skip
        refine lv_iload hx hb dX3_jumpByte_102 (lv_at hl 0 rfl) ?_
        refine jn_iconst hx hb dX3_jumpByte_104 ?_
        refine jn_icmp_ne hx hb dX3_jumpByte_105 (tgt := 119) rfl (by unfold ji_r; omega) (by unfold ji_r; omega) (fun hc4 => ?_) (fun hc4 => ?_)
        · skip
          refine lv_iload_n hx hb dX3_jumpByte_119 rfl (lv_at hl 3 rfl) ?_
          refine jn_sipush hx hb dX3_jumpByte_120 (by decide) ?_
          refine jn_and255 hx hb dX3_jumpByte_123 ?_
          exact hend _ _ _ dX3_jumpByte_124 (congrArg ji_n (by omega))
        · skip
          refine lv_iload_n hx hb dX3_jumpByte_108 rfl (lv_at hl 3 rfl) ?_
          refine jn_bipush hx hb dX3_jumpByte_109 (by decide) ?_
          refine jn_shr8 hx hb dX3_jumpByte_111 (by unfold ji_r; omega) ?_
          refine jn_sipush hx hb dX3_jumpByte_112 (by decide) ?_
          refine jn_and255 hx hb dX3_jumpByte_115 ?_
          refine lv_goto hx hb dX3_jumpByte_116 (tgt := 124) rfl ?_
          exact hend _ _ _ dX3_jumpByte_124 (congrArg ji_n (by omega))
      · skip
        refine jn_bipush hx hb dX3_jumpByte_97 (by decide) ?_
        refine lv_goto hx hb dX3_jumpByte_99 (tgt := 124) rfl ?_
        exact hend _ _ _ dX3_jumpByte_124 (congrArg ji_n (by omega))
    · skip
      refine lv_iload_n hx hb dX3_jumpByte_52 rfl (lv_at hl 5 rfl) ?_
      refine jn_iconst hx hb dX3_jumpByte_53 ?_
      refine jn_icmp_ge hx hb dX3_jumpByte_54 (tgt := 85) rfl (by unfold ji_r; omega) (by unfold ji_r; omega) (fun hc5 => ?_) (fun hc5 => ?_)
      · skip
        refine lv_iload hx hb dX3_jumpByte_85 (lv_at hl 0 rfl) ?_
        refine lv_iload_n hx hb dX3_jumpByte_87 rfl (lv_at hl 5 rfl) ?_
        refine jn_isub hx hb dX3_jumpByte_88 (v := (z j) - o) rfl ?_
        refine lv_istore (lv' := [(6, .int (ji_n ((z j) - o))), (5, .int (ji_n (z j))), (4, .int (ji_n (B j))), (3, .int (ji_n (sp_ds n K A z j))), (0, .ref (v 0)), (1, .int (ji_n (j : Int))), (2, .int (ji_n o))]) hx hb dX3_jumpByte_89 hl (by decide) rfl (fun ls hl => ?_)
        refine lv_iload hx hb dX3_jumpByte_91 (lv_at hl 0 rfl) ?_
        refine jn_iconst hx hb dX3_jumpByte_93 ?_
        refine jn_icmp_ne hx hb dX3_jumpByte_94 (tgt := 102) rfl (by unfold ji_r; omega) (by unfold ji_r; omega) (fun hc6 => ?_) (fun hc6 => ?_)
        · skip
          refine lv_iload hx hb dX3_jumpByte_102 (lv_at hl 0 rfl) ?_
          refine jn_iconst hx hb dX3_jumpByte_104 ?_
          refine jn_icmp_ne hx hb dX3_jumpByte_105 (tgt := 119) rfl (by unfold ji_r; omega) (by unfold ji_r; omega) (fun hc7 => ?_) (fun hc7 => ?_)
          · skip
            refine lv_iload_n hx hb dX3_jumpByte_119 rfl (lv_at hl 3 rfl) ?_
            refine jn_sipush hx hb dX3_jumpByte_120 (by decide) ?_
            refine jn_and255 hx hb dX3_jumpByte_123 ?_
            exact hend _ _ _ dX3_jumpByte_124 (congrArg ji_n (by omega))
          · skip
            refine lv_iload_n hx hb dX3_jumpByte_108 rfl (lv_at hl 3 rfl) ?_
            refine jn_bipush hx hb dX3_jumpByte_109 (by decide) ?_
            refine jn_shr8 hx hb dX3_jumpByte_111 (by unfold ji_r; omega) ?_
            refine jn_sipush hx hb dX3_jumpByte_112 (by decide) ?_
            refine jn_and255 hx hb dX3_jumpByte_115 ?_
            refine lv_goto hx hb dX3_jumpByte_116 (tgt := 124) rfl ?_
            exact hend _ _ _ dX3_jumpByte_124 (congrArg ji_n (by omega))
        · skip
          refine jn_bipush hx hb dX3_jumpByte_97 (by decide) ?_
          refine lv_goto hx hb dX3_jumpByte_99 (tgt := 124) rfl ?_
          exact hend _ _ _ dX3_jumpByte_124 (congrArg ji_n (by omega))
      · skip
        refine lv_iload_n hx hb dX3_jumpByte_57 rfl (lv_at hl 5 rfl) ?_
        refine jn_iconst hx hb dX3_jumpByte_58 ?_
        refine jn_icmp_ne hx hb dX3_jumpByte_59 (tgt := 66) rfl (by unfold ji_r; omega) (by unfold ji_r; omega) (fun hc8 => ?_) (fun hc8 => ?_)
        · skip
          refine lv_iload hx hb dX3_jumpByte_66 (lv_at hl 1 rfl) ?_
          refine jn_iconst hx hb dX3_jumpByte_68 ?_
          refine jn_icmp_ne hx hb dX3_jumpByte_69 (tgt := 77) rfl (by unfold ji_r; omega) (by unfold ji_r; omega) (fun hc9 => ?_) (fun hc9 => ?_)
          · skip
            refine jn_bipush hx hb dX3_jumpByte_77 (by decide) ?_
            refine lv_iload hx hb dX3_jumpByte_79 (lv_at hl 1 rfl) ?_
            refine jn_iconst hx hb dX3_jumpByte_81 ?_
            refine jn_xor4 hx hb dX3_jumpByte_82 (by omega) ?_
            have hx4 := sp_x4_or (B j)
            refine jn_iadd hx hb dX3_jumpByte_83 (v := 32 + (sp_x4 (B j))) rfl ?_
            exact hend _ _ _ dX3_jumpByte_84 (congrArg ji_n (by omega))
          · skip
            refine jn_bipush hx hb dX3_jumpByte_72 (by decide) ?_
            refine lv_goto hx hb dX3_jumpByte_74 (tgt := 84) rfl ?_
            exact hend _ _ _ dX3_jumpByte_84 (congrArg ji_n (by omega))
        · skip
          refine jn_iconst hx hb dX3_jumpByte_62 ?_
          refine lv_goto hx hb dX3_jumpByte_63 (tgt := 84) rfl ?_
          exact hend _ _ _ dX3_jumpByte_84 (congrArg ji_n (by omega))
  · skip
    refine lv_iload_n hx hb dX3_jumpByte_28 rfl (lv_at hl 5 rfl) ?_
    refine jn_if_ne hx hb dX3_jumpByte_29 (tgt := 40) rfl (by unfold ji_r; omega) (fun hc10 => ?_) (fun hc10 => ?_)
    · skip
      refine lv_iload_n hx hb dX3_jumpByte_40 rfl (lv_at hl 2 rfl) ?_
      refine jn_sipush hx hb dX3_jumpByte_41 (by decide) ?_
      refine jn_and255 hx hb dX3_jumpByte_44 ?_
      exact hend _ _ _ dX3_jumpByte_45 (congrArg ji_n (by omega))
    · skip
      refine jn_bipush hx hb dX3_jumpByte_32 (by decide) ?_
      refine lv_iload hx hb dX3_jumpByte_34 (lv_at hl 1 rfl) ?_
      refine jn_iadd hx hb dX3_jumpByte_36 (v := 32 + (B j)) rfl ?_
      refine lv_goto hx hb dX3_jumpByte_37 (tgt := 45) rfl ?_
      exact hend _ _ _ dX3_jumpByte_45 (congrArg ji_n (by omega))

set_option maxHeartbeats 4000000 in
set_option maxRecDepth 100000 in
theorem cm_byteAt (l : Launch) (dC : Nat → ClassId) (dI : Nat → Nat → Nat) (cI : ClassId) (v : Nat → Nat) (th by_ : Int) (nP n : Nat) (f0 f1 f2 g0 g1 g2 sz : Nat → Int32) (K A B z : Nat → Int) (hF : as_F n K A B g0 g1 g2) (hAS : sp_AS n K A B z) (hsz : ∀ j, j < n → sz j = ji_n (z j)) (x : Int) (hx0 : 0 ≤ x) (hx1 : x < sp_pz z n) : Met l yX3_byteAt wsX3_byteAt { frames := 4, cells := 0, slots := 0, locals := 92 } (va_Pc [.ref (v 0), .int (ji_n x)] (fun U => va_P (dC, dI) vwCl (wo_M v cI th (nP : Int) (n : Int) by_ f0 f1 f2 g0 g1 g2 sz) U.heap ∧ kn_K dC dI cI U)) (vp_Si (fun r => r = ji_n (sp_ba n K A B z x))) 0 0 (fun _ => False) := by
  refine st_rd (cc := cX3_byteAt) (maxL := 5) (ret := some .int) (ty := .int) (by decide) rfl rfl (Nat.le_of_ble_eq_true rfl) (lv := [(0, .ref (v 0)), (1, .int (ji_n x))]) rfl (fun v h => rfl) ?_
  intro p e s m args below meth c R Q ls hx hb hts hown hml hR hB hl hend
  obtain ⟨hP, hN⟩ := hB
  have hK := hN.1
  have hinX3 : ∀ w ∈ u_ws RX3 TX3 11, w ∈ wsX3_byteAt := fun w h => List.mem_cons_of_mem _ (inX3 w h)
  have hfl19 := (hts _ (List.mem_cons_of_mem _ tm_364))
  have hfl22 := (hts _ (List.mem_cons_of_mem _ tm_365))
  have hfl25 := (hts _ (List.mem_cons_of_mem _ tm_366))
  have hn := hAS.1
  have hg := hAS.2.1
  have ho := hAS.2.2.1
  have hu := hAS.2.2.2
  have hpn := sp_AS_p hAS (Nat.le_refl n)
  refine jn_iconst hx hb dX3_byteAt_0 ?_
  refine lv_istore_n (lv' := [(2, .int (ji_n 0)), (0, .ref (v 0)), (1, .int (ji_n x))]) hx hb dX3_byteAt_1 rfl hl (by decide) rfl (fun ls hl => ?_)
  have loop1 : ∀ i : Nat, i ≤ n → ∀ ls : Array Slot, lv_has ls 5 [(2, .int (ji_n (i : Int))), (0, .ref (v 0)), (1, .int (ji_n x))] → sp_pz z i ≤ x → W p l e R s m args below meth c s.heap [] 0 0 Q (F0 m 2 ls []) := by
    refine lp_up n ?_
    intro i hi_i ih2 ls hl hq
    have hin : i < n := by
      rcases Nat.lt_or_ge i n with h | h
      · exact h
      · have he : i = n := by omega
        rw [he] at hq; omega
    have hpz := sp_pz_s z i
    have hgj := hg i (by omega)
    unfold sp_gd at hgj
    have hoj := ho i (by omega)
    have hfj := sp_fm_or (K i) (z i)
    have hlj := sp_lg_or (B i)
    refine lv_aload_n hx hb dX3_byteAt_2 rfl (lv_at hl 1 rfl) ?_
    refine lv_iload_n hx hb dX3_byteAt_3 rfl (lv_at hl 0 rfl) ?_
    refine jn_iconst hx hb dX3_byteAt_4 ?_
    refine jn_iadd hx hb dX3_byteAt_5 (v := (i : Int) + 1) rfl ?_
    refine cl_rd (va_runV (As := [.int (ji_n ((i : Int) + 1))]) (rest := []) ⟨hx, hb, hml, hown, hts⟩ (cm_place l dC dI cI v th by_ nP n f0 f1 f2 g0 g1 g2 sz K A B z hF hAS hsz (i + 1) (by omega)) (cwV 1 hts (ub_V tm_434 tm_436 tm_s15 tm_5 tm_437) rfl rfl rfl (by decide +kernel) (by rw [hR]; exact ⟨Nat.le_of_ble_eq_true rfl, Nat.le_of_ble_eq_true rfl⟩)) (pv_rd (q0 := 0) (ci := 3) hN hP rfl rfl) rfl rfl hl.1 rfl (lv_room (Nat.le_of_ble_eq_true rfl)) dX3_byteAt_6 ⟨Nat.zero_le _, Nat.zero_le _⟩) ?_
    have hp6 := sp_AS_p hAS (i := i + 1) (by omega)
    refine lv_iload_n hx hb dX3_byteAt_9 rfl (lv_at hl 2 rfl) ?_
    refine jn_icmp_gt hx hb dX3_byteAt_10 (tgt := 19) rfl (by unfold ji_r; omega) (by unfold ji_r; omega) (fun hc3 => ?_) (fun hc3 => ?_)
    · skip
      have hba := sp_ba_at hAS hin hq (by omega)
      refine lv_iload_n hx hb dX3_byteAt_19 rfl (lv_at hl 2 rfl) ?_
      refine lv_aload_n hx hb dX3_byteAt_20 rfl (lv_at hl 1 rfl) ?_
      refine lv_iload_n hx hb dX3_byteAt_21 rfl (lv_at hl 0 rfl) ?_
      refine cl_rd (va_runV (As := [.int (ji_n (i : Int))]) (rest := [.int (ji_n x)]) ⟨hx, hb, hml, hown, hts⟩ (cm_place l dC dI cI v th by_ nP n f0 f1 f2 g0 g1 g2 sz K A B z hF hAS hsz i (by omega)) (cwV 1 hts (ub_V tm_434 tm_436 tm_s15 tm_5 tm_437) rfl rfl rfl (by decide +kernel) (by rw [hR]; exact ⟨Nat.le_of_ble_eq_true rfl, Nat.le_of_ble_eq_true rfl⟩)) (pv_rd (q0 := 0) (ci := 3) hN hP rfl rfl) rfl rfl hl.1 rfl (lv_room (Nat.le_of_ble_eq_true rfl)) dX3_byteAt_22 ⟨Nat.zero_le _, Nat.zero_le _⟩) ?_
      have hp22 := sp_AS_p hAS (i := i) (by omega)
      refine jn_isub hx hb dX3_byteAt_25 (v := x - (sp_pz z i)) rfl ?_
      refine lv_istore_n (lv' := [(3, .int (ji_n (x - (sp_pz z i)))), (2, .int (ji_n (i : Int))), (0, .ref (v 0)), (1, .int (ji_n x))]) hx hb dX3_byteAt_26 rfl hl (by decide) rfl (fun ls hl => ?_)
      refine lv_aload_n hx hb dX3_byteAt_27 rfl (lv_at hl 2 rfl) ?_
      refine va_get (ci := 3) (C := RX3) (T := TX3) (N := 11) hx hb hts hinX3 hown hK hP 0 rfl rfl 6 (by decide) hfl19 (fun _ h9 => h9) rfl dX3_byteAt_28 ?_
      refine lv_iload_n hx hb dX3_byteAt_31 rfl (lv_at hl 1 rfl) ?_
      refine jn_iald hx hb hK hP 4 0 rfl rfl i (by omega) (by omega) (by decide) (v := K i) (hF.1 i (by omega)) dX3_byteAt_32 ?_
      refine jn_iconst hx hb dX3_byteAt_33 ?_
      refine jn_icmp_ne hx hb dX3_byteAt_34 (tgt := 44) rfl (by unfold ji_r; omega) (by unfold ji_r; omega) (fun hc4 => ?_) (fun hc4 => ?_)
      · skip
        refine lv_aload_n hx hb dX3_byteAt_44 rfl (lv_at hl 2 rfl) ?_
        refine va_get (ci := 3) (C := RX3) (T := TX3) (N := 11) hx hb hts hinX3 hown hK hP 0 rfl rfl 6 (by decide) hfl19 (fun _ h9 => h9) rfl dX3_byteAt_45 ?_
        refine lv_iload_n hx hb dX3_byteAt_48 rfl (lv_at hl 1 rfl) ?_
        refine jn_iald hx hb hK hP 4 0 rfl rfl i (by omega) (by omega) (by decide) (v := K i) (hF.1 i (by omega)) dX3_byteAt_49 ?_
        refine jn_iconst hx hb dX3_byteAt_50 ?_
        refine jn_icmp_ne hx hb dX3_byteAt_51 (tgt := 96) rfl (by unfold ji_r; omega) (by unfold ji_r; omega) (fun hc5 => ?_) (fun hc5 => ?_)
        · skip
          refine lv_aload_n hx hb dX3_byteAt_96 rfl (lv_at hl 2 rfl) ?_
          refine lv_iload_n hx hb dX3_byteAt_97 rfl (lv_at hl 1 rfl) ?_
          refine lv_iload_n hx hb dX3_byteAt_98 rfl (lv_at hl 0 rfl) ?_
          refine cl_rd (va_runV (As := [.int (ji_n (i : Int)), .int (ji_n (x - (sp_pz z i)))]) (rest := []) ⟨hx, hb, hml, hown, hts⟩ (cm_jumpByte l dC dI cI v th by_ nP n f0 f1 f2 g0 g1 g2 sz K A B z hF hAS hsz i (by omega) (x - sp_pz z i) (by omega) (by omega) (by omega)) (cwV 2 hts (ub_V tm_446 tm_448 tm_s17 tm_5 tm_449) rfl rfl rfl (by decide +kernel) (by rw [hR]; exact ⟨Nat.le_of_ble_eq_true rfl, Nat.le_of_ble_eq_true rfl⟩)) (pv_rd (q0 := 0) (ci := 3) hN hP rfl rfl) rfl rfl hl.1 rfl (lv_room (Nat.le_of_ble_eq_true rfl)) dX3_byteAt_99 ⟨Nat.zero_le _, Nat.zero_le _⟩) ?_
          exact hend _ _ _ dX3_byteAt_102 (congrArg ji_n hba.symm)
        · skip
          refine lv_aload_n hx hb dX3_byteAt_54 rfl (lv_at hl 2 rfl) ?_
          refine lv_aload_n hx hb dX3_byteAt_55 rfl (lv_at hl 2 rfl) ?_
          refine va_get (ci := 3) (C := RX3) (T := TX3) (N := 11) hx hb hts hinX3 hown hK hP 0 rfl rfl 7 (by decide) hfl22 (fun _ h9 => h9) rfl dX3_byteAt_56 ?_
          refine lv_iload_n hx hb dX3_byteAt_59 rfl (lv_at hl 1 rfl) ?_
          refine jn_iald hx hb hK hP 5 0 rfl rfl i (by omega) (by omega) (by decide) (v := A i) (hF.2.1 i (by omega)) dX3_byteAt_60 ?_
          refine cl_rd (va_runV (As := [.int (ji_n (A i))]) (rest := []) ⟨hx, hb, hml, hown, hts⟩ (cm_labelled l dC dI cI v th by_ nP n f0 f1 f2 g0 g1 g2 sz K A B z hF hAS hsz (A i) (by unfold ji_r; omega)) (cwV 1 hts (ub_V tm_430 tm_432 tm_s14 tm_5 tm_433) rfl rfl rfl (by decide +kernel) (by rw [hR]; exact ⟨Nat.le_of_ble_eq_true rfl, Nat.le_of_ble_eq_true rfl⟩)) (pv_rd (q0 := 0) (ci := 3) hN hP rfl rfl) rfl rfl hl.1 rfl (lv_room (Nat.le_of_ble_eq_true rfl)) dX3_byteAt_61 ⟨Nat.zero_le _, Nat.zero_le _⟩) ?_
          have hla := sp_AS_la hAS (Nat.le_refl n) (A i)
          refine lv_aload_n hx hb dX3_byteAt_64 rfl (lv_at hl 2 rfl) ?_
          refine va_get (ci := 3) (C := RX3) (T := TX3) (N := 11) hx hb hts hinX3 hown hK hP 0 rfl rfl 8 (by decide) hfl25 (fun _ h9 => h9) rfl dX3_byteAt_65 ?_
          refine lv_iload_n hx hb dX3_byteAt_68 rfl (lv_at hl 1 rfl) ?_
          refine jn_iald hx hb hK hP 6 0 rfl rfl i (by omega) (by omega) (by decide) (v := B i) (hF.2.2 i (by omega)) dX3_byteAt_69 ?_
          refine jn_iadd hx hb dX3_byteAt_70 (v := (sp_la K A z n (A i)) + (B i)) rfl ?_
          refine lv_istore (lv' := [(4, .int (ji_n ((sp_la K A z n (A i)) + (B i)))), (3, .int (ji_n (x - (sp_pz z i)))), (2, .int (ji_n (i : Int))), (0, .ref (v 0)), (1, .int (ji_n x))]) hx hb dX3_byteAt_71 hl (by decide) rfl (fun ls hl => ?_)
          refine lv_iload_n hx hb dX3_byteAt_73 rfl (lv_at hl 1 rfl) ?_
          refine jn_if_ne hx hb dX3_byteAt_74 (tgt := 89) rfl (by unfold ji_r; omega) (fun hc6 => ?_) (fun hc6 => ?_)
          · skip
            refine lv_iload hx hb dX3_byteAt_89 (lv_at hl 0 rfl) ?_
            refine jn_sipush hx hb dX3_byteAt_91 (by decide) ?_
            refine jn_and255 hx hb dX3_byteAt_94 ?_
            exact hend _ _ _ dX3_byteAt_95 (congrArg ji_n (by rw [hba, sp_lb_2 (by omega)]; have := sp_pb_or (sp_la K A z n (A i) + B i) (x - sp_pz z i); omega))
          · skip
            refine lv_iload hx hb dX3_byteAt_77 (lv_at hl 0 rfl) ?_
            refine jn_bipush hx hb dX3_byteAt_79 (by decide) ?_
            refine jn_shr8 hx hb dX3_byteAt_81 (by unfold ji_r; omega) ?_
            refine jn_sipush hx hb dX3_byteAt_82 (by decide) ?_
            refine jn_and255 hx hb dX3_byteAt_85 ?_
            refine lv_goto hx hb dX3_byteAt_86 (tgt := 95) rfl ?_
            exact hend _ _ _ dX3_byteAt_95 (congrArg ji_n (by rw [hba, sp_lb_2 (by omega)]; have := sp_pb_or (sp_la K A z n (A i) + B i) (x - sp_pz z i); omega))
      · skip
        refine lv_aload_n hx hb dX3_byteAt_37 rfl (lv_at hl 2 rfl) ?_
        refine va_get (ci := 3) (C := RX3) (T := TX3) (N := 11) hx hb hts hinX3 hown hK hP 0 rfl rfl 8 (by decide) hfl25 (fun _ h9 => h9) rfl dX3_byteAt_38 ?_
        refine lv_iload_n hx hb dX3_byteAt_41 rfl (lv_at hl 1 rfl) ?_
        refine jn_iald hx hb hK hP 6 0 rfl rfl i (by omega) (by omega) (by decide) (v := B i) (hF.2.2 i (by omega)) dX3_byteAt_42 ?_
        exact hend _ _ _ dX3_byteAt_43 (congrArg ji_n (by rw [hba, sp_lb_1 (by omega)]))
    · skip
      refine jn_iinc (lv' := [(2, .int (ji_n ((i : Int) + 1))), (0, .ref (v 0)), (1, .int (ji_n x))]) (k := 0) (v := (i : Int) + 1) hx hb dX3_byteAt_13 hl rfl rfl (by decide) rfl (fun ls hl => ?_)
      refine lv_goto hx hb dX3_byteAt_16 (tgt := 2) rfl ?_
      have hl : lv_has ls 5 [(2, .int (ji_n ((i + 1 : Nat) : Int))), (0, .ref (v 0)), (1, .int (ji_n x))] := by
        have hl2 := lv_sub hl (l' := [(2, .int (ji_n ((i : Int) + 1))), (0, .ref (v 0)), (1, .int (ji_n x))]) [0, 1, 2] rfl
        rw [show (ji_n ((i : Int) + 1)) = (ji_n ((i + 1 : Nat) : Int)) from (congrArg ji_n (by omega))] at hl2
        exact hl2
      exact ih2 (by omega) ls hl (by omega)
  have hl : lv_has ls 5 [(2, .int (ji_n ((0 : Nat) : Int))), (0, .ref (v 0)), (1, .int (ji_n x))] := lv_sub hl [0, 1, 2] rfl
  exact loop1 0 (by omega) ls hl (by have : sp_pz z 0 = 0 := rfl; omega)

set_option maxHeartbeats 4000000 in
set_option maxRecDepth 100000 in
theorem cm_length (l : Launch) (dC : Nat → ClassId) (dI : Nat → Nat → Nat) (cI : ClassId) (v : Nat → Nat) (th by_ : Int) (nP n : Nat) (f0 f1 f2 g0 g1 g2 sz : Nat → Int32) (K A B z : Nat → Int) (hF : as_F n K A B g0 g1 g2) (hAS : sp_AS n K A B z) (hsz : ∀ j, j < n → sz j = ji_n (z j)) (hby : by_ = sp_pz z n) (x : Int) (r1 : ji_r x) : Met l yX3_length wsX3_length { frames := 5, cells := 0, slots := 0, locals := 116 } (va_Pc [.ref (v 0), .int (ji_n x)] (fun U => va_P (dC, dI) vwCl (wo_M v cI th (nP : Int) (n : Int) by_ f0 f1 f2 g0 g1 g2 sz) U.heap ∧ kn_K dC dI cI U)) (vp_Si (fun r => r = ji_n (sp_os n K A B z x))) 0 0 (fun _ => False) := by
  refine st_rd (cc := cX3_length) (maxL := 4) (ret := some .int) (ty := .int) (by decide) rfl rfl (Nat.le_of_ble_eq_true rfl) (lv := [(0, .ref (v 0)), (1, .int (ji_n x))]) rfl (fun v h => rfl) ?_
  intro p e s m args below meth c R Q ls hx hb hts hown hml hR hB hl hend
  obtain ⟨hP, hN⟩ := hB
  have hK := hN.1
  have hinX3 : ∀ w ∈ u_ws RX3 TX3 11, w ∈ wsX3_length := fun w h => List.mem_cons_of_mem _ (inX3 w h)
  have hfl65 := (hts _ (List.mem_cons_of_mem _ tm_368))
  have hn := hAS.1
  have hg := hAS.2.1
  have ho := hAS.2.2.1
  have hu := hAS.2.2.2
  have hpn := sp_AS_p hAS (Nat.le_refl n)
  have hnd := sp_nd_or (sp_ba n K A B z x)
  have hbx := sp_ba_b hAS x
  refine lv_iload_n hx hb dX3_length_0 rfl (lv_at hl 1 rfl) ?_
  refine jn_if_lt hx hb dX3_length_1 (tgt := 12) rfl r1 (fun hc1 => ?_) (fun hc1 => ?_)
  · skip
    refine jn_iconst hx hb dX3_length_12 ?_
    exact hend _ _ _ dX3_length_13 (congrArg ji_n (by unfold sp_os; (repeat' split) <;> omega))
  · skip
    refine lv_iload_n hx hb dX3_length_4 rfl (lv_at hl 1 rfl) ?_
    refine lv_aload_n hx hb dX3_length_5 rfl (lv_at hl 0 rfl) ?_
    refine va_get (ci := 3) (C := RX3) (T := TX3) (N := 11) hx hb hts hinX3 hown hK hP 0 rfl rfl 10 (by decide) hfl65 (fun _ h9 => h9) rfl dX3_length_6 ?_
    refine jn_icmp_lt hx hb dX3_length_9 (tgt := 14) rfl r1 (by unfold ji_r; omega) (fun hc2 => ?_) (fun hc2 => ?_)
    · skip
      refine lv_aload_n hx hb dX3_length_14 rfl (lv_at hl 0 rfl) ?_
      refine lv_iload_n hx hb dX3_length_15 rfl (lv_at hl 1 rfl) ?_
      refine cl_rd (va_runV (As := [.int (ji_n x)]) (rest := []) ⟨hx, hb, hml, hown, hts⟩ (cm_byteAt l dC dI cI v th by_ nP n f0 f1 f2 g0 g1 g2 sz K A B z hF hAS hsz x (by omega) (by omega)) (cwV 1 hts (ub_V tm_442 tm_444 tm_s16 tm_5 tm_445) rfl rfl rfl (by decide +kernel) (by rw [hR]; exact ⟨Nat.le_of_ble_eq_true rfl, Nat.le_of_ble_eq_true rfl⟩)) (pv_rd (q0 := 0) (ci := 3) hN hP rfl rfl) rfl rfl hl.1 rfl (lv_room (Nat.le_of_ble_eq_true rfl)) dX3_length_16 ⟨Nat.zero_le _, Nat.zero_le _⟩) ?_
      have hb16 := sp_ba_b hAS x
      refine lv_istore_n (lv' := [(2, .int (ji_n (sp_ba n K A B z x))), (0, .ref (v 0)), (1, .int (ji_n x))]) hx hb dX3_length_19 rfl hl (by decide) rfl (fun ls hl => ?_)
      refine lv_iload_n hx hb dX3_length_20 rfl (lv_at hl 0 rfl) ?_
      refine jn_bipush hx hb dX3_length_21 (by decide) ?_
      refine jn_icmp_lt hx hb dX3_length_23 (tgt := 36) rfl (by unfold ji_r; omega) (by unfold ji_r; omega) (fun hc3 => ?_) (fun hc3 => ?_)
      · skip
        refine lv_iload_n hx hb dX3_length_36 rfl (lv_at hl 0 rfl) ?_
        refine jn_bipush hx hb dX3_length_37 (by decide) ?_
        refine jn_icmp_ne hx hb dX3_length_39 (tgt := 46) rfl (by unfold ji_r; omega) (by unfold ji_r; omega) (fun hc4 => ?_) (fun hc4 => ?_)
        · skip
          refine jn_iconst hx hb dX3_length_46 ?_
          refine lv_istore_n (lv' := [(3, .int (ji_n 1)), (2, .int (ji_n (sp_ba n K A B z x))), (0, .ref (v 0)), (1, .int (ji_n x))]) hx hb dX3_length_47 rfl hl (by decide) rfl (fun ls hl => ?_)
          refine lv_iload_n hx hb dX3_length_48 rfl (lv_at hl 0 rfl) ?_
          refine lv_aload_n hx hb dX3_length_49 rfl (lv_at hl 2 rfl) ?_
          refine va_get (ci := 3) (C := RX3) (T := TX3) (N := 11) hx hb hts hinX3 hown hK hP 0 rfl rfl 10 (by decide) hfl65 (fun _ h9 => h9) rfl dX3_length_50 ?_
          refine lv_iload_n hx hb dX3_length_53 rfl (lv_at hl 3 rfl) ?_
          refine jn_isub hx hb dX3_length_54 (v := by_ - x) rfl ?_
          refine jn_icmp_le hx hb dX3_length_55 (tgt := 62) rfl (by unfold ji_r; omega) (by unfold ji_r; omega) (fun hc5 => ?_) (fun hc5 => ?_)
          · skip
            refine lv_iload_n hx hb dX3_length_62 rfl (lv_at hl 0 rfl) ?_
            exact hend _ _ _ dX3_length_63 (congrArg ji_n (by unfold sp_os; (repeat' split) <;> omega))
          · skip
            refine jn_iconst hx hb dX3_length_58 ?_
            refine lv_goto hx hb dX3_length_59 (tgt := 63) rfl ?_
            exact hend _ _ _ dX3_length_63 (congrArg ji_n (by unfold sp_os; (repeat' split) <;> omega))
        · skip
          refine jn_iconst hx hb dX3_length_42 ?_
          refine lv_goto hx hb dX3_length_43 (tgt := 47) rfl ?_
          refine lv_istore_n (lv' := [(3, .int (ji_n 3)), (2, .int (ji_n (sp_ba n K A B z x))), (0, .ref (v 0)), (1, .int (ji_n x))]) hx hb dX3_length_47 rfl hl (by decide) rfl (fun ls hl => ?_)
          refine lv_iload_n hx hb dX3_length_48 rfl (lv_at hl 0 rfl) ?_
          refine lv_aload_n hx hb dX3_length_49 rfl (lv_at hl 2 rfl) ?_
          refine va_get (ci := 3) (C := RX3) (T := TX3) (N := 11) hx hb hts hinX3 hown hK hP 0 rfl rfl 10 (by decide) hfl65 (fun _ h9 => h9) rfl dX3_length_50 ?_
          refine lv_iload_n hx hb dX3_length_53 rfl (lv_at hl 3 rfl) ?_
          refine jn_isub hx hb dX3_length_54 (v := by_ - x) rfl ?_
          refine jn_icmp_le hx hb dX3_length_55 (tgt := 62) rfl (by unfold ji_r; omega) (by unfold ji_r; omega) (fun hc6 => ?_) (fun hc6 => ?_)
          · skip
            refine lv_iload_n hx hb dX3_length_62 rfl (lv_at hl 0 rfl) ?_
            exact hend _ _ _ dX3_length_63 (congrArg ji_n (by unfold sp_os; (repeat' split) <;> omega))
          · skip
            refine jn_iconst hx hb dX3_length_58 ?_
            refine lv_goto hx hb dX3_length_59 (tgt := 63) rfl ?_
            exact hend _ _ _ dX3_length_63 (congrArg ji_n (by unfold sp_os; (repeat' split) <;> omega))
      · skip
        refine lv_iload_n hx hb dX3_length_26 rfl (lv_at hl 0 rfl) ?_
        refine jn_bipush hx hb dX3_length_27 (by decide) ?_
        refine jn_icmp_gt hx hb dX3_length_29 (tgt := 36) rfl (by unfold ji_r; omega) (by unfold ji_r; omega) (fun hc7 => ?_) (fun hc7 => ?_)
        · skip
          refine lv_iload_n hx hb dX3_length_36 rfl (lv_at hl 0 rfl) ?_
          refine jn_bipush hx hb dX3_length_37 (by decide) ?_
          refine jn_icmp_ne hx hb dX3_length_39 (tgt := 46) rfl (by unfold ji_r; omega) (by unfold ji_r; omega) (fun hc8 => ?_) (fun hc8 => ?_)
          · skip
            refine jn_iconst hx hb dX3_length_46 ?_
            refine lv_istore_n (lv' := [(3, .int (ji_n 1)), (2, .int (ji_n (sp_ba n K A B z x))), (0, .ref (v 0)), (1, .int (ji_n x))]) hx hb dX3_length_47 rfl hl (by decide) rfl (fun ls hl => ?_)
            refine lv_iload_n hx hb dX3_length_48 rfl (lv_at hl 0 rfl) ?_
            refine lv_aload_n hx hb dX3_length_49 rfl (lv_at hl 2 rfl) ?_
            refine va_get (ci := 3) (C := RX3) (T := TX3) (N := 11) hx hb hts hinX3 hown hK hP 0 rfl rfl 10 (by decide) hfl65 (fun _ h9 => h9) rfl dX3_length_50 ?_
            refine lv_iload_n hx hb dX3_length_53 rfl (lv_at hl 3 rfl) ?_
            refine jn_isub hx hb dX3_length_54 (v := by_ - x) rfl ?_
            refine jn_icmp_le hx hb dX3_length_55 (tgt := 62) rfl (by unfold ji_r; omega) (by unfold ji_r; omega) (fun hc9 => ?_) (fun hc9 => ?_)
            · skip
              refine lv_iload_n hx hb dX3_length_62 rfl (lv_at hl 0 rfl) ?_
              exact hend _ _ _ dX3_length_63 (congrArg ji_n (by unfold sp_os; (repeat' split) <;> omega))
            · skip
              refine jn_iconst hx hb dX3_length_58 ?_
              refine lv_goto hx hb dX3_length_59 (tgt := 63) rfl ?_
              exact hend _ _ _ dX3_length_63 (congrArg ji_n (by unfold sp_os; (repeat' split) <;> omega))
          · skip
            refine jn_iconst hx hb dX3_length_42 ?_
            refine lv_goto hx hb dX3_length_43 (tgt := 47) rfl ?_
            refine lv_istore_n (lv' := [(3, .int (ji_n 3)), (2, .int (ji_n (sp_ba n K A B z x))), (0, .ref (v 0)), (1, .int (ji_n x))]) hx hb dX3_length_47 rfl hl (by decide) rfl (fun ls hl => ?_)
            refine lv_iload_n hx hb dX3_length_48 rfl (lv_at hl 0 rfl) ?_
            refine lv_aload_n hx hb dX3_length_49 rfl (lv_at hl 2 rfl) ?_
            refine va_get (ci := 3) (C := RX3) (T := TX3) (N := 11) hx hb hts hinX3 hown hK hP 0 rfl rfl 10 (by decide) hfl65 (fun _ h9 => h9) rfl dX3_length_50 ?_
            refine lv_iload_n hx hb dX3_length_53 rfl (lv_at hl 3 rfl) ?_
            refine jn_isub hx hb dX3_length_54 (v := by_ - x) rfl ?_
            refine jn_icmp_le hx hb dX3_length_55 (tgt := 62) rfl (by unfold ji_r; omega) (by unfold ji_r; omega) (fun hc10 => ?_) (fun hc10 => ?_)
            · skip
              refine lv_iload_n hx hb dX3_length_62 rfl (lv_at hl 0 rfl) ?_
              exact hend _ _ _ dX3_length_63 (congrArg ji_n (by unfold sp_os; (repeat' split) <;> omega))
            · skip
              refine jn_iconst hx hb dX3_length_58 ?_
              refine lv_goto hx hb dX3_length_59 (tgt := 63) rfl ?_
              exact hend _ _ _ dX3_length_63 (congrArg ji_n (by unfold sp_os; (repeat' split) <;> omega))
        · skip
          refine jn_iconst hx hb dX3_length_32 ?_
          refine lv_goto hx hb dX3_length_33 (tgt := 47) rfl ?_
          refine lv_istore_n (lv' := [(3, .int (ji_n 2)), (2, .int (ji_n (sp_ba n K A B z x))), (0, .ref (v 0)), (1, .int (ji_n x))]) hx hb dX3_length_47 rfl hl (by decide) rfl (fun ls hl => ?_)
          refine lv_iload_n hx hb dX3_length_48 rfl (lv_at hl 0 rfl) ?_
          refine lv_aload_n hx hb dX3_length_49 rfl (lv_at hl 2 rfl) ?_
          refine va_get (ci := 3) (C := RX3) (T := TX3) (N := 11) hx hb hts hinX3 hown hK hP 0 rfl rfl 10 (by decide) hfl65 (fun _ h9 => h9) rfl dX3_length_50 ?_
          refine lv_iload_n hx hb dX3_length_53 rfl (lv_at hl 3 rfl) ?_
          refine jn_isub hx hb dX3_length_54 (v := by_ - x) rfl ?_
          refine jn_icmp_le hx hb dX3_length_55 (tgt := 62) rfl (by unfold ji_r; omega) (by unfold ji_r; omega) (fun hc11 => ?_) (fun hc11 => ?_)
          · skip
            refine lv_iload_n hx hb dX3_length_62 rfl (lv_at hl 0 rfl) ?_
            exact hend _ _ _ dX3_length_63 (congrArg ji_n (by unfold sp_os; (repeat' split) <;> omega))
          · skip
            refine jn_iconst hx hb dX3_length_58 ?_
            refine lv_goto hx hb dX3_length_59 (tgt := 63) rfl ?_
            exact hend _ _ _ dX3_length_63 (congrArg ji_n (by unfold sp_os; (repeat' split) <;> omega))
    · skip
      refine jn_iconst hx hb dX3_length_12 ?_
      exact hend _ _ _ dX3_length_13 (congrArg ji_n (by unfold sp_os; (repeat' split) <;> omega))

set_option maxHeartbeats 4000000 in
set_option maxRecDepth 100000 in
theorem cm_next (l : Launch) (dC : Nat → ClassId) (dI : Nat → Nat → Nat) (cI : ClassId) (v : Nat → Nat) (th by_ : Int) (nP n : Nat) (f0 f1 f2 g0 g1 g2 sz : Nat → Int32) (K A B z : Nat → Int) (hF : as_F n K A B g0 g1 g2) (hAS : sp_AS n K A B z) (hsz : ∀ j, j < n → sz j = ji_n (z j)) (hby : by_ = sp_pz z n) (x t : Int) (hos : sp_os n K A B z x ≠ 0) (ht : t = 0 ∨ t = 1) : Met l yX3_next wsX3_next { frames := 6, cells := 0, slots := 0, locals := 139 } (va_Pc [.ref (v 0), .int (ji_n x), .int (ji_n t)] (fun U => va_P (dC, dI) vwCl (wo_M v cI th (nP : Int) (n : Int) by_ f0 f1 f2 g0 g1 g2 sz) U.heap ∧ kn_K dC dI cI U)) (vp_Si (fun r => r = ji_n (sp_nx n K A B z x t))) 0 0 (fun _ => False) := by
  refine st_rd (cc := cX3_next) (maxL := 7) (ret := some .int) (ty := .int) (by decide) rfl rfl (Nat.le_of_ble_eq_true rfl) (lv := [(0, .ref (v 0)), (1, .int (ji_n x)), (2, .int (ji_n t))]) rfl (fun v h => rfl) ?_
  intro p e s m args below meth c R Q ls hx hb hts hown hml hR hB hl hend
  obtain ⟨hP, hN⟩ := hB
  have hK := hN.1
  have hn := hAS.1
  have hg := hAS.2.1
  have ho := hAS.2.2.1
  have hu := hAS.2.2.2
  have hpn := sp_AS_p hAS (Nat.le_refl n)
  have hob := sp_os_b hAS x
  refine lv_aload_n hx hb dX3_next_0 rfl (lv_at hl 0 rfl) ?_
  refine lv_iload_n hx hb dX3_next_1 rfl (lv_at hl 1 rfl) ?_
  refine cl_rd (va_runV (As := [.int (ji_n x)]) (rest := []) ⟨hx, hb, hml, hown, hts⟩ (cm_length l dC dI cI v th by_ nP n f0 f1 f2 g0 g1 g2 sz K A B z hF hAS hsz hby x (by unfold ji_r; omega)) (cwV 1 hts (ub_V tm_470 tm_472 tm_s18 tm_5 tm_473) rfl rfl rfl (by decide +kernel) (by rw [hR]; exact ⟨Nat.le_of_ble_eq_true rfl, Nat.le_of_ble_eq_true rfl⟩)) (pv_rd (q0 := 0) (ci := 3) hN hP rfl rfl) rfl rfl hl.1 rfl (lv_room (Nat.le_of_ble_eq_true rfl)) dX3_next_2 ⟨Nat.zero_le _, Nat.zero_le _⟩) ?_
  refine lv_istore_n (lv' := [(3, .int (ji_n (sp_os n K A B z x))), (0, .ref (v 0)), (1, .int (ji_n x)), (2, .int (ji_n t))]) hx hb dX3_next_5 rfl hl (by decide) rfl (fun ls hl => ?_)
  refine lv_iload_n hx hb dX3_next_6 rfl (lv_at hl 2 rfl) ?_
  refine lv_iload_n hx hb dX3_next_7 rfl (lv_at hl 0 rfl) ?_
  refine jn_iadd hx hb dX3_next_8 (v := x + (sp_os n K A B z x)) rfl ?_
  refine lv_istore (lv' := [(4, .int (ji_n (x + (sp_os n K A B z x)))), (3, .int (ji_n (sp_os n K A B z x))), (0, .ref (v 0)), (1, .int (ji_n x)), (2, .int (ji_n t))]) hx hb dX3_next_9 hl (by decide) rfl (fun ls hl => ?_)
  refine lv_iload_n hx hb dX3_next_11 rfl (lv_at hl 1 rfl) ?_
  refine jn_iconst hx hb dX3_next_12 ?_
  refine jn_icmp_eq hx hb dX3_next_13 (tgt := 20) rfl (by unfold ji_r; omega) (by unfold ji_r; omega) (fun hc1 => ?_) (fun hc1 => ?_)
  · skip
    refine lv_iload hx hb dX3_next_20 (lv_at hl 0 rfl) ?_
    exact hend _ _ _ dX3_next_22 (congrArg ji_n (by have h8 := sp_nx_or n K A B z x t; have h9 := sp_tg_or n K A B z x (sp_os n K A B z x); omega))
  · skip
    refine lv_iload_n hx hb dX3_next_16 rfl (lv_at hl 4 rfl) ?_
    refine jn_if_ne hx hb dX3_next_17 (tgt := 23) rfl (by unfold ji_r; omega) (fun hc2 => ?_) (fun hc2 => ?_)
    · skip
      refine lv_aload_n hx hb dX3_next_23 rfl (lv_at hl 2 rfl) ?_
      refine lv_iload hx hb dX3_next_24 (lv_at hl 0 rfl) ?_
      refine jn_iconst hx hb dX3_next_26 ?_
      refine jn_isub hx hb dX3_next_27 (v := (x + (sp_os n K A B z x)) - 1) rfl ?_
      refine cl_rd (va_runV (As := [.int (ji_n ((x + (sp_os n K A B z x)) - 1))]) (rest := []) ⟨hx, hb, hml, hown, hts⟩ (cm_byteAt l dC dI cI v th by_ nP n f0 f1 f2 g0 g1 g2 sz K A B z hF hAS hsz (x + sp_os n K A B z x - 1) (by omega) (by omega)) (cwV 1 hts (ub_V tm_442 tm_444 tm_s16 tm_5 tm_445) rfl rfl rfl (by decide +kernel) (by rw [hR]; exact ⟨Nat.le_of_ble_eq_true rfl, Nat.le_of_ble_eq_true rfl⟩)) (pv_rd (q0 := 0) (ci := 3) hN hP rfl rfl) rfl rfl hl.1 rfl (lv_room (Nat.le_of_ble_eq_true rfl)) dX3_next_28 ⟨Nat.zero_le _, Nat.zero_le _⟩) ?_
      have hb28 := sp_ba_b hAS (x + sp_os n K A B z x - 1)
      refine lv_istore (lv' := [(5, .int (ji_n (sp_ba n K A B z (x + sp_os n K A B z x - 1)))), (4, .int (ji_n (x + (sp_os n K A B z x)))), (3, .int (ji_n (sp_os n K A B z x))), (0, .ref (v 0)), (1, .int (ji_n x)), (2, .int (ji_n t))]) hx hb dX3_next_31 hl (by decide) rfl (fun ls hl => ?_)
      refine lv_iload_n hx hb dX3_next_33 rfl (lv_at hl 2 rfl) ?_
      refine jn_iconst hx hb dX3_next_34 ?_
      refine jn_icmp_ne hx hb dX3_next_35 (tgt := 60) rfl (by unfold ji_r; omega) (by unfold ji_r; omega) (fun hc3 => ?_) (fun hc3 => ?_)
      · skip
        refine lv_aload_n hx hb dX3_next_60 rfl (lv_at hl 3 rfl) ?_
        refine lv_iload hx hb dX3_next_61 (lv_at hl 1 rfl) ?_
        refine jn_iconst hx hb dX3_next_63 ?_
        refine jn_isub hx hb dX3_next_64 (v := (x + (sp_os n K A B z x)) - 2) rfl ?_
        refine cl_rd (va_runV (As := [.int (ji_n ((x + (sp_os n K A B z x)) - 2))]) (rest := []) ⟨hx, hb, hml, hown, hts⟩ (cm_byteAt l dC dI cI v th by_ nP n f0 f1 f2 g0 g1 g2 sz K A B z hF hAS hsz (x + sp_os n K A B z x - 2) (by omega) (by omega)) (cwV 1 hts (ub_V tm_442 tm_444 tm_s16 tm_5 tm_445) rfl rfl rfl (by decide +kernel) (by rw [hR]; exact ⟨Nat.le_of_ble_eq_true rfl, Nat.le_of_ble_eq_true rfl⟩)) (pv_rd (q0 := 0) (ci := 3) hN hP rfl rfl) rfl rfl hl.1 rfl (lv_room (Nat.le_of_ble_eq_true rfl)) dX3_next_65 ⟨Nat.zero_le _, Nat.zero_le _⟩) ?_
        have hb65 := sp_ba_b hAS (x + sp_os n K A B z x - 2)
        refine lv_istore (lv' := [(6, .int (ji_n (sp_ba n K A B z (x + sp_os n K A B z x - 2)))), (5, .int (ji_n (sp_ba n K A B z (x + sp_os n K A B z x - 1)))), (4, .int (ji_n (x + (sp_os n K A B z x)))), (3, .int (ji_n (sp_os n K A B z x))), (0, .ref (v 0)), (1, .int (ji_n x)), (2, .int (ji_n t))]) hx hb dX3_next_68 hl (by decide) rfl (fun ls hl => ?_)
        refine lv_iload hx hb dX3_next_70 (lv_at hl 2 rfl) ?_
        refine jn_sipush hx hb dX3_next_72 (by decide) ?_
        refine lv_iload hx hb dX3_next_75 (lv_at hl 0 rfl) ?_
        refine jn_bipush hx hb dX3_next_77 (by decide) ?_
        refine jn_icmp_le hx hb dX3_next_79 (tgt := 91) rfl (by unfold ji_r; omega) (by unfold ji_r; omega) (fun hc4 => ?_) (fun hc4 => ?_)
        · skip
          refine lv_iload hx hb dX3_next_91 (lv_at hl 0 rfl) ?_
          refine jn_imul hx hb dX3_next_93 (v := 256 * (sp_ba n K A B z (x + sp_os n K A B z x - 2))) rfl ?_
          refine jn_iadd hx hb dX3_next_94 (v := (x + (sp_os n K A B z x)) + (256 * (sp_ba n K A B z (x + sp_os n K A B z x - 2)))) rfl ?_
          refine lv_iload hx hb dX3_next_95 (lv_at hl 1 rfl) ?_
          refine jn_iadd hx hb dX3_next_97 (v := ((x + (sp_os n K A B z x)) + (256 * (sp_ba n K A B z (x + sp_os n K A B z x - 2)))) + (sp_ba n K A B z (x + sp_os n K A B z x - 1))) rfl ?_
          exact hend _ _ _ dX3_next_98 (congrArg ji_n (by have h8 := sp_nx_or n K A B z x t; have h9 := sp_tg_or n K A B z x (sp_os n K A B z x); have h5 := sp_sb_or (sp_ba n K A B z (x + 1)); have e3 : sp_os n K A B z x = 3 := (by omega); rw [show x + sp_os n K A B z x - 1 = x + 2 from by omega] at *; rw [show x + sp_os n K A B z x - 2 = x + 1 from by omega] at *; omega))
        · skip
          refine lv_iload hx hb dX3_next_82 (lv_at hl 0 rfl) ?_
          refine jn_sipush hx hb dX3_next_84 (by decide) ?_
          refine jn_isub hx hb dX3_next_87 (v := (sp_ba n K A B z (x + sp_os n K A B z x - 2)) - 256) rfl ?_
          refine lv_goto hx hb dX3_next_88 (tgt := 93) rfl ?_
          refine jn_imul hx hb dX3_next_93 (v := 256 * ((sp_ba n K A B z (x + sp_os n K A B z x - 2)) - 256)) rfl ?_
          refine jn_iadd hx hb dX3_next_94 (v := (x + (sp_os n K A B z x)) + (256 * ((sp_ba n K A B z (x + sp_os n K A B z x - 2)) - 256))) rfl ?_
          refine lv_iload hx hb dX3_next_95 (lv_at hl 1 rfl) ?_
          refine jn_iadd hx hb dX3_next_97 (v := ((x + (sp_os n K A B z x)) + (256 * ((sp_ba n K A B z (x + sp_os n K A B z x - 2)) - 256))) + (sp_ba n K A B z (x + sp_os n K A B z x - 1))) rfl ?_
          exact hend _ _ _ dX3_next_98 (congrArg ji_n (by have h8 := sp_nx_or n K A B z x t; have h9 := sp_tg_or n K A B z x (sp_os n K A B z x); have h5 := sp_sb_or (sp_ba n K A B z (x + 1)); have e3 : sp_os n K A B z x = 3 := (by omega); rw [show x + sp_os n K A B z x - 1 = x + 2 from by omega] at *; rw [show x + sp_os n K A B z x - 2 = x + 1 from by omega] at *; omega))
      · skip
        refine lv_iload hx hb dX3_next_38 (lv_at hl 1 rfl) ?_
        refine lv_iload hx hb dX3_next_40 (lv_at hl 0 rfl) ?_
        refine jn_bipush hx hb dX3_next_42 (by decide) ?_
        refine jn_icmp_le hx hb dX3_next_44 (tgt := 56) rfl (by unfold ji_r; omega) (by unfold ji_r; omega) (fun hc5 => ?_) (fun hc5 => ?_)
        · skip
          refine lv_iload hx hb dX3_next_56 (lv_at hl 0 rfl) ?_
          refine jn_iadd hx hb dX3_next_58 (v := (x + (sp_os n K A B z x)) + (sp_ba n K A B z (x + sp_os n K A B z x - 1))) rfl ?_
          exact hend _ _ _ dX3_next_59 (congrArg ji_n (by have h8 := sp_nx_or n K A B z x t; have h9 := sp_tg_or n K A B z x (sp_os n K A B z x); have h5 := sp_sb_or (sp_ba n K A B z (x + 1)); rw [show x + sp_os n K A B z x - 1 = x + 1 from by omega] at *; omega))
        · skip
          refine lv_iload hx hb dX3_next_47 (lv_at hl 0 rfl) ?_
          refine jn_sipush hx hb dX3_next_49 (by decide) ?_
          refine jn_isub hx hb dX3_next_52 (v := (sp_ba n K A B z (x + sp_os n K A B z x - 1)) - 256) rfl ?_
          refine lv_goto hx hb dX3_next_53 (tgt := 58) rfl ?_
          refine jn_iadd hx hb dX3_next_58 (v := (x + (sp_os n K A B z x)) + ((sp_ba n K A B z (x + sp_os n K A B z x - 1)) - 256)) rfl ?_
          exact hend _ _ _ dX3_next_59 (congrArg ji_n (by have h8 := sp_nx_or n K A B z x t; have h9 := sp_tg_or n K A B z x (sp_os n K A B z x); have h5 := sp_sb_or (sp_ba n K A B z (x + 1)); rw [show x + sp_os n K A B z x - 1 = x + 1 from by omega] at *; omega))
    · skip
      refine lv_iload hx hb dX3_next_20 (lv_at hl 0 rfl) ?_
      exact hend _ _ _ dX3_next_22 (congrArg ji_n (by have h8 := sp_nx_or n K A B z x t; have h9 := sp_tg_or n K A B z x (sp_os n K A B z x); omega))
