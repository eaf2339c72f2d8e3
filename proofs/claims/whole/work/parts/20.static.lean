set_option maxHeartbeats 4000000 in
set_option maxRecDepth 100000 in
theorem ct_isWithin (l : Launch) (x lo hi : Int) (r1 : ji_r x) (r2 : ji_r lo) (r3 : ji_r hi) : Met l yX2_isWithin wsX2_isWithin { frames := 0, cells := 0, slots := 0, locals := 0 } (va_Pc [.int (ji_n x), .int (ji_n lo), .int (ji_n hi)] (fun U => True)) (vp_Si (fun r => r = ji_n (sp_wi x lo hi))) 0 0 (fun _ => False) := by
  refine st_rd (cc := cX2_isWithin) (maxL := 3) (ret := some .boolean) (ty := .boolean) (by decide) rfl rfl (Nat.le_of_ble_eq_true rfl) (lv := [(0, .int (ji_n x)), (1, .int (ji_n lo)), (2, .int (ji_n hi))]) rfl (fun v h => by rw [h]; exact nb_b (sp_wi_b _ _ _)) ?_
  intro p e s m args below meth c R Q ls hx hb hts hown hml hR hB hl hend
  have hw := sp_wi_or x lo hi
  refine lv_iload_n hx hb dX2_isWithin_0 rfl (lv_at hl 1 rfl) ?_
  refine lv_iload_n hx hb dX2_isWithin_1 rfl (lv_at hl 0 rfl) ?_
  refine jn_icmp_gt hx hb dX2_isWithin_2 (tgt := 14) rfl r2 r1 (fun hc1 => ?_) (fun hc1 => ?_)
  · skip
    refine jn_iconst hx hb dX2_isWithin_14 ?_
    exact hend _ _ _ dX2_isWithin_15 (congrArg ji_n (by omega))
  · skip
    refine lv_iload_n hx hb dX2_isWithin_5 rfl (lv_at hl 0 rfl) ?_
    refine lv_iload_n hx hb dX2_isWithin_6 rfl (lv_at hl 2 rfl) ?_
    refine jn_icmp_gt hx hb dX2_isWithin_7 (tgt := 14) rfl r1 r3 (fun hc2 => ?_) (fun hc2 => ?_)
    · skip
      refine jn_iconst hx hb dX2_isWithin_14 ?_
      exact hend _ _ _ dX2_isWithin_15 (congrArg ji_n (by omega))
    · skip
      refine jn_iconst hx hb dX2_isWithin_10 ?_
      refine lv_goto hx hb dX2_isWithin_11 (tgt := 15) rfl ?_
      exact hend _ _ _ dX2_isWithin_15 (congrArg ji_n (by omega))

set_option maxHeartbeats 4000000 in
set_option maxRecDepth 100000 in
theorem ct_isLabel (l : Launch) (x : Int) (r1 : ji_r x) : Met l yX2_isLabel wsX2_isLabel { frames := 1, cells := 0, slots := 0, locals := 22 } (va_Pc [.int (ji_n x)] (fun U => True)) (vp_Si (fun r => r = ji_n (sp_wi x 0 15))) 0 0 (fun _ => False) := by
  refine st_rd (cc := cX2_isLabel) (maxL := 1) (ret := some .boolean) (ty := .boolean) (by decide) rfl rfl (Nat.le_of_ble_eq_true rfl) (lv := [(0, .int (ji_n x))]) rfl (fun v h => by rw [h]; exact nb_b (sp_wi_b _ _ _)) ?_
  intro p e s m args below meth c R Q ls hx hb hts hown hml hR hB hl hend
  refine lv_iload_n hx hb dX2_isLabel_0 rfl (lv_at hl 0 rfl) ?_
  refine jn_iconst hx hb dX2_isLabel_1 ?_
  refine jn_bipush hx hb dX2_isLabel_2 (by decide) ?_
  refine cl_rd (va_runS (As := [.int (ji_n x), .int (ji_n 0), .int (ji_n 15)]) (rest := []) ⟨hx, hb, hml, hown, hts⟩ (ct_isWithin l x 0 15 r1 (by unfold ji_r; omega) (by unfold ji_r; omega)) (va_cwS 3 hts (ub_S tm_91 tm_92 tm_1 tm_93) rfl rfl rfl (by decide +kernel) (by rw [hR]; exact ⟨Nat.le_of_ble_eq_true rfl, Nat.le_of_ble_eq_true rfl⟩)) ⟨fun _ _ _ _ q => q, fun U _ _ => ⟨rfl, trivial⟩⟩ rfl rfl hl.1 rfl (lv_room (Nat.le_of_ble_eq_true rfl)) dX2_isLabel_4 ⟨Nat.zero_le _, Nat.zero_le _⟩) ?_
  have hw4 := sp_wi_or x 0 15
  exact hend _ _ _ dX2_isLabel_7 rfl

set_option maxHeartbeats 4000000 in
set_option maxRecDepth 100000 in
theorem ct_isLine (l : Launch) (k a b : Int) (r1 : ji_r k) (r2 : ji_r a) (r3 : ji_r b) : Met l yX2_isLine wsX2_isLine { frames := 2, cells := 0, slots := 0, locals := 42 } (va_Pc [.int (ji_n k), .int (ji_n a), .int (ji_n b)] (fun U => True)) (vp_Si (fun r => r = ji_n (sp_gl k a b))) 0 0 (fun _ => False) := by
  refine st_rd (cc := cX2_isLine) (maxL := 3) (ret := some .boolean) (ty := .boolean) (by decide) rfl rfl (Nat.le_of_ble_eq_true rfl) (lv := [(0, .int (ji_n k)), (1, .int (ji_n a)), (2, .int (ji_n b))]) rfl (fun v h => by rw [h]; exact nb_b (by have := sp_gl_or k a b; omega)) ?_
  intro p e s m args below meth c R Q ls hx hb hts hown hml hR hB hl hend
  have hg := sp_gl_or k a b
  unfold sp_gd at hg
  refine lv_iload_n hx hb dX2_isLine_0 rfl (lv_at hl 0 rfl) ?_
  refine jn_if_ne hx hb dX2_isLine_1 (tgt := 21) rfl r1 (fun hc1 => ?_) (fun hc1 => ?_)
  · skip
    refine lv_iload_n hx hb dX2_isLine_21 rfl (lv_at hl 0 rfl) ?_
    refine jn_iconst hx hb dX2_isLine_22 ?_
    refine jn_icmp_ne hx hb dX2_isLine_23 (tgt := 54) rfl r1 (by unfold ji_r; omega) (fun hc2 => ?_) (fun hc2 => ?_)
    · skip
      refine lv_iload_n hx hb dX2_isLine_54 rfl (lv_at hl 0 rfl) ?_
      refine jn_iconst hx hb dX2_isLine_55 ?_
      refine jn_icmp_ne hx hb dX2_isLine_56 (tgt := 85) rfl r1 (by unfold ji_r; omega) (fun hc3 => ?_) (fun hc3 => ?_)
      · skip
        refine lv_iload_n hx hb dX2_isLine_85 rfl (lv_at hl 0 rfl) ?_
        refine jn_iconst hx hb dX2_isLine_86 ?_
        refine jn_icmp_ne hx hb dX2_isLine_87 (tgt := 111) rfl r1 (by unfold ji_r; omega) (fun hc4 => ?_) (fun hc4 => ?_)
        · skip
          refine jn_iconst hx hb dX2_isLine_111 ?_
          exact hend _ _ _ dX2_isLine_112 (congrArg ji_n (by omega))
        · skip
          refine lv_iload_n hx hb dX2_isLine_90 rfl (lv_at hl 1 rfl) ?_
          refine cl_rd (va_runS (As := [.int (ji_n a)]) (rest := []) ⟨hx, hb, hml, hown, hts⟩ (ct_isLabel l a r2) (va_cwS 1 hts (ub_S tm_88 tm_89 tm_1 tm_90) rfl rfl rfl (by decide +kernel) (by rw [hR]; exact ⟨Nat.le_of_ble_eq_true rfl, Nat.le_of_ble_eq_true rfl⟩)) ⟨fun _ _ _ _ q => q, fun U _ _ => ⟨rfl, trivial⟩⟩ rfl rfl hl.1 rfl (lv_room (Nat.le_of_ble_eq_true rfl)) dX2_isLine_91 ⟨Nat.zero_le _, Nat.zero_le _⟩) ?_
          have hw91 := sp_wi_or a 0 15
          refine jn_if_eq hx hb dX2_isLine_94 (tgt := 111) rfl (by unfold ji_r; omega) (fun hc5 => ?_) (fun hc5 => ?_)
          · skip
            refine jn_iconst hx hb dX2_isLine_111 ?_
            exact hend _ _ _ dX2_isLine_112 (congrArg ji_n (by omega))
          · skip
            refine lv_iload_n hx hb dX2_isLine_97 rfl (lv_at hl 2 rfl) ?_
            refine jn_iconst hx hb dX2_isLine_98 ?_
            refine jn_bipush hx hb dX2_isLine_99 (by decide) ?_
            refine cl_rd (va_runS (As := [.int (ji_n b), .int (ji_n 0), .int (ji_n 7)]) (rest := []) ⟨hx, hb, hml, hown, hts⟩ (ct_isWithin l b 0 7 r3 (by unfold ji_r; omega) (by unfold ji_r; omega)) (va_cwS 3 hts (ub_S tm_91 tm_92 tm_1 tm_93) rfl rfl rfl (by decide +kernel) (by rw [hR]; exact ⟨Nat.le_of_ble_eq_true rfl, Nat.le_of_ble_eq_true rfl⟩)) ⟨fun _ _ _ _ q => q, fun U _ _ => ⟨rfl, trivial⟩⟩ rfl rfl hl.1 rfl (lv_room (Nat.le_of_ble_eq_true rfl)) dX2_isLine_101 ⟨Nat.zero_le _, Nat.zero_le _⟩) ?_
            have hw101 := sp_wi_or b 0 7
            refine jn_if_eq hx hb dX2_isLine_104 (tgt := 111) rfl (by unfold ji_r; omega) (fun hc6 => ?_) (fun hc6 => ?_)
            · skip
              refine jn_iconst hx hb dX2_isLine_111 ?_
              exact hend _ _ _ dX2_isLine_112 (congrArg ji_n (by omega))
            · skip
              refine jn_iconst hx hb dX2_isLine_107 ?_
              refine lv_goto hx hb dX2_isLine_108 (tgt := 112) rfl ?_
              exact hend _ _ _ dX2_isLine_112 (congrArg ji_n (by omega))
      · skip
        refine lv_iload_n hx hb dX2_isLine_59 rfl (lv_at hl 1 rfl) ?_
        refine cl_rd (va_runS (As := [.int (ji_n a)]) (rest := []) ⟨hx, hb, hml, hown, hts⟩ (ct_isLabel l a r2) (va_cwS 1 hts (ub_S tm_88 tm_89 tm_1 tm_90) rfl rfl rfl (by decide +kernel) (by rw [hR]; exact ⟨Nat.le_of_ble_eq_true rfl, Nat.le_of_ble_eq_true rfl⟩)) ⟨fun _ _ _ _ q => q, fun U _ _ => ⟨rfl, trivial⟩⟩ rfl rfl hl.1 rfl (lv_room (Nat.le_of_ble_eq_true rfl)) dX2_isLine_60 ⟨Nat.zero_le _, Nat.zero_le _⟩) ?_
        have hw60 := sp_wi_or a 0 15
        refine jn_if_eq hx hb dX2_isLine_63 (tgt := 83) rfl (by unfold ji_r; omega) (fun hc7 => ?_) (fun hc7 => ?_)
        · skip
          refine jn_iconst hx hb dX2_isLine_83 ?_
          exact hend _ _ _ dX2_isLine_84 (congrArg ji_n (by omega))
        · skip
          refine lv_iload_n hx hb dX2_isLine_66 rfl (lv_at hl 2 rfl) ?_
          refine jn_sipush hx hb dX2_isLine_67 (by decide) ?_
          refine jn_sipush hx hb dX2_isLine_70 (by decide) ?_
          refine cl_rd (va_runS (As := [.int (ji_n b), .int (ji_n (-1000)), .int (ji_n 1000)]) (rest := []) ⟨hx, hb, hml, hown, hts⟩ (ct_isWithin l b (-1000) 1000 r3 (by unfold ji_r; omega) (by unfold ji_r; omega)) (va_cwS 3 hts (ub_S tm_91 tm_92 tm_1 tm_93) rfl rfl rfl (by decide +kernel) (by rw [hR]; exact ⟨Nat.le_of_ble_eq_true rfl, Nat.le_of_ble_eq_true rfl⟩)) ⟨fun _ _ _ _ q => q, fun U _ _ => ⟨rfl, trivial⟩⟩ rfl rfl hl.1 rfl (lv_room (Nat.le_of_ble_eq_true rfl)) dX2_isLine_73 ⟨Nat.zero_le _, Nat.zero_le _⟩) ?_
          have hw73 := sp_wi_or b (-1000) 1000
          refine jn_if_eq hx hb dX2_isLine_76 (tgt := 83) rfl (by unfold ji_r; omega) (fun hc8 => ?_) (fun hc8 => ?_)
          · skip
            refine jn_iconst hx hb dX2_isLine_83 ?_
            exact hend _ _ _ dX2_isLine_84 (congrArg ji_n (by omega))
          · skip
            refine jn_iconst hx hb dX2_isLine_79 ?_
            refine lv_goto hx hb dX2_isLine_80 (tgt := 84) rfl ?_
            exact hend _ _ _ dX2_isLine_84 (congrArg ji_n (by omega))
    · skip
      refine lv_iload_n hx hb dX2_isLine_26 rfl (lv_at hl 1 rfl) ?_
      refine jn_iconst hx hb dX2_isLine_27 ?_
      refine jn_sipush hx hb dX2_isLine_28 (by decide) ?_
      refine cl_rd (va_runS (As := [.int (ji_n a), .int (ji_n 1), .int (ji_n 200)]) (rest := []) ⟨hx, hb, hml, hown, hts⟩ (ct_isWithin l a 1 200 r2 (by unfold ji_r; omega) (by unfold ji_r; omega)) (va_cwS 3 hts (ub_S tm_91 tm_92 tm_1 tm_93) rfl rfl rfl (by decide +kernel) (by rw [hR]; exact ⟨Nat.le_of_ble_eq_true rfl, Nat.le_of_ble_eq_true rfl⟩)) ⟨fun _ _ _ _ q => q, fun U _ _ => ⟨rfl, trivial⟩⟩ rfl rfl hl.1 rfl (lv_room (Nat.le_of_ble_eq_true rfl)) dX2_isLine_31 ⟨Nat.zero_le _, Nat.zero_le _⟩) ?_
      have hw31 := sp_wi_or a 1 200
      refine jn_if_eq hx hb dX2_isLine_34 (tgt := 52) rfl (by unfold ji_r; omega) (fun hc9 => ?_) (fun hc9 => ?_)
      · skip
        refine jn_iconst hx hb dX2_isLine_52 ?_
        exact hend _ _ _ dX2_isLine_53 (congrArg ji_n (by omega))
      · skip
        refine lv_iload_n hx hb dX2_isLine_37 rfl (lv_at hl 2 rfl) ?_
        refine jn_iconst hx hb dX2_isLine_38 ?_
        refine jn_sipush hx hb dX2_isLine_39 (by decide) ?_
        refine cl_rd (va_runS (As := [.int (ji_n b), .int (ji_n 0), .int (ji_n 255)]) (rest := []) ⟨hx, hb, hml, hown, hts⟩ (ct_isWithin l b 0 255 r3 (by unfold ji_r; omega) (by unfold ji_r; omega)) (va_cwS 3 hts (ub_S tm_91 tm_92 tm_1 tm_93) rfl rfl rfl (by decide +kernel) (by rw [hR]; exact ⟨Nat.le_of_ble_eq_true rfl, Nat.le_of_ble_eq_true rfl⟩)) ⟨fun _ _ _ _ q => q, fun U _ _ => ⟨rfl, trivial⟩⟩ rfl rfl hl.1 rfl (lv_room (Nat.le_of_ble_eq_true rfl)) dX2_isLine_42 ⟨Nat.zero_le _, Nat.zero_le _⟩) ?_
        have hw42 := sp_wi_or b 0 255
        refine jn_if_eq hx hb dX2_isLine_45 (tgt := 52) rfl (by unfold ji_r; omega) (fun hc10 => ?_) (fun hc10 => ?_)
        · skip
          refine jn_iconst hx hb dX2_isLine_52 ?_
          exact hend _ _ _ dX2_isLine_53 (congrArg ji_n (by omega))
        · skip
          refine jn_iconst hx hb dX2_isLine_48 ?_
          refine lv_goto hx hb dX2_isLine_49 (tgt := 53) rfl ?_
          exact hend _ _ _ dX2_isLine_53 (congrArg ji_n (by omega))
  · skip
    refine lv_iload_n hx hb dX2_isLine_4 rfl (lv_at hl 1 rfl) ?_
    refine cl_rd (va_runS (As := [.int (ji_n a)]) (rest := []) ⟨hx, hb, hml, hown, hts⟩ (ct_isLabel l a r2) (va_cwS 1 hts (ub_S tm_88 tm_89 tm_1 tm_90) rfl rfl rfl (by decide +kernel) (by rw [hR]; exact ⟨Nat.le_of_ble_eq_true rfl, Nat.le_of_ble_eq_true rfl⟩)) ⟨fun _ _ _ _ q => q, fun U _ _ => ⟨rfl, trivial⟩⟩ rfl rfl hl.1 rfl (lv_room (Nat.le_of_ble_eq_true rfl)) dX2_isLine_5 ⟨Nat.zero_le _, Nat.zero_le _⟩) ?_
    have hw5 := sp_wi_or a 0 15
    refine jn_if_eq hx hb dX2_isLine_8 (tgt := 19) rfl (by unfold ji_r; omega) (fun hc11 => ?_) (fun hc11 => ?_)
    · skip
      refine jn_iconst hx hb dX2_isLine_19 ?_
      exact hend _ _ _ dX2_isLine_20 (congrArg ji_n (by omega))
    · skip
      refine lv_iload_n hx hb dX2_isLine_11 rfl (lv_at hl 2 rfl) ?_
      refine jn_if_ne hx hb dX2_isLine_12 (tgt := 19) rfl r3 (fun hc12 => ?_) (fun hc12 => ?_)
      · skip
        refine jn_iconst hx hb dX2_isLine_19 ?_
        exact hend _ _ _ dX2_isLine_20 (congrArg ji_n (by omega))
      · skip
        refine jn_iconst hx hb dX2_isLine_15 ?_
        refine lv_goto hx hb dX2_isLine_16 (tgt := 20) rfl ?_
        exact hend _ _ _ dX2_isLine_20 (congrArg ji_n (by omega))
