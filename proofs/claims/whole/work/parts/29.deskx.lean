set_option maxHeartbeats 4000000 in
set_option maxRecDepth 100000 in
theorem cd_assemble (l : Launch) (hlt : l.stackTraces = false) (size_ : Nat) (dC : Nat → ClassId) (dI : Nat → Nat → Nat) (cI : ClassId) (u v w : Nat → Nat) (nP : Nat) (f0 f1 f2 : Nat → Int32) (n : Nat) (g0 g1 g2 st fm vl : Nat → Int32) (K A B : Nat → Int) (hn : nP ≤ 50) (hg : sp_gp K A B nP) (hF : as_F nP K A B f0 f1 f2) : vx_Met l yX2_assemble wsX2_assemble { frames := 6, cells := 1, slots := 6, locals := 82 } (va_Pc [.ref (u 0)] (wr_B (dC, dI) vwCl (wo_D u v w cI nP f0 f1 f2 n g0 g1 g2 st fm vl) size_ (fun U => kn_K dC dI cI U ∧ ex_K (va_A (wo_D u v w cI nP f0 f1 f2 n g0 g1 g2 st fm vl) size_) U U.heap))) (wr_Qi (fun r H => ¬ sp_tw nP K A ∧ ¬ sp_un nP K A ∧ ∃ (z : Nat → Int) (q0 q1 q2 q3 q4 q5 : Nat → Int32), r = ji_n (sp_pz z nP) ∧ sp_LC nP K A B z ∧ as_F nP K A B q0 q1 q2 ∧ as_S nP K A z q3 q4 q5 ∧ va_P (dC, dI) vwCl (wo_D u v w cI nP f0 f1 f2 nP q0 q1 q2 q3 q4 q5) H) (va_A (wo_D u v w cI nP f0 f1 f2 n g0 g1 g2 st fm vl) size_)) (xr_X (fun E H => ((E = "java/lang/IllegalArgumentException" ∧ sp_tw nP K A) ∨ (E = "java/lang/IllegalStateException" ∧ ¬ sp_tw nP K A ∧ sp_un nP K A)) ∧ va_P (dC, dI) vwCl (wo_D u v w cI nP f0 f1 f2 n g0 g1 g2 st fm vl) H) (va_A (wo_D u v w cI nP f0 f1 f2 n g0 g1 g2 st fm vl) size_)) 1 6 (va_A (wo_D u v w cI nP f0 f1 f2 n g0 g1 g2 st fm vl) size_) := by
  refine st_xi (B := fun A9 U => kn_K dC dI cI U ∧ ex_K A9 U U.heap) (cc := cX2_assemble) (maxL := 1) (ret := some .int) (ty := .int) (by decide) rfl rfl (Nat.le_of_ble_eq_true rfl) (lv := [(0, .ref (u 0))]) rfl (fun v H h => rfl) hlt rfl rfl (fun _ _ h => h.2) ?_
  intro p e s m args below meth c R Q ls A9 hx hb hts hown hml hR hP hD hA hS hNE hl hend hthr
  obtain ⟨hN, hE⟩ := hNE
  have hK := hN.1
  have hinX2 : ∀ w ∈ u_ws RX2 TX2 2, w ∈ wsX2_assemble := fun w h => List.mem_cons_of_mem _ (inX2 w h)
  have hfl10 := (hts _ (List.mem_cons_of_mem _ tm_74))
  have hfl19 := (hts _ (List.mem_cons_of_mem _ tm_75))
  refine lv_aload_n hx hb dX2_assemble_0 rfl (lv_at hl 0 rfl) ?_
  refine va_get (ci := 2) (C := RX2) (T := TX2) (N := 2) hx hb hts hinX2 hown hK hP 0 rfl rfl 0 (by decide) hfl10 (fun _ h9 => h9) rfl dX2_assemble_1 ?_
  refine cl_rp (va_runV (As := []) (rest := []) ⟨hx, hb, hml, hown, hts⟩ (ct_definesTwice l dC dI cI v nP f0 f1 f2 K A B hn hg hF.1 hF.2.1) (cwV 0 hts (ub_V tm_211 tm_212 tm_213 tm_2 tm_214) rfl rfl rfl (by decide +kernel) (by rw [hR]; exact ⟨Nat.le_of_ble_eq_true rfl, Nat.le_of_ble_eq_true rfl⟩)) (pv_rd (q0 := 0) (ci := 1) hN (hP.sub [1, 2, 3, 4] rfl) rfl rfl) rfl rfl hl.1 rfl (lv_room (Nat.le_of_ble_eq_true rfl)) dX2_assemble_4 ⟨Nat.zero_le _, Nat.zero_le _⟩) (fun r9 hr9 => ?_)
  rcases hr9 with ⟨rfl, htw⟩ | ⟨rfl, htw⟩
  · skip
    refine jn_if_eq hx hb dX2_assemble_7 (tgt := 20) rfl (by unfold ji_r; omega) (fun hc1 => ?_) (fun hc1 => ?_)
    · skip
      exfalso; omega
    · skip
      obtain ⟨sa, hsa⟩ := hE.2.2.2.2.2.2.2.2.1
      exact hthr 10 ls _ _ "java/lang/IllegalArgumentException" "a label is defined twice" 43 45 47 sa (by decide +kernel) (hts _ (List.mem_cons_of_mem _ tm_219)) (hts _ (List.mem_cons_of_mem _ tm_10)) hsa (ex_all (fun w h => hts w (List.mem_cons_of_mem _ h)) hE xw_1 xv_1 hE.2.2.1) xo_1 hl.1 dX2_assemble_10 dX2_assemble_13 dX2_assemble_14 dX2_assemble_16 dX2_assemble_19 (by rw [hR]; exact Nat.le_of_ble_eq_true rfl) (by rw [hR]; exact Nat.le_of_ble_eq_true rfl) hS (fun H1 h1 h2 => ⟨Or.inl ⟨rfl, htw⟩, hP.kept (fun k q hk => h2 q.1 ((hP k q hk).lt))⟩)
  · skip
    refine jn_if_eq hx hb dX2_assemble_7 (tgt := 20) rfl (by unfold ji_r; omega) (fun hc2 => ?_) (fun hc2 => ?_)
    · skip
      refine lv_aload_n hx hb dX2_assemble_20 rfl (lv_at hl 0 rfl) ?_
      refine va_get (ci := 2) (C := RX2) (T := TX2) (N := 2) hx hb hts hinX2 hown hK hP 0 rfl rfl 0 (by decide) hfl10 (fun _ h9 => h9) rfl dX2_assemble_21 ?_
      refine cl_rp (va_runV (As := []) (rest := []) ⟨hx, hb, hml, hown, hts⟩ (ct_namesUndefined l dC dI cI v nP f0 f1 f2 K A B hn hg hF.1 hF.2.1) (cwV 0 hts (ub_V tm_287 tm_288 tm_289 tm_2 tm_290) rfl rfl rfl (by decide +kernel) (by rw [hR]; exact ⟨Nat.le_of_ble_eq_true rfl, Nat.le_of_ble_eq_true rfl⟩)) (pv_rd (q0 := 0) (ci := 1) hN (hP.sub [1, 2, 3, 4] rfl) rfl rfl) rfl rfl hl.1 rfl (lv_room (Nat.le_of_ble_eq_true rfl)) dX2_assemble_24 ⟨Nat.zero_le _, Nat.zero_le _⟩) (fun r9 hr9 => ?_)
      rcases hr9 with ⟨rfl, hun⟩ | ⟨rfl, hun⟩
      · skip
        refine jn_if_eq hx hb dX2_assemble_27 (tgt := 40) rfl (by unfold ji_r; omega) (fun hc3 => ?_) (fun hc3 => ?_)
        · skip
          exfalso; omega
        · skip
          obtain ⟨sa, hsa⟩ := hE.2.2.2.2.2.2.2.2.2.1
          exact hthr 30 ls _ _ "java/lang/IllegalStateException" "a label that is named is not defined" 53 55 57 sa (by decide +kernel) (hts _ (List.mem_cons_of_mem _ tm_291)) (hts _ (List.mem_cons_of_mem _ tm_11)) hsa (ex_all (fun w h => hts w (List.mem_cons_of_mem _ h)) hE xw_2 xv_2 hE.2.2.2.1) xo_2 hl.1 dX2_assemble_30 dX2_assemble_33 dX2_assemble_34 dX2_assemble_36 dX2_assemble_39 (by rw [hR]; exact Nat.le_of_ble_eq_true rfl) (by rw [hR]; exact Nat.le_of_ble_eq_true rfl) hS (fun H1 h1 h2 => ⟨Or.inr ⟨rfl, htw, hun⟩, hP.kept (fun k q hk => h2 q.1 ((hP k q hk).lt))⟩)
      · skip
        refine jn_if_eq hx hb dX2_assemble_27 (tgt := 40) rfl (by unfold ji_r; omega) (fun hc4 => ?_) (fun hc4 => ?_)
        · skip
          have hu := sp_tw_uq hg htw
          have hd := sp_un_df hun
          refine lv_aload_n hx hb dX2_assemble_40 rfl (lv_at hl 0 rfl) ?_
          refine va_get (ci := 2) (C := RX2) (T := TX2) (N := 2) hx hb hts hinX2 hown hK hP 0 rfl rfl 1 (by decide) hfl19 (fun _ h9 => h9) rfl dX2_assemble_41 ?_
          refine lv_aload_n hx hb dX2_assemble_44 rfl (lv_at hl 0 rfl) ?_
          refine va_get (ci := 2) (C := RX2) (T := TX2) (N := 2) hx hb hts hinX2 hown hK hP 0 rfl rfl 0 (by decide) hfl10 (fun _ h9 => h9) rfl dX2_assemble_45 ?_
          refine cl_wv (wc := wo_A w cI n g0 g1 g2 st fm vl ++ wo_P v cI nP f0 f1 f2) (wr := [0].filterMap (fun i => (wo_D u v w cI nP f0 f1 f2 n g0 g1 g2 st fm vl)[i]?)) [5, 6, 7, 8, 9, 10, 11, 12, 1, 2, 3, 4] [0] rfl rfl (by decide) (by decide) (by decide) hP hD hS hA (va_runV (As := [.ref (v 0)]) (rest := []) ⟨hx, hb, hml, hown, hts⟩ (ct_make l s.heap.size dC dI cI w n g0 g1 g2 st fm vl v nP f0 f1 f2 K A B hn hg hu hd hF) (cwV 1 hts (ub_V tm_307 tm_308 tm_309 tm_3 tm_310) rfl rfl rfl (by decide +kernel) (by rw [hR]; exact ⟨Nat.le_of_ble_eq_true rfl, Nat.le_of_ble_eq_true rfl⟩)) (pv_wr (q0 := 0) (ci := 0) hN (hP.sub [5, 6, 7, 8, 9, 10, 11, 12, 1, 2, 3, 4] rfl) (hD.sub [5, 6, 7, 8, 9, 10, 11, 12, 1, 2, 3, 4] (by decide) rfl) rfl rfl) rfl rfl hl.1 rfl (lv_room (Nat.le_of_ble_eq_true rfl)) dX2_assemble_48 ⟨Nat.zero_le _, Nat.zero_le _⟩) (fun H locs hPs hj hS => ?_)
          obtain ⟨z, q0, q1, q2, q3, q4, q5, hPs, hLC, hF2, hS2⟩ := hPs
          obtain ⟨hP, hD⟩ := hj (wo_A w cI nP q0 q1 q2 q3 q4 q5 ++ wo_P v cI nP f0 f1 f2) rfl hPs
          have hP := hP.sub (ws' := wo_D u v w cI nP f0 f1 f2 nP q0 q1 q2 q3 q4 q5) [0, 9, 10, 11, 12, 1, 2, 3, 4, 5, 6, 7, 8] rfl
          have hD := hD.sub (ws' := wo_D u v w cI nP f0 f1 f2 nP q0 q1 q2 q3 q4 q5) [0, 9, 10, 11, 12, 1, 2, 3, 4, 5, 6, 7, 8] (by decide) rfl
          have hP : va_P (dC, dI) vwCl (wo_D u v w cI nP f0 f1 f2 nP q0 q1 q2 q3 q4 q5) H := hP
          have hD : va_D A9 (wo_D u v w cI nP f0 f1 f2 nP q0 q1 q2 q3 q4 q5) := hD
          have hAS : sp_AS nP K A B z := ⟨hn, hg, hLC.1, hu⟩
          refine lv_aload_n hx hb dX2_assemble_51 rfl (lv_at hl 0 rfl) ?_
          refine va_get (ci := 2) (C := RX2) (T := TX2) (N := 2) hx hb hts hinX2 hown hK hP 0 rfl rfl 1 (by decide) hfl19 (fun _ h9 => h9) rfl dX2_assemble_52 ?_
          refine cl_rd (va_runV (As := []) (rest := []) ⟨hx, hb, hml, hown, hts⟩ (ct_size l dC dI cI w nP q0 q1 q2 q3 q4 q5 K A B z hF2 hAS hS2) (cwV 0 hts (ub_V tm_327 tm_187 tm_188 tm_3 tm_189) rfl rfl rfl (by decide +kernel) (by rw [hR]; exact ⟨Nat.le_of_ble_eq_true rfl, Nat.le_of_ble_eq_true rfl⟩)) (pv_rd (q0 := 0) (ci := 0) hN (hP.sub [5, 6, 7, 8, 9, 10, 11, 12] rfl) rfl rfl) rfl rfl hl.1 rfl (lv_room (Nat.le_of_ble_eq_true rfl)) dX2_assemble_55 ⟨Nat.zero_le _, Nat.zero_le _⟩) ?_
          exact hend _ _ _ _ _ dX2_assemble_58 ⟨htw, hun, z, q0, q1, q2, q3, q4, q5, rfl, hLC, hF2, hS2, hP⟩ hS
        · skip
          exfalso; omega
    · skip
      exfalso; omega

set_option maxHeartbeats 4000000 in
set_option maxRecDepth 100000 in
theorem cd_follow (l : Launch) (hlt : l.stackTraces = false) (size_ : Nat) (dC : Nat → ClassId) (dI : Nat → Nat → Nat) (cI : ClassId) (u v w : Nat → Nat) (nP : Nat) (f0 f1 f2 : Nat → Int32) (n : Nat) (g0 g1 g2 st fm vl : Nat → Int32) (K A B z : Nat → Int) (hF : as_F n K A B g0 g1 g2) (hAS : sp_AS n K A B z) (hS0 : as_S n K A z st fm vl) (x t : Int) (r1 : ji_r x) (ht : t = 0 ∨ t = 1) : vx_Met l yX2_follow wsX2_follow { frames := 6, cells := 1, slots := 6, locals := 113 } (va_Pc [.ref (u 0), .int (ji_n x), .int (ji_n t)] (wr_B (dC, dI) vwCl (wo_D u v w cI nP f0 f1 f2 n g0 g1 g2 st fm vl) size_ (fun U => kn_K dC dI cI U ∧ ex_K (va_A (wo_D u v w cI nP f0 f1 f2 n g0 g1 g2 st fm vl) size_) U U.heap))) (wr_Qi (fun r H => sp_os n K A B z x ≠ 0 ∧ r = ji_n (sp_nx n K A B z x t) ∧ va_P (dC, dI) vwCl (wo_D u v w cI nP f0 f1 f2 n g0 g1 g2 st fm vl) H) (va_A (wo_D u v w cI nP f0 f1 f2 n g0 g1 g2 st fm vl) size_)) (xr_X (fun E H => E = "java/lang/IndexOutOfBoundsException" ∧ sp_os n K A B z x = 0 ∧ va_P (dC, dI) vwCl (wo_D u v w cI nP f0 f1 f2 n g0 g1 g2 st fm vl) H) (va_A (wo_D u v w cI nP f0 f1 f2 n g0 g1 g2 st fm vl) size_)) 1 6 (va_A (wo_D u v w cI nP f0 f1 f2 n g0 g1 g2 st fm vl) size_) := by
  refine st_xi (B := fun A9 U => kn_K dC dI cI U ∧ ex_K A9 U U.heap) (cc := cX2_follow) (maxL := 4) (ret := some .int) (ty := .int) (by decide) rfl rfl (Nat.le_of_ble_eq_true rfl) (lv := [(0, .ref (u 0)), (1, .int (ji_n x)), (2, .int (ji_n t))]) rfl (fun v H h => rfl) hlt rfl rfl (fun _ _ h => h.2) ?_
  intro p e s m args below meth c R Q ls A9 hx hb hts hown hml hR hP hD hA hS hNE hl hend hthr
  obtain ⟨hN, hE⟩ := hNE
  have hK := hN.1
  have hinX2 : ∀ w ∈ u_ws RX2 TX2 2, w ∈ wsX2_follow := fun w h => List.mem_cons_of_mem _ (inX2 w h)
  have hfl19 := (hts _ (List.mem_cons_of_mem _ tm_75))
  have hn := hAS.1
  refine lv_aload_n hx hb dX2_follow_0 rfl (lv_at hl 0 rfl) ?_
  refine va_get (ci := 2) (C := RX2) (T := TX2) (N := 2) hx hb hts hinX2 hown hK hP 0 rfl rfl 1 (by decide) hfl19 (fun _ h9 => h9) rfl dX2_follow_1 ?_
  refine lv_iload_n hx hb dX2_follow_4 rfl (lv_at hl 1 rfl) ?_
  refine cl_rd (va_runV (As := [.int (ji_n x)]) (rest := []) ⟨hx, hb, hml, hown, hts⟩ (ct_opSize l dC dI cI w n g0 g1 g2 st fm vl K A B z hF hAS hS0 x r1) (cwV 1 hts (ub_V tm_180 tm_181 tm_182 tm_3 tm_183) rfl rfl rfl (by decide +kernel) (by rw [hR]; exact ⟨Nat.le_of_ble_eq_true rfl, Nat.le_of_ble_eq_true rfl⟩)) (pv_rd (q0 := 0) (ci := 0) hN (hP.sub [5, 6, 7, 8, 9, 10, 11, 12] rfl) rfl rfl) rfl rfl hl.1 rfl (lv_room (Nat.le_of_ble_eq_true rfl)) dX2_follow_5 ⟨Nat.zero_le _, Nat.zero_le _⟩) ?_
  have hob := sp_os_b hAS x
  have hpn := sp_AS_p hAS (Nat.le_refl n)
  have hnx := sp_nx_or n K A B z x t
  refine lv_istore_n (lv' := [(3, .int (ji_n (sp_os n K A B z x))), (0, .ref (u 0)), (1, .int (ji_n x)), (2, .int (ji_n t))]) hx hb dX2_follow_8 rfl hl (by decide) rfl (fun ls hl => ?_)
  refine lv_iload_n hx hb dX2_follow_9 rfl (lv_at hl 0 rfl) ?_
  refine jn_if_ne hx hb dX2_follow_10 (tgt := 23) rfl (by unfold ji_r; omega) (fun hc1 => ?_) (fun hc1 => ?_)
  · skip
    refine lv_iload_n hx hb dX2_follow_23 rfl (lv_at hl 3 rfl) ?_
    refine jn_if_eq hx hb dX2_follow_24 (tgt := 39) rfl (by unfold ji_r; omega) (fun hc2 => ?_) (fun hc2 => ?_)
    · skip
      refine lv_iload_n hx hb dX2_follow_39 rfl (lv_at hl 2 rfl) ?_
      refine lv_iload_n hx hb dX2_follow_40 rfl (lv_at hl 0 rfl) ?_
      refine jn_iadd hx hb dX2_follow_41 (v := x + (sp_os n K A B z x)) rfl ?_
      exact hend _ _ _ _ _ dX2_follow_42 ⟨by omega, congrArg ji_n (by omega), hP⟩ hS
    · skip
      refine lv_aload_n hx hb dX2_follow_27 rfl (lv_at hl 1 rfl) ?_
      refine va_get (ci := 2) (C := RX2) (T := TX2) (N := 2) hx hb hts hinX2 hown hK hP 0 rfl rfl 1 (by decide) hfl19 (fun _ h9 => h9) rfl dX2_follow_28 ?_
      refine lv_iload_n hx hb dX2_follow_31 rfl (lv_at hl 2 rfl) ?_
      refine lv_iload_n hx hb dX2_follow_32 rfl (lv_at hl 0 rfl) ?_
      refine cl_rd (va_runV (As := [.int (ji_n x), .int (ji_n (sp_os n K A B z x))]) (rest := []) ⟨hx, hb, hml, hown, hts⟩ (ct_target l dC dI cI w n g0 g1 g2 st fm vl K A B z hF hAS hS0 x (sp_os n K A B z x) rfl (by omega)) (cwV 2 hts (ub_V tm_198 tm_199 tm_200 tm_3 tm_201) rfl rfl rfl (by decide +kernel) (by rw [hR]; exact ⟨Nat.le_of_ble_eq_true rfl, Nat.le_of_ble_eq_true rfl⟩)) (pv_rd (q0 := 0) (ci := 0) hN (hP.sub [5, 6, 7, 8, 9, 10, 11, 12] rfl) rfl rfl) rfl rfl hl.1 rfl (lv_room (Nat.le_of_ble_eq_true rfl)) dX2_follow_33 ⟨Nat.zero_le _, Nat.zero_le _⟩) ?_
      refine lv_goto hx hb dX2_follow_36 (tgt := 42) rfl ?_
      exact hend _ _ _ _ _ dX2_follow_42 ⟨by omega, congrArg ji_n (by omega), hP⟩ hS
  · skip
    obtain ⟨sa, hsa⟩ := hE.2.2.2.2.2.2.2.2.2.2.1
    exact hthr 13 ls _ _ "java/lang/IndexOutOfBoundsException" "no whole operation is there" 95 97 99 sa (by decide +kernel) (hts _ (List.mem_cons_of_mem _ tm_336)) (hts _ (List.mem_cons_of_mem _ tm_12)) hsa (ex_all (fun w h => hts w (List.mem_cons_of_mem _ h)) hE xw_3 xv_3 hE.2.2.2.2.1) xo_3 hl.1 dX2_follow_13 dX2_follow_16 dX2_follow_17 dX2_follow_19 dX2_follow_22 (by rw [hR]; exact Nat.le_of_ble_eq_true rfl) (by rw [hR]; exact Nat.le_of_ble_eq_true rfl) hS (fun H1 h1 h2 => ⟨rfl, (by omega), hP.kept (fun k q hk => h2 q.1 ((hP k q hk).lt))⟩)
