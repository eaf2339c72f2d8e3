set_option maxHeartbeats 4000000 in
set_option maxRecDepth 100000 in
theorem cm_assemble (l : Launch) (size_ : Nat) (dC : Nat → ClassId) (dI : Nat → Nat → Nat) (cI : ClassId) (v : Nat → Nat) (th by_ : Int) (nP n : Nat) (f0 f1 f2 g0 g1 g2 sz : Nat → Int32) (K A B : Nat → Int) (hn : nP ≤ 50) (hg : sp_gp K A B nP) (hF : as_F nP K A B f0 f1 f2) : Met l yX3_assemble wsX3_assemble { frames := 3, cells := 0, slots := 0, locals := 66 } (va_Pc [.ref (v 0)] (wr_B (dC, dI) vwCl (wo_M v cI th (nP : Int) (n : Int) by_ f0 f1 f2 g0 g1 g2 sz) size_ (kn_K dC dI cI))) (wr_Qi (fun r H => (sp_wr nP K A ≠ 0 ∧ r = ji_n 0 ∧ va_P (dC, dI) vwCl (wo_M v cI (sp_wr nP K A) (nP : Int) (n : Int) by_ f0 f1 f2 g0 g1 g2 sz) H) ∨ (sp_wr nP K A = 0 ∧ ∃ (z : Nat → Int) (q0 q1 q2 q3 : Nat → Int32), r = ji_n (sp_pz z nP) ∧ sp_LC nP K A B z ∧ as_F nP K A B q0 q1 q2 ∧ (∀ j, j < nP → q3 j = ji_n (z j)) ∧ va_P (dC, dI) vwCl (wo_M v cI 0 (nP : Int) (nP : Int) (sp_pz z nP) f0 f1 f2 q0 q1 q2 q3) H)) (va_A (wo_M v cI th (nP : Int) (n : Int) by_ f0 f1 f2 g0 g1 g2 sz) size_)) 0 0 (va_A (wo_M v cI th (nP : Int) (n : Int) by_ f0 f1 f2 g0 g1 g2 sz) size_) := by
  refine st_wi (cc := cX3_assemble) (maxL := 4) (ret := some .int) (ty := .int) (by decide) rfl rfl (Nat.le_of_ble_eq_true rfl) (lv := [(0, .ref (v 0))]) rfl (fun v H h => rfl) ?_
  intro p e s m args below meth c R Q ls A9 hx hb hts hown hml hR hP hD hA hS hN hl hend
  have hK := hN.1
  have hinX3 : ∀ w ∈ u_ws RX3 TX3 11, w ∈ wsX3_assemble := fun w h => List.mem_cons_of_mem _ (inX3 w h)
  have hfl39 := (hts _ (List.mem_cons_of_mem _ tm_359))
  have hfl49 := (hts _ (List.mem_cons_of_mem _ tm_363))
  have hfl7 := (hts _ (List.mem_cons_of_mem _ tm_360))
  have hfl13 := (hts _ (List.mem_cons_of_mem _ tm_361))
  have hfl16 := (hts _ (List.mem_cons_of_mem _ tm_362))
  have hfl19 := (hts _ (List.mem_cons_of_mem _ tm_364))
  have hfl22 := (hts _ (List.mem_cons_of_mem _ tm_365))
  have hfl25 := (hts _ (List.mem_cons_of_mem _ tm_366))
  have hfl28 := (hts _ (List.mem_cons_of_mem _ tm_367))
  have hfl31 := (hts _ (List.mem_cons_of_mem _ tm_358))
  have hfl65 := (hts _ (List.mem_cons_of_mem _ tm_368))
  refine lv_aload_n hx hb dX3_assemble_0 rfl (lv_at hl 0 rfl) ?_
  refine lv_aload_n hx hb dX3_assemble_1 rfl (lv_at hl 0 rfl) ?_
  refine cl_rd (va_runV (As := []) (rest := [.ref (v 0)]) ⟨hx, hb, hml, hown, hts⟩ (cm_wrong l dC dI cI v th by_ nP n f0 f1 f2 g0 g1 g2 sz K A B hn hg hF) (cwV 0 hts (ub_V tm_418 tm_420 tm_s11 tm_5 tm_421) rfl rfl rfl (by decide +kernel) (by rw [hR]; exact ⟨Nat.le_of_ble_eq_true rfl, Nat.le_of_ble_eq_true rfl⟩)) (pv_rd (q0 := 0) (ci := 3) hN hP rfl rfl) rfl rfl hl.1 rfl (lv_room (Nat.le_of_ble_eq_true rfl)) dX3_assemble_2 ⟨Nat.zero_le _, Nat.zero_le _⟩) ?_
  have hwb : 0 ≤ sp_wr nP K A ∧ sp_wr nP K A ≤ 2 := by rcases sp_wr_or hg with h | h | h <;> omega
  refine va_put (ci := 3) (C := RX3) (T := TX3) (N := 11) (ty := .int) hx hb hts hinX3 tyX3 tyX3_ok nmX3 hown hK hP hD hS 0 rfl rfl 0 (by decide) hfl31 (fun _ h9 => h9) rfl (by decide +kernel) rfl rfl (Nat.le_of_ble_eq_true rfl) dX3_assemble_5 (fun H locs hP hD hS => ?_)
  have hP : va_P (dC, dI) vwCl (wo_M v cI (sp_wr nP K A) (nP : Int) (n : Int) by_ f0 f1 f2 g0 g1 g2 sz) H := hP
  have hD : va_D A9 (wo_M v cI (sp_wr nP K A) (nP : Int) (n : Int) by_ f0 f1 f2 g0 g1 g2 sz) := hD
  refine lv_aload_n hx hb dX3_assemble_8 rfl (lv_at hl 0 rfl) ?_
  refine va_get (ci := 3) (C := RX3) (T := TX3) (N := 11) hx hb hts hinX3 hown hK hP 0 rfl rfl 0 (by decide) hfl31 (fun _ h9 => h9) rfl dX3_assemble_9 ?_
  refine jn_if_le hx hb dX3_assemble_12 (tgt := 17) rfl (by unfold ji_r; omega) (fun hc1 => ?_) (fun hc1 => ?_)
  · skip
    have hwr : ¬ sp_tw nP K A ∧ ¬ sp_un nP K A := by rcases sp_wr_or hg with h | h | h <;> first | omega | exact h.2
    have hu := sp_tw_uq hg hwr.1
    have hd := sp_un_df hwr.2
    refine lv_aload_n hx hb dX3_assemble_17 rfl (lv_at hl 0 rfl) ?_
    refine lv_aload_n hx hb dX3_assemble_18 rfl (lv_at hl 0 rfl) ?_
    refine va_get (ci := 3) (C := RX3) (T := TX3) (N := 11) hx hb hts hinX3 hown hK hP 0 rfl rfl 1 (by decide) hfl39 (fun _ h9 => h9) rfl dX3_assemble_19 ?_
    refine va_put (ci := 3) (C := RX3) (T := TX3) (N := 11) (ty := .int) hx hb hts hinX3 tyX3 tyX3_ok nmX3 hown hK hP hD hS 0 rfl rfl 5 (by decide) hfl49 (fun _ h9 => h9) rfl (by decide +kernel) rfl rfl (Nat.le_of_ble_eq_true rfl) dX3_assemble_22 (fun H locs hP hD hS => ?_)
    have hP : va_P (dC, dI) vwCl (wo_M v cI (sp_wr nP K A) (nP : Int) (nP : Int) by_ f0 f1 f2 g0 g1 g2 sz) H := hP
    have hD : va_D A9 (wo_M v cI (sp_wr nP K A) (nP : Int) (nP : Int) by_ f0 f1 f2 g0 g1 g2 sz) := hD
    refine jn_iconst hx hb dX3_assemble_25 ?_
    refine lv_istore_n (lv' := [(1, .int (ji_n 0)), (0, .ref (v 0))]) hx hb dX3_assemble_26 rfl hl (by decide) rfl (fun ls hl => ?_)
    have loop2 : ∀ i : Nat, i ≤ nP → ∀ (g0_ : Nat → Int32) (g1_ : Nat → Int32) (g2_ : Nat → Int32) (sz_ : Nat → Int32) (ls : Array Slot), lv_has ls 4 [(1, .int (ji_n (i : Int))), (0, .ref (v 0))] → ∀ (H : Heap) (locs : List Loc), va_P (dC, dI) vwCl (wo_M v cI (sp_wr nP K A) (nP : Int) (nP : Int) by_ f0 f1 f2 g0_ g1_ g2_ sz_) H → va_D A9 (wo_M v cI (sp_wr nP K A) (nP : Int) (nP : Int) by_ f0 f1 f2 g0_ g1_ g2_ sz_) → va_S A9 s.heap H locs → (∀ j, j < i → g0_ j = ji_n (K j)) → (∀ j, j < i → g1_ j = ji_n (A j)) → (∀ j, j < i → g2_ j = ji_n (B j)) → (∀ j, j < i → sz_ j = ji_n (sp_z0 K A j)) → W p l e R s m args below meth c H locs 0 0 Q (F0 m 27 ls []) := by
      refine lp_up nP ?_
      intro i hi_i ih3 g0_ g1_ g2_ sz_ ls hl H locs hP hD hS hq0 hq1 hq2 hq3
      refine lv_iload_n hx hb dX3_assemble_27 rfl (lv_at hl 0 rfl) ?_
      refine lv_aload_n hx hb dX3_assemble_28 rfl (lv_at hl 1 rfl) ?_
      refine va_get (ci := 3) (C := RX3) (T := TX3) (N := 11) hx hb hts hinX3 hown hK hP 0 rfl rfl 1 (by decide) hfl39 (fun _ h9 => h9) rfl dX3_assemble_29 ?_
      refine jn_icmp_ge hx hb dX3_assemble_32 (tgt := 116) rfl (by unfold ji_r; omega) (by unfold ji_r; omega) (fun hc4 => ?_) (fun hc4 => ?_)
      · skip
        have he : i = nP := by omega
        rw [he] at hq0 hq1 hq2 hq3
        have hFm : as_F nP K A B g0_ g1_ g2_ := ⟨hq0, hq1, hq2⟩
        refine jn_iconst hx hb dX3_assemble_116 ?_
        refine lv_istore_n (lv' := [(1, .int (ji_n 1)), (0, .ref (v 0))]) hx hb dX3_assemble_117 rfl hl (by decide) rfl (fun ls hl => ?_)
        refine jn_iconst hx hb dX3_assemble_118 ?_
        refine lv_istore_n (lv' := [(2, .int (ji_n 0)), (1, .int (ji_n 1)), (0, .ref (v 0))]) hx hb dX3_assemble_119 rfl hl (by decide) rfl (fun ls hl => ?_)
        have loop5 : ∀ r : Nat, r ≤ 51 → ∀ (sz_ : Nat → Int32) (mo_ : Int) (ls : Array Slot), lv_has ls 4 [(2, .int (ji_n (r : Int))), (1, .int (ji_n mo_)), (0, .ref (v 0))] → ∀ (H : Heap) (locs : List Loc), va_P (dC, dI) vwCl (wo_M v cI (sp_wr nP K A) (nP : Int) (nP : Int) by_ f0 f1 f2 g0_ g1_ g2_ sz_) H → va_D A9 (wo_M v cI (sp_wr nP K A) (nP : Int) (nP : Int) by_ f0 f1 f2 g0_ g1_ g2_ sz_) → va_S A9 s.heap H locs → (∃ z : Nat → Int, sp_AS nP K A B z ∧ sp_lw nP K A B z ∧ (∀ j, j < nP → sz_ j = ji_n (z j)) ∧ ((mo_ = 1 ∧ r ≤ sp_ct K z nP) ∨ (mo_ = 0 ∧ sp_cs nP K A z))) → W p l e R s m args below meth c H locs 0 0 Q (F0 m 120 ls []) := by
          refine lp_up 51 ?_
          intro r hi_r ih6 sz_ mo_ ls hl H locs hP hD hS hz
          obtain ⟨z, hAS, hlw, hsz, hmc⟩ := hz
          have hmo : mo_ = 0 ∨ mo_ = 1 := by rcases hmc with h | h <;> omega
          refine lv_iload_n hx hb dX3_assemble_120 rfl (lv_at hl 0 rfl) ?_
          refine jn_bipush hx hb dX3_assemble_121 (by decide) ?_
          refine jn_icmp_ge hx hb dX3_assemble_123 (tgt := 211) rfl (by unfold ji_r; omega) (by unfold ji_r; omega) (fun hc7 => ?_) (fun hc7 => ?_)
          · skip
            have hcs : sp_cs nP K A z := by
              rcases hmc with h | h
              · exact absurd (sp_ct_le K z nP) (by omega)
              · exact h.2
            have hLC : sp_LC nP K A B z := ⟨hAS.2.2.1, hcs, hlw⟩
            refine lv_aload_n hx hb dX3_assemble_211 rfl (lv_at hl 2 rfl) ?_
            refine lv_aload_n hx hb dX3_assemble_212 rfl (lv_at hl 2 rfl) ?_
            refine lv_aload_n hx hb dX3_assemble_213 rfl (lv_at hl 2 rfl) ?_
            refine va_get (ci := 3) (C := RX3) (T := TX3) (N := 11) hx hb hts hinX3 hown hK hP 0 rfl rfl 5 (by decide) hfl49 (fun _ h9 => h9) rfl dX3_assemble_214 ?_
            refine cl_rd (va_runV (As := [.int (ji_n (nP : Int))]) (rest := [.ref (v 0)]) ⟨hx, hb, hml, hown, hts⟩ (cm_place l dC dI cI v (sp_wr nP K A) by_ nP nP f0 f1 f2 g0_ g1_ g2_ sz_ K A B z hFm hAS hsz nP (Nat.le_refl nP)) (cwV 1 hts (ub_V tm_434 tm_436 tm_s15 tm_5 tm_437) rfl rfl rfl (by decide +kernel) (by rw [hR]; exact ⟨Nat.le_of_ble_eq_true rfl, Nat.le_of_ble_eq_true rfl⟩)) (pv_rd (q0 := 0) (ci := 3) hN hP rfl rfl) rfl rfl hl.1 rfl (lv_room (Nat.le_of_ble_eq_true rfl)) dX3_assemble_217 ⟨Nat.zero_le _, Nat.zero_le _⟩) ?_
            refine va_put (ci := 3) (C := RX3) (T := TX3) (N := 11) (ty := .int) hx hb hts hinX3 tyX3 tyX3_ok nmX3 hown hK hP hD hS 0 rfl rfl 10 (by decide) hfl65 (fun _ h9 => h9) rfl (by decide +kernel) rfl rfl (Nat.le_of_ble_eq_true rfl) dX3_assemble_220 (fun H locs hP hD hS => ?_)
            have hP : va_P (dC, dI) vwCl (wo_M v cI (sp_wr nP K A) (nP : Int) (nP : Int) (sp_pz z nP) f0 f1 f2 g0_ g1_ g2_ sz_) H := hP
            have hD : va_D A9 (wo_M v cI (sp_wr nP K A) (nP : Int) (nP : Int) (sp_pz z nP) f0 f1 f2 g0_ g1_ g2_ sz_) := hD
            refine lv_aload_n hx hb dX3_assemble_223 rfl (lv_at hl 2 rfl) ?_
            refine va_get (ci := 3) (C := RX3) (T := TX3) (N := 11) hx hb hts hinX3 hown hK hP 0 rfl rfl 10 (by decide) hfl65 (fun _ h9 => h9) rfl dX3_assemble_224 ?_
            exact hend _ _ _ _ _ dX3_assemble_227 (Or.inr ⟨by omega, z, _, _, _, _, rfl, hLC, hFm, hsz, by rw [show sp_wr nP K A = 0 from by omega] at hP; exact hP⟩) hS
          · skip
            refine lv_iload_n hx hb dX3_assemble_126 rfl (lv_at hl 1 rfl) ?_
            refine jn_if_eq hx hb dX3_assemble_127 (tgt := 211) rfl (by unfold ji_r; omega) (fun hc8 => ?_) (fun hc8 => ?_)
            · skip
              have hcs : sp_cs nP K A z := by
                rcases hmc with h | h
                · exact absurd (sp_ct_le K z nP) (by omega)
                · exact h.2
              have hLC : sp_LC nP K A B z := ⟨hAS.2.2.1, hcs, hlw⟩
              refine lv_aload_n hx hb dX3_assemble_211 rfl (lv_at hl 2 rfl) ?_
              refine lv_aload_n hx hb dX3_assemble_212 rfl (lv_at hl 2 rfl) ?_
              refine lv_aload_n hx hb dX3_assemble_213 rfl (lv_at hl 2 rfl) ?_
              refine va_get (ci := 3) (C := RX3) (T := TX3) (N := 11) hx hb hts hinX3 hown hK hP 0 rfl rfl 5 (by decide) hfl49 (fun _ h9 => h9) rfl dX3_assemble_214 ?_
              refine cl_rd (va_runV (As := [.int (ji_n (nP : Int))]) (rest := [.ref (v 0)]) ⟨hx, hb, hml, hown, hts⟩ (cm_place l dC dI cI v (sp_wr nP K A) by_ nP nP f0 f1 f2 g0_ g1_ g2_ sz_ K A B z hFm hAS hsz nP (Nat.le_refl nP)) (cwV 1 hts (ub_V tm_434 tm_436 tm_s15 tm_5 tm_437) rfl rfl rfl (by decide +kernel) (by rw [hR]; exact ⟨Nat.le_of_ble_eq_true rfl, Nat.le_of_ble_eq_true rfl⟩)) (pv_rd (q0 := 0) (ci := 3) hN hP rfl rfl) rfl rfl hl.1 rfl (lv_room (Nat.le_of_ble_eq_true rfl)) dX3_assemble_217 ⟨Nat.zero_le _, Nat.zero_le _⟩) ?_
              refine va_put (ci := 3) (C := RX3) (T := TX3) (N := 11) (ty := .int) hx hb hts hinX3 tyX3 tyX3_ok nmX3 hown hK hP hD hS 0 rfl rfl 10 (by decide) hfl65 (fun _ h9 => h9) rfl (by decide +kernel) rfl rfl (Nat.le_of_ble_eq_true rfl) dX3_assemble_220 (fun H locs hP hD hS => ?_)
              have hP : va_P (dC, dI) vwCl (wo_M v cI (sp_wr nP K A) (nP : Int) (nP : Int) (sp_pz z nP) f0 f1 f2 g0_ g1_ g2_ sz_) H := hP
              have hD : va_D A9 (wo_M v cI (sp_wr nP K A) (nP : Int) (nP : Int) (sp_pz z nP) f0 f1 f2 g0_ g1_ g2_ sz_) := hD
              refine lv_aload_n hx hb dX3_assemble_223 rfl (lv_at hl 2 rfl) ?_
              refine va_get (ci := 3) (C := RX3) (T := TX3) (N := 11) hx hb hts hinX3 hown hK hP 0 rfl rfl 10 (by decide) hfl65 (fun _ h9 => h9) rfl dX3_assemble_224 ?_
              exact hend _ _ _ _ _ dX3_assemble_227 (Or.inr ⟨by omega, z, _, _, _, _, rfl, hLC, hFm, hsz, by rw [show sp_wr nP K A = 0 from by omega] at hP; exact hP⟩) hS
            · skip
              refine jn_iconst hx hb dX3_assemble_130 ?_
              refine lv_istore_n (lv' := [(1, .int (ji_n 0)), (2, .int (ji_n (r : Int))), (0, .ref (v 0))]) hx hb dX3_assemble_131 rfl hl (by decide) rfl (fun ls hl => ?_)
              refine jn_iconst hx hb dX3_assemble_132 ?_
              refine lv_istore_n (lv' := [(3, .int (ji_n 0)), (1, .int (ji_n 0)), (2, .int (ji_n (r : Int))), (0, .ref (v 0))]) hx hb dX3_assemble_133 rfl hl (by decide) rfl (fun ls hl => ?_)
              have loop9 : ∀ i : Nat, i ≤ nP → ∀ (sz_ : Nat → Int32) (mo_ : Int) (ls : Array Slot), lv_has ls 4 [(3, .int (ji_n (i : Int))), (2, .int (ji_n (r : Int))), (1, .int (ji_n mo_)), (0, .ref (v 0))] → ∀ (H : Heap) (locs : List Loc), va_P (dC, dI) vwCl (wo_M v cI (sp_wr nP K A) (nP : Int) (nP : Int) by_ f0 f1 f2 g0_ g1_ g2_ sz_) H → va_D A9 (wo_M v cI (sp_wr nP K A) (nP : Int) (nP : Int) by_ f0 f1 f2 g0_ g1_ g2_ sz_) → va_S A9 s.heap H locs → (∃ z : Nat → Int, sp_rd nP K A B z r i mo_ ∧ ∀ j, j < nP → sz_ j = ji_n (z j)) → W p l e R s m args below meth c H locs 0 0 Q (F0 m 134 ls []) := by
                refine lp_up nP ?_
                intro i hi_i ih10 sz_ mo_ ls hl H locs hP hD hS hz
                obtain ⟨z, hrd, hsz⟩ := hz
                have hAS := hrd.1
                have ho := hAS.2.2.1
                have hmo : mo_ = 0 ∨ mo_ = 1 := by rcases hrd.2.2 with h | h <;> omega
                refine lv_iload_n hx hb dX3_assemble_134 rfl (lv_at hl 0 rfl) ?_
                refine lv_aload_n hx hb dX3_assemble_135 rfl (lv_at hl 3 rfl) ?_
                refine va_get (ci := 3) (C := RX3) (T := TX3) (N := 11) hx hb hts hinX3 hown hK hP 0 rfl rfl 5 (by decide) hfl49 (fun _ h9 => h9) rfl dX3_assemble_136 ?_
                refine jn_icmp_ge hx hb dX3_assemble_139 (tgt := 205) rfl (by unfold ji_r; omega) (by unfold ji_r; omega) (fun hc11 => ?_) (fun hc11 => ?_)
                · skip
                  have he : i = nP := by omega
                  rw [he] at hrd
                  obtain ⟨hAS, hlw, hmc⟩ := sp_rd_e hrd
                  refine jn_iinc (lv' := [(2, .int (ji_n ((r : Int) + 1))), (3, .int (ji_n (i : Int))), (1, .int (ji_n mo_)), (0, .ref (v 0))]) (k := 1) (v := (r : Int) + 1) hx hb dX3_assemble_205 hl rfl rfl (by decide) rfl (fun ls hl => ?_)
                  refine lv_goto hx hb dX3_assemble_208 (tgt := 120) rfl ?_
                  have hl : lv_has ls 4 [(2, .int (ji_n ((r + 1 : Nat) : Int))), (1, .int (ji_n mo_)), (0, .ref (v 0))] := by
                    have hl2 := lv_sub hl (l' := [(2, .int (ji_n ((r : Int) + 1))), (1, .int (ji_n mo_)), (0, .ref (v 0))]) [0, 2, 3] rfl
                    rw [show (ji_n ((r : Int) + 1)) = (ji_n ((r + 1 : Nat) : Int)) from (congrArg ji_n (by omega))] at hl2
                    exact hl2
                  exact ih6 (by omega) sz_ mo_ ls hl H locs hP hD hS ⟨z, hAS, hlw, hsz, by rcases hmc with h | h <;> first | (left; omega) | (right; exact h)⟩
                · skip
                  have hgj := hg i (by omega)
                  unfold sp_gd at hgj
                  have hoj := ho i (by omega)
                  have hfj := sp_fm_or (K i) (z i)
                  have hlj := sp_lg_or (B i)
                  refine lv_aload_n hx hb dX3_assemble_142 rfl (lv_at hl 3 rfl) ?_
                  refine va_get (ci := 3) (C := RX3) (T := TX3) (N := 11) hx hb hts hinX3 hown hK hP 0 rfl rfl 6 (by decide) hfl19 (fun _ h9 => h9) rfl dX3_assemble_143 ?_
                  refine lv_iload_n hx hb dX3_assemble_146 rfl (lv_at hl 0 rfl) ?_
                  refine jn_iald hx hb hK hP 4 0 rfl rfl i (by omega) (by omega) (by decide) (v := K i) (hFm.1 i (by omega)) dX3_assemble_147 ?_
                  refine jn_iconst hx hb dX3_assemble_148 ?_
                  refine jn_icmp_ne hx hb dX3_assemble_149 (tgt := 199) rfl (by unfold ji_r; omega) (by unfold ji_r; omega) (fun hc12 => ?_) (fun hc12 => ?_)
                  · skip
                    refine jn_iinc (lv' := [(3, .int (ji_n ((i : Int) + 1))), (2, .int (ji_n (r : Int))), (1, .int (ji_n mo_)), (0, .ref (v 0))]) (k := 0) (v := (i : Int) + 1) hx hb dX3_assemble_199 hl rfl rfl (by decide) rfl (fun ls hl => ?_)
                    refine lv_goto hx hb dX3_assemble_202 (tgt := 134) rfl ?_
                    have hl : lv_has ls 4 [(3, .int (ji_n ((i + 1 : Nat) : Int))), (2, .int (ji_n (r : Int))), (1, .int (ji_n mo_)), (0, .ref (v 0))] := by
                      have hl2 := lv_sub hl (l' := [(3, .int (ji_n ((i : Int) + 1))), (2, .int (ji_n (r : Int))), (1, .int (ji_n mo_)), (0, .ref (v 0))]) [0, 1, 2, 3] rfl
                      rw [show (ji_n ((i : Int) + 1)) = (ji_n ((i + 1 : Nat) : Int)) from (congrArg ji_n (by omega))] at hl2
                      exact hl2
                    exact ih10 (by omega) sz_ mo_ ls hl H locs hP hD hS ⟨z, sp_rd_k hrd (by omega), hsz⟩
                  · skip
                    refine lv_aload_n hx hb dX3_assemble_152 rfl (lv_at hl 3 rfl) ?_
                    refine va_get (ci := 3) (C := RX3) (T := TX3) (N := 11) hx hb hts hinX3 hown hK hP 0 rfl rfl 9 (by decide) hfl28 (fun _ h9 => h9) rfl dX3_assemble_153 ?_
                    refine lv_iload_n hx hb dX3_assemble_156 rfl (lv_at hl 0 rfl) ?_
                    refine jn_iald hx hb hK hP 7 0 rfl rfl i (by omega) (by omega) (by decide) (v := z i) (hsz i (by omega)) dX3_assemble_157 ?_
                    refine jn_iconst hx hb dX3_assemble_158 ?_
                    refine jn_icmp_ne hx hb dX3_assemble_159 (tgt := 199) rfl (by unfold ji_r; omega) (by unfold ji_r; omega) (fun hc13 => ?_) (fun hc13 => ?_)
                    · skip
                      refine jn_iinc (lv' := [(3, .int (ji_n ((i : Int) + 1))), (2, .int (ji_n (r : Int))), (1, .int (ji_n mo_)), (0, .ref (v 0))]) (k := 0) (v := (i : Int) + 1) hx hb dX3_assemble_199 hl rfl rfl (by decide) rfl (fun ls hl => ?_)
                      refine lv_goto hx hb dX3_assemble_202 (tgt := 134) rfl ?_
                      have hl : lv_has ls 4 [(3, .int (ji_n ((i + 1 : Nat) : Int))), (2, .int (ji_n (r : Int))), (1, .int (ji_n mo_)), (0, .ref (v 0))] := by
                        have hl2 := lv_sub hl (l' := [(3, .int (ji_n ((i : Int) + 1))), (2, .int (ji_n (r : Int))), (1, .int (ji_n mo_)), (0, .ref (v 0))]) [0, 1, 2, 3] rfl
                        rw [show (ji_n ((i : Int) + 1)) = (ji_n ((i + 1 : Nat) : Int)) from (congrArg ji_n (by omega))] at hl2
                        exact hl2
                      exact ih10 (by omega) sz_ mo_ ls hl H locs hP hD hS ⟨z, sp_rd_k hrd (by omega), hsz⟩
                    · skip
                      refine lv_aload_n hx hb dX3_assemble_162 rfl (lv_at hl 3 rfl) ?_
                      refine lv_iload_n hx hb dX3_assemble_163 rfl (lv_at hl 0 rfl) ?_
                      refine cl_rd (va_runV (As := [.int (ji_n (i : Int))]) (rest := []) ⟨hx, hb, hml, hown, hts⟩ (cm_span l dC dI cI v (sp_wr nP K A) by_ nP nP f0 f1 f2 g0_ g1_ g2_ sz_ K A B z hFm hAS hsz i (by omega)) (cwV 1 hts (ub_V tm_426 tm_428 tm_s13 tm_5 tm_429) rfl rfl rfl (by decide +kernel) (by rw [hR]; exact ⟨Nat.le_of_ble_eq_true rfl, Nat.le_of_ble_eq_true rfl⟩)) (pv_rd (q0 := 0) (ci := 3) hN hP rfl rfl) rfl rfl hl.1 rfl (lv_room (Nat.le_of_ble_eq_true rfl)) dX3_assemble_164 ⟨Nat.zero_le _, Nat.zero_le _⟩) ?_
                      have hds := sp_AS_ds hAS (j := i) (by omega)
                      refine jn_bipush hx hb dX3_assemble_167 (by decide) ?_
                      refine jn_bipush hx hb dX3_assemble_169 (by decide) ?_
                      refine cl_rd (va_runS (As := [.int (ji_n (sp_ds nP K A z i)), .int (ji_n (-128)), .int (ji_n 127)]) (rest := []) ⟨hx, hb, hml, hown, hts⟩ (cm_in_ l (sp_ds nP K A z i) (-128) 127 (by unfold ji_r; omega) (by unfold ji_r; omega) (by unfold ji_r; omega)) (va_cwS 3 hts (ub_S tm_403 tm_404 tm_5 tm_405) rfl rfl rfl (by decide +kernel) (by rw [hR]; exact ⟨Nat.le_of_ble_eq_true rfl, Nat.le_of_ble_eq_true rfl⟩)) ⟨fun _ _ _ _ q => q, fun U _ _ => ⟨rfl, trivial⟩⟩ rfl rfl hl.1 rfl (lv_room (Nat.le_of_ble_eq_true rfl)) dX3_assemble_171 ⟨Nat.zero_le _, Nat.zero_le _⟩) ?_
                      have hw171 := sp_wi_or (sp_ds nP K A z i) (-128) 127
                      refine jn_if_ne hx hb dX3_assemble_174 (tgt := 199) rfl (by unfold ji_r; omega) (fun hc14 => ?_) (fun hc14 => ?_)
                      · skip
                        refine jn_iinc (lv' := [(3, .int (ji_n ((i : Int) + 1))), (2, .int (ji_n (r : Int))), (1, .int (ji_n mo_)), (0, .ref (v 0))]) (k := 0) (v := (i : Int) + 1) hx hb dX3_assemble_199 hl rfl rfl (by decide) rfl (fun ls hl => ?_)
                        refine lv_goto hx hb dX3_assemble_202 (tgt := 134) rfl ?_
                        have hl : lv_has ls 4 [(3, .int (ji_n ((i + 1 : Nat) : Int))), (2, .int (ji_n (r : Int))), (1, .int (ji_n mo_)), (0, .ref (v 0))] := by
                          have hl2 := lv_sub hl (l' := [(3, .int (ji_n ((i : Int) + 1))), (2, .int (ji_n (r : Int))), (1, .int (ji_n mo_)), (0, .ref (v 0))]) [0, 1, 2, 3] rfl
                          rw [show (ji_n ((i : Int) + 1)) = (ji_n ((i + 1 : Nat) : Int)) from (congrArg ji_n (by omega))] at hl2
                          exact hl2
                        exact ih10 (by omega) sz_ mo_ ls hl H locs hP hD hS ⟨z, sp_rd_k hrd (by omega), hsz⟩
                      · skip
                        refine lv_aload_n hx hb dX3_assemble_177 rfl (lv_at hl 3 rfl) ?_
                        refine va_get (ci := 3) (C := RX3) (T := TX3) (N := 11) hx hb hts hinX3 hown hK hP 0 rfl rfl 9 (by decide) hfl28 (fun _ h9 => h9) rfl dX3_assemble_178 ?_
                        refine lv_iload_n hx hb dX3_assemble_181 rfl (lv_at hl 0 rfl) ?_
                        refine lv_aload_n hx hb dX3_assemble_182 rfl (lv_at hl 3 rfl) ?_
                        refine va_get (ci := 3) (C := RX3) (T := TX3) (N := 11) hx hb hts hinX3 hown hK hP 0 rfl rfl 8 (by decide) hfl25 (fun _ h9 => h9) rfl dX3_assemble_183 ?_
                        refine lv_iload_n hx hb dX3_assemble_186 rfl (lv_at hl 0 rfl) ?_
                        refine jn_iald hx hb hK hP 6 0 rfl rfl i (by omega) (by omega) (by decide) (v := B i) (hFm.2.2 i (by omega)) dX3_assemble_187 ?_
                        refine jn_if_ne hx hb dX3_assemble_188 (tgt := 195) rfl (by unfold ji_r; omega) (fun hc15 => ?_) (fun hc15 => ?_)
                        · skip
                          refine jn_iconst hx hb dX3_assemble_195 ?_
                          refine jn_iast hx hb hK hP hD hS 7 0 rfl rfl i (by omega) (by omega) (by decide) dX3_assemble_196 (fun H locs hP hD hS => ?_)
                          have hP : va_P (dC, dI) vwCl (wo_M v cI (sp_wr nP K A) (nP : Int) (nP : Int) by_ f0 f1 f2 g0_ g1_ g2_ (upd sz_ i (ji_n 5))) H := hP
                          have hD : va_D A9 (wo_M v cI (sp_wr nP K A) (nP : Int) (nP : Int) by_ f0 f1 f2 g0_ g1_ g2_ (upd sz_ i (ji_n 5))) := hD
                          refine jn_iconst hx hb dX3_assemble_197 ?_
                          refine lv_istore_n (lv' := [(1, .int (ji_n 1)), (3, .int (ji_n (i : Int))), (2, .int (ji_n (r : Int))), (0, .ref (v 0))]) hx hb dX3_assemble_198 rfl hl (by decide) rfl (fun ls hl => ?_)
                          refine jn_iinc (lv' := [(3, .int (ji_n ((i : Int) + 1))), (1, .int (ji_n 1)), (2, .int (ji_n (r : Int))), (0, .ref (v 0))]) (k := 1) (v := (i : Int) + 1) hx hb dX3_assemble_199 hl rfl rfl (by decide) rfl (fun ls hl => ?_)
                          refine lv_goto hx hb dX3_assemble_202 (tgt := 134) rfl ?_
                          have hl : lv_has ls 4 [(3, .int (ji_n ((i + 1 : Nat) : Int))), (2, .int (ji_n (r : Int))), (1, .int (ji_n 1)), (0, .ref (v 0))] := by
                            have hl2 := lv_sub hl (l' := [(3, .int (ji_n ((i : Int) + 1))), (2, .int (ji_n (r : Int))), (1, .int (ji_n 1)), (0, .ref (v 0))]) [0, 2, 1, 3] rfl
                            rw [show (ji_n ((i : Int) + 1)) = (ji_n ((i + 1 : Nat) : Int)) from (congrArg ji_n (by omega))] at hl2
                            exact hl2
                          exact ih10 (by omega) (upd sz_ i (ji_n 5)) 1 ls hl H locs hP hD hS ⟨sp_up z i (sp_lg (B i)), sp_rd_u hd hrd (by omega) ⟨by omega, by omega, by omega⟩, fun j h => by rcases sp_up_or z i (sp_lg (B i)) j with ⟨q, e9⟩ | ⟨q, e9⟩ <;> first | (rw [e9, q, pk_us]; exact congrArg ji_n (by omega)) | (rw [e9, pk_un q]; exact hsz j h)⟩
                        · skip
                          refine jn_iconst hx hb dX3_assemble_191 ?_
                          refine lv_goto hx hb dX3_assemble_192 (tgt := 196) rfl ?_
                          refine jn_iast hx hb hK hP hD hS 7 0 rfl rfl i (by omega) (by omega) (by decide) dX3_assemble_196 (fun H locs hP hD hS => ?_)
                          have hP : va_P (dC, dI) vwCl (wo_M v cI (sp_wr nP K A) (nP : Int) (nP : Int) by_ f0 f1 f2 g0_ g1_ g2_ (upd sz_ i (ji_n 3))) H := hP
                          have hD : va_D A9 (wo_M v cI (sp_wr nP K A) (nP : Int) (nP : Int) by_ f0 f1 f2 g0_ g1_ g2_ (upd sz_ i (ji_n 3))) := hD
                          refine jn_iconst hx hb dX3_assemble_197 ?_
                          refine lv_istore_n (lv' := [(1, .int (ji_n 1)), (3, .int (ji_n (i : Int))), (2, .int (ji_n (r : Int))), (0, .ref (v 0))]) hx hb dX3_assemble_198 rfl hl (by decide) rfl (fun ls hl => ?_)
                          refine jn_iinc (lv' := [(3, .int (ji_n ((i : Int) + 1))), (1, .int (ji_n 1)), (2, .int (ji_n (r : Int))), (0, .ref (v 0))]) (k := 1) (v := (i : Int) + 1) hx hb dX3_assemble_199 hl rfl rfl (by decide) rfl (fun ls hl => ?_)
                          refine lv_goto hx hb dX3_assemble_202 (tgt := 134) rfl ?_
                          have hl : lv_has ls 4 [(3, .int (ji_n ((i + 1 : Nat) : Int))), (2, .int (ji_n (r : Int))), (1, .int (ji_n 1)), (0, .ref (v 0))] := by
                            have hl2 := lv_sub hl (l' := [(3, .int (ji_n ((i : Int) + 1))), (2, .int (ji_n (r : Int))), (1, .int (ji_n 1)), (0, .ref (v 0))]) [0, 2, 1, 3] rfl
                            rw [show (ji_n ((i : Int) + 1)) = (ji_n ((i + 1 : Nat) : Int)) from (congrArg ji_n (by omega))] at hl2
                            exact hl2
                          exact ih10 (by omega) (upd sz_ i (ji_n 3)) 1 ls hl H locs hP hD hS ⟨sp_up z i (sp_lg (B i)), sp_rd_u hd hrd (by omega) ⟨by omega, by omega, by omega⟩, fun j h => by rcases sp_up_or z i (sp_lg (B i)) j with ⟨q, e9⟩ | ⟨q, e9⟩ <;> first | (rw [e9, q, pk_us]; exact congrArg ji_n (by omega)) | (rw [e9, pk_un q]; exact hsz j h)⟩
              have hl : lv_has ls 4 [(3, .int (ji_n ((0 : Nat) : Int))), (2, .int (ji_n (r : Int))), (1, .int (ji_n 0)), (0, .ref (v 0))] := lv_sub hl [0, 2, 1, 3] rfl
              exact loop9 0 (by omega) sz_ 0 ls hl H locs hP hD hS ⟨z, ⟨hAS, hlw, Or.inr ⟨rfl, by rcases hmc with h | h <;> omega, fun j h => absurd h (Nat.not_lt_zero j)⟩⟩, hsz⟩
        have hl : lv_has ls 4 [(2, .int (ji_n ((0 : Nat) : Int))), (1, .int (ji_n 1)), (0, .ref (v 0))] := lv_sub hl [0, 1, 2] rfl
        exact loop5 0 (by omega) sz_ 1 ls hl H locs hP hD hS ⟨sp_z0 K A, ⟨hn, hg, sp_z0_ok hg, hu⟩, sp_z0_lw hg, hq3, Or.inl ⟨rfl, Nat.zero_le _⟩⟩
      · skip
        have hgi := hg i (by omega)
        unfold sp_gd at hgi
        refine lv_aload_n hx hb dX3_assemble_35 rfl (lv_at hl 1 rfl) ?_
        refine va_get (ci := 3) (C := RX3) (T := TX3) (N := 11) hx hb hts hinX3 hown hK hP 0 rfl rfl 6 (by decide) hfl19 (fun _ h9 => h9) rfl dX3_assemble_36 ?_
        refine lv_iload_n hx hb dX3_assemble_39 rfl (lv_at hl 0 rfl) ?_
        refine lv_aload_n hx hb dX3_assemble_40 rfl (lv_at hl 1 rfl) ?_
        refine va_get (ci := 3) (C := RX3) (T := TX3) (N := 11) hx hb hts hinX3 hown hK hP 0 rfl rfl 2 (by decide) hfl7 (fun _ h9 => h9) rfl dX3_assemble_41 ?_
        refine lv_iload_n hx hb dX3_assemble_44 rfl (lv_at hl 0 rfl) ?_
        refine jn_iald hx hb hK hP 1 0 rfl rfl i (by omega) (by omega) (by decide) (v := K i) (hF.1 i (by omega)) dX3_assemble_45 ?_
        refine jn_iast hx hb hK hP hD hS 4 0 rfl rfl i (by omega) (by omega) (by decide) dX3_assemble_46 (fun H locs hP hD hS => ?_)
        have hP : va_P (dC, dI) vwCl (wo_M v cI (sp_wr nP K A) (nP : Int) (nP : Int) by_ f0 f1 f2 (upd g0_ i (ji_n (K i))) g1_ g2_ sz_) H := hP
        have hD : va_D A9 (wo_M v cI (sp_wr nP K A) (nP : Int) (nP : Int) by_ f0 f1 f2 (upd g0_ i (ji_n (K i))) g1_ g2_ sz_) := hD
        refine lv_aload_n hx hb dX3_assemble_47 rfl (lv_at hl 1 rfl) ?_
        refine va_get (ci := 3) (C := RX3) (T := TX3) (N := 11) hx hb hts hinX3 hown hK hP 0 rfl rfl 7 (by decide) hfl22 (fun _ h9 => h9) rfl dX3_assemble_48 ?_
        refine lv_iload_n hx hb dX3_assemble_51 rfl (lv_at hl 0 rfl) ?_
        refine lv_aload_n hx hb dX3_assemble_52 rfl (lv_at hl 1 rfl) ?_
        refine va_get (ci := 3) (C := RX3) (T := TX3) (N := 11) hx hb hts hinX3 hown hK hP 0 rfl rfl 3 (by decide) hfl13 (fun _ h9 => h9) rfl dX3_assemble_53 ?_
        refine lv_iload_n hx hb dX3_assemble_56 rfl (lv_at hl 0 rfl) ?_
        refine jn_iald hx hb hK hP 2 0 rfl rfl i (by omega) (by omega) (by decide) (v := A i) (hF.2.1 i (by omega)) dX3_assemble_57 ?_
        refine jn_iast hx hb hK hP hD hS 5 0 rfl rfl i (by omega) (by omega) (by decide) dX3_assemble_58 (fun H locs hP hD hS => ?_)
        have hP : va_P (dC, dI) vwCl (wo_M v cI (sp_wr nP K A) (nP : Int) (nP : Int) by_ f0 f1 f2 (upd g0_ i (ji_n (K i))) (upd g1_ i (ji_n (A i))) g2_ sz_) H := hP
        have hD : va_D A9 (wo_M v cI (sp_wr nP K A) (nP : Int) (nP : Int) by_ f0 f1 f2 (upd g0_ i (ji_n (K i))) (upd g1_ i (ji_n (A i))) g2_ sz_) := hD
        refine lv_aload_n hx hb dX3_assemble_59 rfl (lv_at hl 1 rfl) ?_
        refine va_get (ci := 3) (C := RX3) (T := TX3) (N := 11) hx hb hts hinX3 hown hK hP 0 rfl rfl 8 (by decide) hfl25 (fun _ h9 => h9) rfl dX3_assemble_60 ?_
        refine lv_iload_n hx hb dX3_assemble_63 rfl (lv_at hl 0 rfl) ?_
        refine lv_aload_n hx hb dX3_assemble_64 rfl (lv_at hl 1 rfl) ?_
        refine va_get (ci := 3) (C := RX3) (T := TX3) (N := 11) hx hb hts hinX3 hown hK hP 0 rfl rfl 4 (by decide) hfl16 (fun _ h9 => h9) rfl dX3_assemble_65 ?_
        refine lv_iload_n hx hb dX3_assemble_68 rfl (lv_at hl 0 rfl) ?_
        refine jn_iald hx hb hK hP 3 0 rfl rfl i (by omega) (by omega) (by decide) (v := B i) (hF.2.2 i (by omega)) dX3_assemble_69 ?_
        refine jn_iast hx hb hK hP hD hS 6 0 rfl rfl i (by omega) (by omega) (by decide) dX3_assemble_70 (fun H locs hP hD hS => ?_)
        have hP : va_P (dC, dI) vwCl (wo_M v cI (sp_wr nP K A) (nP : Int) (nP : Int) by_ f0 f1 f2 (upd g0_ i (ji_n (K i))) (upd g1_ i (ji_n (A i))) (upd g2_ i (ji_n (B i))) sz_) H := hP
        have hD : va_D A9 (wo_M v cI (sp_wr nP K A) (nP : Int) (nP : Int) by_ f0 f1 f2 (upd g0_ i (ji_n (K i))) (upd g1_ i (ji_n (A i))) (upd g2_ i (ji_n (B i))) sz_) := hD
        refine lv_aload_n hx hb dX3_assemble_71 rfl (lv_at hl 1 rfl) ?_
        refine va_get (ci := 3) (C := RX3) (T := TX3) (N := 11) hx hb hts hinX3 hown hK hP 0 rfl rfl 9 (by decide) hfl28 (fun _ h9 => h9) rfl dX3_assemble_72 ?_
        refine lv_iload_n hx hb dX3_assemble_75 rfl (lv_at hl 0 rfl) ?_
        refine lv_aload_n hx hb dX3_assemble_76 rfl (lv_at hl 1 rfl) ?_
        refine va_get (ci := 3) (C := RX3) (T := TX3) (N := 11) hx hb hts hinX3 hown hK hP 0 rfl rfl 2 (by decide) hfl7 (fun _ h9 => h9) rfl dX3_assemble_77 ?_
        refine lv_iload_n hx hb dX3_assemble_80 rfl (lv_at hl 0 rfl) ?_
        refine jn_iald hx hb hK hP 1 0 rfl rfl i (by omega) (by omega) (by decide) (v := K i) (hF.1 i (by omega)) dX3_assemble_81 ?_
        refine jn_if_ne hx hb dX3_assemble_82 (tgt := 89) rfl (by unfold ji_r; omega) (fun hc16 => ?_) (fun hc16 => ?_)
        · skip
          refine lv_aload_n hx hb dX3_assemble_89 rfl (lv_at hl 1 rfl) ?_
          refine va_get (ci := 3) (C := RX3) (T := TX3) (N := 11) hx hb hts hinX3 hown hK hP 0 rfl rfl 2 (by decide) hfl7 (fun _ h9 => h9) rfl dX3_assemble_90 ?_
          refine lv_iload_n hx hb dX3_assemble_93 rfl (lv_at hl 0 rfl) ?_
          refine jn_iald hx hb hK hP 1 0 rfl rfl i (by omega) (by omega) (by decide) (v := K i) (hF.1 i (by omega)) dX3_assemble_94 ?_
          refine jn_iconst hx hb dX3_assemble_95 ?_
          refine jn_icmp_ne hx hb dX3_assemble_96 (tgt := 108) rfl (by unfold ji_r; omega) (by unfold ji_r; omega) (fun hc17 => ?_) (fun hc17 => ?_)
          · skip
            refine jn_iconst hx hb dX3_assemble_108 ?_
            refine jn_iast hx hb hK hP hD hS 7 0 rfl rfl i (by omega) (by omega) (by decide) dX3_assemble_109 (fun H locs hP hD hS => ?_)
            have hP : va_P (dC, dI) vwCl (wo_M v cI (sp_wr nP K A) (nP : Int) (nP : Int) by_ f0 f1 f2 (upd g0_ i (ji_n (K i))) (upd g1_ i (ji_n (A i))) (upd g2_ i (ji_n (B i))) (upd sz_ i (ji_n 2))) H := hP
            have hD : va_D A9 (wo_M v cI (sp_wr nP K A) (nP : Int) (nP : Int) by_ f0 f1 f2 (upd g0_ i (ji_n (K i))) (upd g1_ i (ji_n (A i))) (upd g2_ i (ji_n (B i))) (upd sz_ i (ji_n 2))) := hD
            refine jn_iinc (lv' := [(1, .int (ji_n ((i : Int) + 1))), (0, .ref (v 0))]) (k := 0) (v := (i : Int) + 1) hx hb dX3_assemble_110 hl rfl rfl (by decide) rfl (fun ls hl => ?_)
            refine lv_goto hx hb dX3_assemble_113 (tgt := 27) rfl ?_
            have hl : lv_has ls 4 [(1, .int (ji_n ((i + 1 : Nat) : Int))), (0, .ref (v 0))] := by
              have hl2 := lv_sub hl (l' := [(1, .int (ji_n ((i : Int) + 1))), (0, .ref (v 0))]) [0, 1] rfl
              rw [show (ji_n ((i : Int) + 1)) = (ji_n ((i + 1 : Nat) : Int)) from (congrArg ji_n (by omega))] at hl2
              exact hl2
            exact ih3 (by omega) (upd g0_ i (ji_n (K i))) (upd g1_ i (ji_n (A i))) (upd g2_ i (ji_n (B i))) (upd sz_ i (ji_n 2)) ls hl H locs hP hD hS (fun j h => by rcases Nat.lt_succ_iff_lt_or_eq.mp h with h | h; rw [pk_un (by omega)]; exact hq0 j h; rw [h, pk_us]) (fun j h => by rcases Nat.lt_succ_iff_lt_or_eq.mp h with h | h; rw [pk_un (by omega)]; exact hq1 j h; rw [h, pk_us]) (fun j h => by rcases Nat.lt_succ_iff_lt_or_eq.mp h with h | h; rw [pk_un (by omega)]; exact hq2 j h; rw [h, pk_us]) (fun j h => by rcases Nat.lt_succ_iff_lt_or_eq.mp h with h | h; rw [pk_un (by omega)]; exact hq3 j h; rw [h, pk_us]; exact congrArg ji_n (by have h8 := sp_z0_or K A i; omega))
          · skip
            refine lv_aload_n hx hb dX3_assemble_99 rfl (lv_at hl 1 rfl) ?_
            refine va_get (ci := 3) (C := RX3) (T := TX3) (N := 11) hx hb hts hinX3 hown hK hP 0 rfl rfl 3 (by decide) hfl13 (fun _ h9 => h9) rfl dX3_assemble_100 ?_
            refine lv_iload_n hx hb dX3_assemble_103 rfl (lv_at hl 0 rfl) ?_
            refine jn_iald hx hb hK hP 2 0 rfl rfl i (by omega) (by omega) (by decide) (v := A i) (hF.2.1 i (by omega)) dX3_assemble_104 ?_
            refine lv_goto hx hb dX3_assemble_105 (tgt := 109) rfl ?_
            refine jn_iast hx hb hK hP hD hS 7 0 rfl rfl i (by omega) (by omega) (by decide) dX3_assemble_109 (fun H locs hP hD hS => ?_)
            have hP : va_P (dC, dI) vwCl (wo_M v cI (sp_wr nP K A) (nP : Int) (nP : Int) by_ f0 f1 f2 (upd g0_ i (ji_n (K i))) (upd g1_ i (ji_n (A i))) (upd g2_ i (ji_n (B i))) (upd sz_ i (ji_n (A i)))) H := hP
            have hD : va_D A9 (wo_M v cI (sp_wr nP K A) (nP : Int) (nP : Int) by_ f0 f1 f2 (upd g0_ i (ji_n (K i))) (upd g1_ i (ji_n (A i))) (upd g2_ i (ji_n (B i))) (upd sz_ i (ji_n (A i)))) := hD
            refine jn_iinc (lv' := [(1, .int (ji_n ((i : Int) + 1))), (0, .ref (v 0))]) (k := 0) (v := (i : Int) + 1) hx hb dX3_assemble_110 hl rfl rfl (by decide) rfl (fun ls hl => ?_)
            refine lv_goto hx hb dX3_assemble_113 (tgt := 27) rfl ?_
            have hl : lv_has ls 4 [(1, .int (ji_n ((i + 1 : Nat) : Int))), (0, .ref (v 0))] := by
              have hl2 := lv_sub hl (l' := [(1, .int (ji_n ((i : Int) + 1))), (0, .ref (v 0))]) [0, 1] rfl
              rw [show (ji_n ((i : Int) + 1)) = (ji_n ((i + 1 : Nat) : Int)) from (congrArg ji_n (by omega))] at hl2
              exact hl2
            exact ih3 (by omega) (upd g0_ i (ji_n (K i))) (upd g1_ i (ji_n (A i))) (upd g2_ i (ji_n (B i))) (upd sz_ i (ji_n (A i))) ls hl H locs hP hD hS (fun j h => by rcases Nat.lt_succ_iff_lt_or_eq.mp h with h | h; rw [pk_un (by omega)]; exact hq0 j h; rw [h, pk_us]) (fun j h => by rcases Nat.lt_succ_iff_lt_or_eq.mp h with h | h; rw [pk_un (by omega)]; exact hq1 j h; rw [h, pk_us]) (fun j h => by rcases Nat.lt_succ_iff_lt_or_eq.mp h with h | h; rw [pk_un (by omega)]; exact hq2 j h; rw [h, pk_us]) (fun j h => by rcases Nat.lt_succ_iff_lt_or_eq.mp h with h | h; rw [pk_un (by omega)]; exact hq3 j h; rw [h, pk_us]; exact congrArg ji_n (by have h8 := sp_z0_or K A i; omega))
        · skip
          refine jn_iconst hx hb dX3_assemble_85 ?_
          refine lv_goto hx hb dX3_assemble_86 (tgt := 109) rfl ?_
          refine jn_iast hx hb hK hP hD hS 7 0 rfl rfl i (by omega) (by omega) (by decide) dX3_assemble_109 (fun H locs hP hD hS => ?_)
          have hP : va_P (dC, dI) vwCl (wo_M v cI (sp_wr nP K A) (nP : Int) (nP : Int) by_ f0 f1 f2 (upd g0_ i (ji_n (K i))) (upd g1_ i (ji_n (A i))) (upd g2_ i (ji_n (B i))) (upd sz_ i (ji_n 0))) H := hP
          have hD : va_D A9 (wo_M v cI (sp_wr nP K A) (nP : Int) (nP : Int) by_ f0 f1 f2 (upd g0_ i (ji_n (K i))) (upd g1_ i (ji_n (A i))) (upd g2_ i (ji_n (B i))) (upd sz_ i (ji_n 0))) := hD
          refine jn_iinc (lv' := [(1, .int (ji_n ((i : Int) + 1))), (0, .ref (v 0))]) (k := 0) (v := (i : Int) + 1) hx hb dX3_assemble_110 hl rfl rfl (by decide) rfl (fun ls hl => ?_)
          refine lv_goto hx hb dX3_assemble_113 (tgt := 27) rfl ?_
          have hl : lv_has ls 4 [(1, .int (ji_n ((i + 1 : Nat) : Int))), (0, .ref (v 0))] := by
            have hl2 := lv_sub hl (l' := [(1, .int (ji_n ((i : Int) + 1))), (0, .ref (v 0))]) [0, 1] rfl
            rw [show (ji_n ((i : Int) + 1)) = (ji_n ((i + 1 : Nat) : Int)) from (congrArg ji_n (by omega))] at hl2
            exact hl2
          exact ih3 (by omega) (upd g0_ i (ji_n (K i))) (upd g1_ i (ji_n (A i))) (upd g2_ i (ji_n (B i))) (upd sz_ i (ji_n 0)) ls hl H locs hP hD hS (fun j h => by rcases Nat.lt_succ_iff_lt_or_eq.mp h with h | h; rw [pk_un (by omega)]; exact hq0 j h; rw [h, pk_us]) (fun j h => by rcases Nat.lt_succ_iff_lt_or_eq.mp h with h | h; rw [pk_un (by omega)]; exact hq1 j h; rw [h, pk_us]) (fun j h => by rcases Nat.lt_succ_iff_lt_or_eq.mp h with h | h; rw [pk_un (by omega)]; exact hq2 j h; rw [h, pk_us]) (fun j h => by rcases Nat.lt_succ_iff_lt_or_eq.mp h with h | h; rw [pk_un (by omega)]; exact hq3 j h; rw [h, pk_us]; exact congrArg ji_n (by have h8 := sp_z0_or K A i; omega))
    have hl : lv_has ls 4 [(1, .int (ji_n ((0 : Nat) : Int))), (0, .ref (v 0))] := lv_sub hl [0, 1] rfl
    exact loop2 0 (by omega) g0 g1 g2 sz ls hl H locs hP hD hS (fun j h => absurd h (Nat.not_lt_zero j)) (fun j h => absurd h (Nat.not_lt_zero j)) (fun j h => absurd h (Nat.not_lt_zero j)) (fun j h => absurd h (Nat.not_lt_zero j))
  · skip
    refine jn_iconst hx hb dX3_assemble_15 ?_
    exact hend _ _ _ _ _ dX3_assemble_16 (Or.inl ⟨by omega, rfl, hP⟩) hS
