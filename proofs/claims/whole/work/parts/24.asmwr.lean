set_option maxHeartbeats 4000000 in
set_option maxRecDepth 100000 in
theorem ct_fill (l : Launch) (size_ : Nat) (dC : Nat → ClassId) (dI : Nat → Nat → Nat) (cI : ClassId) (b N : Nat) (f : Nat → Int32) (x : Int) (hN9 : N < 2147483648) : Met l yJ7_fill wsJ7_fill { frames := 0, cells := 0, slots := 0, locals := 0 } (va_Pc [.ref b, .int (ji_n x)] (wr_B (dC, dI) vwCl ([(b, .inl (cI, N, .inl f))]) size_ (kn_K dC dI cI))) (wr_Qv (fun H => ∃ q : Nat → Int32, va_P (dC, dI) vwCl [(b, .inl (cI, N, .inl q))] H ∧ ∀ j, j < N → q j = ji_n x) (va_A ([(b, .inl (cI, N, .inl f))]) size_)) 0 0 (va_A ([(b, .inl (cI, N, .inl f))]) size_) := by
  refine st_wv (cc := cJ7_fill) (maxL := 4) (by decide) rfl (Nat.le_of_ble_eq_true rfl) (lv := [(0, .ref b), (1, .int (ji_n x))]) rfl ?_
  intro p e s m args below meth c R Q ls A9 hx hb hts hown hml hR hP hD hA hS hN hl hend
  have hK := hN.1
  refine jn_iconst hx hb dJ7_fill_0 ?_
  refine lv_istore_n (lv' := [(2, .int (ji_n 0)), (0, .ref b), (1, .int (ji_n x))]) hx hb dJ7_fill_1 rfl hl (by decide) rfl (fun ls hl => ?_)
  refine lv_aload_n hx hb dJ7_fill_2 rfl (lv_at hl 1 rfl) ?_
  refine va_alen hx hb hK hP 0 0 rfl rfl (v := ji_n (N : Int)) rfl dJ7_fill_3 ?_
  refine lv_istore_n (lv' := [(3, .int (ji_n (N : Int))), (2, .int (ji_n 0)), (0, .ref b), (1, .int (ji_n x))]) hx hb dJ7_fill_4 rfl hl (by decide) rfl (fun ls hl => ?_)
  have loop1 : ∀ i : Nat, i ≤ N → ∀ (ls : Array Slot), lv_has ls 4 [(2, .int (ji_n (i : Int))), (3, .int (ji_n (N : Int))), (0, .ref b), (1, .int (ji_n x))] → ∀ (H : Heap) (locs : List Loc) (f_ : Nat → Int32), va_P (dC, dI) vwCl ([(b, .inl (cI, N, .inl f_))]) H → va_D A9 ([(b, .inl (cI, N, .inl f_))]) → va_S A9 s.heap H locs → (∀ j, j < i → f_ j = ji_n x) → W p l e R s m args below meth c H locs 0 0 Q (F0 m 5 ls []) := by
    refine lp_up N ?_
    intro i hi_i ih2 ls hl H locs f_ hP hD hS hq
    refine lv_iload_n hx hb dJ7_fill_5 rfl (lv_at hl 0 rfl) ?_
    refine lv_iload_n hx hb dJ7_fill_6 rfl (lv_at hl 1 rfl) ?_
    refine jn_icmp_ge hx hb dJ7_fill_7 (tgt := 20) rfl (by unfold ji_r; omega) (by unfold ji_r; omega) (fun hc3 => ?_) (fun hc3 => ?_)
    · skip
      exact hend _ _ _ _ dJ7_fill_20 ⟨_, hP, fun j hj => hq j (by omega)⟩ hS
    · skip
      refine lv_aload_n hx hb dJ7_fill_10 rfl (lv_at hl 2 rfl) ?_
      refine lv_iload_n hx hb dJ7_fill_11 rfl (lv_at hl 0 rfl) ?_
      refine lv_iload_n hx hb dJ7_fill_12 rfl (lv_at hl 3 rfl) ?_
      refine jn_iast hx hb hK hP hD hS 0 0 rfl rfl i (by omega) (by omega) hN9 dJ7_fill_13 (fun H locs hP hD hS => ?_)
      have hP : va_P (dC, dI) vwCl ([(b, .inl (cI, N, .inl (upd f_ i (ji_n x))))]) H := hP
      have hD : va_D A9 ([(b, .inl (cI, N, .inl (upd f_ i (ji_n x))))]) := hD
      refine jn_iinc (lv' := [(2, .int (ji_n ((i : Int) + 1))), (3, .int (ji_n (N : Int))), (0, .ref b), (1, .int (ji_n x))]) (k := 0) (v := (i : Int) + 1) hx hb dJ7_fill_14 hl rfl rfl (by decide) rfl (fun ls hl => ?_)
      refine lv_goto hx hb dJ7_fill_17 (tgt := 5) rfl ?_
      have hl : lv_has ls 4 [(2, .int (ji_n ((i + 1 : Nat) : Int))), (3, .int (ji_n (N : Int))), (0, .ref b), (1, .int (ji_n x))] := by
        have hl2 := lv_sub hl (l' := [(2, .int (ji_n ((i : Int) + 1))), (3, .int (ji_n (N : Int))), (0, .ref b), (1, .int (ji_n x))]) [0, 1, 2, 3] rfl
        rw [show (ji_n ((i : Int) + 1)) = (ji_n ((i + 1 : Nat) : Int)) from (congrArg ji_n (by omega))] at hl2
        exact hl2
      exact ih2 (by omega) ls hl H locs (upd f_ i (ji_n x)) hP hD hS (fun j h => by rcases Nat.lt_succ_iff_lt_or_eq.mp h with h | h; rw [pk_un (by omega)]; exact hq j h; rw [h, pk_us])
  have hl : lv_has ls 4 [(2, .int (ji_n ((0 : Nat) : Int))), (3, .int (ji_n (N : Int))), (0, .ref b), (1, .int (ji_n x))] := lv_sub hl [1, 0, 2, 3] rfl
  exact loop1 0 (by omega) ls hl s.heap [] f hP hD hS (fun j h => absurd h (Nat.not_lt_zero j))

set_option maxHeartbeats 4000000 in
set_option maxRecDepth 100000 in
theorem ct_allShort (l : Launch) (size_ : Nat) (dC : Nat → ClassId) (dI : Nat → Nat → Nat) (cI : ClassId) (w : Nat → Nat) (n : Nat) (g0 g1 g2 st fm vl : Nat → Int32) (K A B : Nat → Int) (hn : n ≤ 50) (hg : sp_gp K A B n) (hF : as_F n K A B g0 g1 g2) : Met l yX0_makeAllShort wsX0_makeAllShort { frames := 0, cells := 0, slots := 0, locals := 0 } (va_Pc [.ref (w 0)] (wr_B (dC, dI) vwCl (wo_A w cI n g0 g1 g2 st fm vl) size_ (kn_K dC dI cI))) (wr_Qv (fun H => ∃ q : Nat → Int32, va_P (dC, dI) vwCl (wo_A w cI n g0 g1 g2 st q vl) H ∧ ∀ j, j < n → q j = ji_n (sp_fm (K j) (sp_z0 K A j))) (va_A (wo_A w cI n g0 g1 g2 st fm vl) size_)) 0 0 (va_A (wo_A w cI n g0 g1 g2 st fm vl) size_) := by
  refine st_wv (cc := cX0_makeAllShort) (maxL := 2) (by decide) rfl (Nat.le_of_ble_eq_true rfl) (lv := [(0, .ref (w 0))]) rfl ?_
  intro p e s m args below meth c R Q ls A9 hx hb hts hown hml hR hP hD hA hS hN hl hend
  have hK := hN.1
  have hinX0 : ∀ w ∈ u_ws RX0 TX0 4, w ∈ wsX0_makeAllShort := fun w h => List.mem_cons_of_mem _ (inX0 w h)
  have hfl12 := (hts _ (List.mem_cons_of_mem _ tm_57))
  have hfl22 := (hts _ (List.mem_cons_of_mem _ tm_61))
  have hinX1 : ∀ w ∈ u_ws RX1 TX1 4, w ∈ wsX0_makeAllShort := fun w h => List.mem_cons_of_mem _ (inX1 w h)
  refine jn_iconst hx hb dX0_makeAllShort_0 ?_
  refine lv_istore_n (lv' := [(1, .int (ji_n 0)), (0, .ref (w 0))]) hx hb dX0_makeAllShort_1 rfl hl (by decide) rfl (fun ls hl => ?_)
  have loop1 : ∀ i : Nat, i ≤ n → ∀ (ls : Array Slot), lv_has ls 2 [(1, .int (ji_n (i : Int))), (0, .ref (w 0))] → ∀ (H : Heap) (locs : List Loc) (fm_ : Nat → Int32), va_P (dC, dI) vwCl (wo_A w cI n g0 g1 g2 st fm_ vl) H → va_D A9 (wo_A w cI n g0 g1 g2 st fm_ vl) → va_S A9 s.heap H locs → (∀ j, j < i → fm_ j = ji_n (sp_fm (K j) (sp_z0 K A j))) → W p l e R s m args below meth c H locs 0 0 Q (F0 m 2 ls []) := by
    refine lp_up n ?_
    intro i hi_i ih2 ls hl H locs fm_ hP hD hS hq
    refine lv_iload_n hx hb dX0_makeAllShort_2 rfl (lv_at hl 0 rfl) ?_
    refine lv_aload_n hx hb dX0_makeAllShort_3 rfl (lv_at hl 1 rfl) ?_
    refine va_get (ci := 0) (C := RX0) (T := TX0) (N := 4) hx hb hts hinX0 hown hK hP 0 rfl rfl 0 (by decide) hfl12 (fun _ h9 => h9) rfl dX0_makeAllShort_4 ?_
    refine va_getN (ci := 1) (C := RX1) (T := TX1) (N := 4) hx hb hts hinX1 hown hK hP 4 rfl rfl 3 (by decide) (va_Nw.use rfl (nw_5 hN)) (fun _ h9 => h9) rfl dX0_makeAllShort_7 ?_
    refine jn_icmp_ge hx hb dX0_makeAllShort_10 (tgt := 43) rfl (by unfold ji_r; omega) (by unfold ji_r; omega) (fun hc3 => ?_) (fun hc3 => ?_)
    · skip
      exact hend _ _ _ _ dX0_makeAllShort_43 ⟨_, hP, fun j hj => hq j (by omega)⟩ hS
    · skip
      have hgi := hg i (by omega)
      unfold sp_gd at hgi
      refine lv_aload_n hx hb dX0_makeAllShort_13 rfl (lv_at hl 1 rfl) ?_
      refine va_get (ci := 0) (C := RX0) (T := TX0) (N := 4) hx hb hts hinX0 hown hK hP 0 rfl rfl 2 (by decide) hfl22 (fun _ h9 => h9) rfl dX0_makeAllShort_14 ?_
      refine lv_iload_n hx hb dX0_makeAllShort_17 rfl (lv_at hl 0 rfl) ?_
      refine lv_aload_n hx hb dX0_makeAllShort_18 rfl (lv_at hl 1 rfl) ?_
      refine va_get (ci := 0) (C := RX0) (T := TX0) (N := 4) hx hb hts hinX0 hown hK hP 0 rfl rfl 0 (by decide) hfl12 (fun _ h9 => h9) rfl dX0_makeAllShort_19 ?_
      refine va_getN (ci := 1) (C := RX1) (T := TX1) (N := 4) hx hb hts hinX1 hown hK hP 4 rfl rfl 0 (by decide) (va_Nw.use rfl (nw_6 hN)) (fun _ h9 => h9) rfl dX0_makeAllShort_22 ?_
      refine lv_iload_n hx hb dX0_makeAllShort_25 rfl (lv_at hl 0 rfl) ?_
      refine jn_iald hx hb hK hP 5 0 rfl rfl i (by omega) (by omega) (by decide) (v := K i) (hF.1 i (by omega)) dX0_makeAllShort_26 ?_
      refine jn_iconst hx hb dX0_makeAllShort_27 ?_
      refine jn_icmp_ne hx hb dX0_makeAllShort_28 (tgt := 35) rfl (by unfold ji_r; omega) (by unfold ji_r; omega) (fun hc4 => ?_) (fun hc4 => ?_)
      · skip
        refine jn_iconst hx hb dX0_makeAllShort_35 ?_
        refine jn_iast hx hb hK hP hD hS 2 0 rfl rfl i (by omega) (by omega) (by decide) dX0_makeAllShort_36 (fun H locs hP hD hS => ?_)
        have hP : va_P (dC, dI) vwCl (wo_A w cI n g0 g1 g2 st (upd fm_ i (ji_n 0)) vl) H := hP
        have hD : va_D A9 (wo_A w cI n g0 g1 g2 st (upd fm_ i (ji_n 0)) vl) := hD
        refine jn_iinc (lv' := [(1, .int (ji_n ((i : Int) + 1))), (0, .ref (w 0))]) (k := 0) (v := (i : Int) + 1) hx hb dX0_makeAllShort_37 hl rfl rfl (by decide) rfl (fun ls hl => ?_)
        refine lv_goto hx hb dX0_makeAllShort_40 (tgt := 2) rfl ?_
        have hl : lv_has ls 2 [(1, .int (ji_n ((i + 1 : Nat) : Int))), (0, .ref (w 0))] := by
          have hl2 := lv_sub hl (l' := [(1, .int (ji_n ((i : Int) + 1))), (0, .ref (w 0))]) [0, 1] rfl
          rw [show (ji_n ((i : Int) + 1)) = (ji_n ((i + 1 : Nat) : Int)) from (congrArg ji_n (by omega))] at hl2
          exact hl2
        exact ih2 (by omega) ls hl H locs (upd fm_ i (ji_n 0)) hP hD hS (fun j h => by rcases Nat.lt_succ_iff_lt_or_eq.mp h with h | h; rw [pk_un (by omega)]; exact hq j h; rw [h, pk_us]; exact congrArg ji_n (by have h8 := sp_z0_or K A i; have h9 := sp_fm_or (K i) (sp_z0 K A i); omega))
      · skip
        refine jn_iconst hx hb dX0_makeAllShort_31 ?_
        refine lv_goto hx hb dX0_makeAllShort_32 (tgt := 36) rfl ?_
        refine jn_iast hx hb hK hP hD hS 2 0 rfl rfl i (by omega) (by omega) (by decide) dX0_makeAllShort_36 (fun H locs hP hD hS => ?_)
        have hP : va_P (dC, dI) vwCl (wo_A w cI n g0 g1 g2 st (upd fm_ i (ji_n 1)) vl) H := hP
        have hD : va_D A9 (wo_A w cI n g0 g1 g2 st (upd fm_ i (ji_n 1)) vl) := hD
        refine jn_iinc (lv' := [(1, .int (ji_n ((i : Int) + 1))), (0, .ref (w 0))]) (k := 0) (v := (i : Int) + 1) hx hb dX0_makeAllShort_37 hl rfl rfl (by decide) rfl (fun ls hl => ?_)
        refine lv_goto hx hb dX0_makeAllShort_40 (tgt := 2) rfl ?_
        have hl : lv_has ls 2 [(1, .int (ji_n ((i + 1 : Nat) : Int))), (0, .ref (w 0))] := by
          have hl2 := lv_sub hl (l' := [(1, .int (ji_n ((i : Int) + 1))), (0, .ref (w 0))]) [0, 1] rfl
          rw [show (ji_n ((i : Int) + 1)) = (ji_n ((i + 1 : Nat) : Int)) from (congrArg ji_n (by omega))] at hl2
          exact hl2
        exact ih2 (by omega) ls hl H locs (upd fm_ i (ji_n 1)) hP hD hS (fun j h => by rcases Nat.lt_succ_iff_lt_or_eq.mp h with h | h; rw [pk_un (by omega)]; exact hq j h; rw [h, pk_us]; exact congrArg ji_n (by have h8 := sp_z0_or K A i; have h9 := sp_fm_or (K i) (sp_z0 K A i); omega))
  have hl : lv_has ls 2 [(1, .int (ji_n ((0 : Nat) : Int))), (0, .ref (w 0))] := lv_sub hl [0, 1] rfl
  exact loop1 0 (by omega) ls hl s.heap [] fm hP hD hS (fun j h => absurd h (Nat.not_lt_zero j))

set_option maxHeartbeats 4000000 in
set_option maxRecDepth 100000 in
theorem ct_place (l : Launch) (size_ : Nat) (dC : Nat → ClassId) (dI : Nat → Nat → Nat) (cI : ClassId) (w : Nat → Nat) (n : Nat) (g0 g1 g2 st fm vl : Nat → Int32) (K A B z : Nat → Int) (hn : n ≤ 50) (hg : sp_gp K A B n) (ho : sp_ok K A B z n) (hF : as_F n K A B g0 g1 g2) (hfm : ∀ j, j < n → fm j = ji_n (sp_fm (K j) (z j))) : Met l yX0_place wsX0_place { frames := 1, cells := 0, slots := 0, locals := 23 } (va_Pc [.ref (w 0)] (wr_B (dC, dI) vwCl (wo_A w cI n g0 g1 g2 st fm vl) size_ (kn_K dC dI cI))) (wr_Qv (fun H => ∃ q1 q2 : Nat → Int32, va_P (dC, dI) vwCl (wo_A w cI n g0 g1 g2 q1 fm q2) H ∧ as_S n K A z q1 fm q2) (va_A (wo_A w cI n g0 g1 g2 st fm vl) size_)) 0 0 (va_A (wo_A w cI n g0 g1 g2 st fm vl) size_) := by
  refine st_wv (cc := cX0_place) (maxL := 3) (by decide) rfl (Nat.le_of_ble_eq_true rfl) (lv := [(0, .ref (w 0))]) rfl ?_
  intro p e s m args below meth c R Q ls A9 hx hb hts hown hml hR hP hD hA hS hN hl hend
  have hK := hN.1
  have hinX0 : ∀ w ∈ u_ws RX0 TX0 4, w ∈ wsX0_place := fun w h => List.mem_cons_of_mem _ (inX0 w h)
  have hfl12 := (hts _ (List.mem_cons_of_mem _ tm_57))
  have hfl18 := (hts _ (List.mem_cons_of_mem _ tm_59))
  have hfl22 := (hts _ (List.mem_cons_of_mem _ tm_61))
  have hfl25 := (hts _ (List.mem_cons_of_mem _ tm_63))
  have hinX1 : ∀ w ∈ u_ws RX1 TX1 4, w ∈ wsX0_place := fun w h => List.mem_cons_of_mem _ (inX1 w h)
  refine lv_aload_n hx hb dX0_place_0 rfl (lv_at hl 0 rfl) ?_
  refine va_get (ci := 0) (C := RX0) (T := TX0) (N := 4) hx hb hts hinX0 hown hK hP 0 rfl rfl 3 (by decide) hfl25 (fun _ h9 => h9) rfl dX0_place_1 ?_
  refine jn_iconst hx hb dX0_place_4 ?_
  refine cl_wv (wc := [(w 3, .inl (cI, 16, .inl vl))]) (wr := [0, 1, 2, 4, 5, 6, 7].filterMap (fun i => (wo_A w cI n g0 g1 g2 st fm vl)[i]?)) [3] [0, 1, 2, 4, 5, 6, 7] rfl rfl (by decide) (by decide) (by decide) hP hD hS hA (va_runS (As := [.ref (w 3), .int (ji_n (-1))]) (rest := []) ⟨hx, hb, hml, hown, hts⟩ (ct_fill l s.heap.size dC dI cI (w 3) 16 vl (-1) (by decide)) (va_cwS 2 hts (ub_S tm_54 tm_55 tm_4 tm_56) rfl rfl rfl (by decide +kernel) (by rw [hR]; exact ⟨Nat.le_of_ble_eq_true rfl, Nat.le_of_ble_eq_true rfl⟩)) (ps_wr hN (hP.sub [3] rfl) (hD.sub [3] (by decide) rfl)) rfl rfl hl.1 rfl (lv_room (Nat.le_of_ble_eq_true rfl)) dX0_place_5 ⟨Nat.zero_le _, Nat.zero_le _⟩) (fun H locs hPs hj hS => ?_)
  obtain ⟨vl1, hPs, hv1⟩ := hPs
  obtain ⟨hP, hD⟩ := hj ([(w 3, .inl (cI, 16, .inl vl1))]) rfl hPs
  have hP := hP.sub (ws' := wo_A w cI n g0 g1 g2 st fm vl1) [0, 1, 2, 7, 3, 4, 5, 6] rfl
  have hD := hD.sub (ws' := wo_A w cI n g0 g1 g2 st fm vl1) [0, 1, 2, 7, 3, 4, 5, 6] (by decide) rfl
  have hP : va_P (dC, dI) vwCl (wo_A w cI n g0 g1 g2 st fm vl1) H := hP
  have hD : va_D A9 (wo_A w cI n g0 g1 g2 st fm vl1) := hD
  refine jn_iconst hx hb dX0_place_8 ?_
  refine lv_istore_n (lv' := [(1, .int (ji_n 0)), (0, .ref (w 0))]) hx hb dX0_place_9 rfl hl (by decide) rfl (fun ls hl => ?_)
  refine jn_iconst hx hb dX0_place_10 ?_
  refine lv_istore_n (lv' := [(2, .int (ji_n 0)), (1, .int (ji_n 0)), (0, .ref (w 0))]) hx hb dX0_place_11 rfl hl (by decide) rfl (fun ls hl => ?_)
  have loop1 : ∀ i : Nat, i ≤ n → ∀ (ls : Array Slot), lv_has ls 3 [(2, .int (ji_n (i : Int))), (1, .int (ji_n (sp_pz z i))), (0, .ref (w 0))] → ∀ (H : Heap) (locs : List Loc) (st_ : Nat → Int32) (vl_ : Nat → Int32), va_P (dC, dI) vwCl (wo_A w cI n g0 g1 g2 st_ fm vl_) H → va_D A9 (wo_A w cI n g0 g1 g2 st_ fm vl_) → va_S A9 s.heap H locs → (∀ j, j < i → st_ j = ji_n (sp_pz z j)) → (∀ x : Int, 0 ≤ x → x < 16 → vl_ x.toNat = ji_n (sp_la K A z i x)) → W p l e R s m args below meth c H locs 0 0 Q (F0 m 12 ls []) := by
    refine lp_up n ?_
    intro i hi_i ih2 ls hl H locs st_ vl_ hP hD hS hq1 hq2
    refine lv_iload_n hx hb dX0_place_12 rfl (lv_at hl 0 rfl) ?_
    refine lv_aload_n hx hb dX0_place_13 rfl (lv_at hl 2 rfl) ?_
    refine va_get (ci := 0) (C := RX0) (T := TX0) (N := 4) hx hb hts hinX0 hown hK hP 0 rfl rfl 0 (by decide) hfl12 (fun _ h9 => h9) rfl dX0_place_14 ?_
    refine va_getN (ci := 1) (C := RX1) (T := TX1) (N := 4) hx hb hts hinX1 hown hK hP 4 rfl rfl 3 (by decide) (va_Nw.use rfl (nw_5 hN)) (fun _ h9 => h9) rfl dX0_place_17 ?_
    refine jn_icmp_ge hx hb dX0_place_20 (tgt := 71) rfl (by unfold ji_r; omega) (by unfold ji_r; omega) (fun hc3 => ?_) (fun hc3 => ?_)
    · skip
      have he : i = n := by omega
      refine lv_aload_n hx hb dX0_place_71 rfl (lv_at hl 2 rfl) ?_
      refine va_get (ci := 0) (C := RX0) (T := TX0) (N := 4) hx hb hts hinX0 hown hK hP 0 rfl rfl 1 (by decide) hfl18 (fun _ h9 => h9) rfl dX0_place_72 ?_
      refine lv_aload_n hx hb dX0_place_75 rfl (lv_at hl 2 rfl) ?_
      refine va_get (ci := 0) (C := RX0) (T := TX0) (N := 4) hx hb hts hinX0 hown hK hP 0 rfl rfl 0 (by decide) hfl12 (fun _ h9 => h9) rfl dX0_place_76 ?_
      refine va_getN (ci := 1) (C := RX1) (T := TX1) (N := 4) hx hb hts hinX1 hown hK hP 4 rfl rfl 3 (by decide) (va_Nw.use rfl (nw_5 hN)) (fun _ h9 => h9) rfl dX0_place_79 ?_
      refine lv_iload_n hx hb dX0_place_82 rfl (lv_at hl 1 rfl) ?_
      refine jn_iast hx hb hK hP hD hS 1 0 rfl rfl n (by omega) (by omega) (by decide) dX0_place_83 (fun H locs hP hD hS => ?_)
      have hP : va_P (dC, dI) vwCl (wo_A w cI n g0 g1 g2 (upd st_ n (ji_n (sp_pz z i))) fm vl_) H := hP
      have hD : va_D A9 (wo_A w cI n g0 g1 g2 (upd st_ n (ji_n (sp_pz z i))) fm vl_) := hD
      exact hend _ _ _ _ dX0_place_84 ⟨_, _, hP, fun j hj => by rcases Nat.lt_succ_iff_lt_or_eq.mp hj with h | h; rw [pk_un (by omega)]; exact hq1 j (by omega); rw [h, pk_us, he], hfm, by rw [← he]; exact hq2⟩ hS
    · skip
      have hgi := hg i (by omega)
      unfold sp_gd at hgi
      refine lv_aload_n hx hb dX0_place_23 rfl (lv_at hl 2 rfl) ?_
      refine va_get (ci := 0) (C := RX0) (T := TX0) (N := 4) hx hb hts hinX0 hown hK hP 0 rfl rfl 1 (by decide) hfl18 (fun _ h9 => h9) rfl dX0_place_24 ?_
      refine lv_iload_n hx hb dX0_place_27 rfl (lv_at hl 0 rfl) ?_
      refine lv_iload_n hx hb dX0_place_28 rfl (lv_at hl 1 rfl) ?_
      refine jn_iast hx hb hK hP hD hS 1 0 rfl rfl i (by omega) (by omega) (by decide) dX0_place_29 (fun H locs hP hD hS => ?_)
      have hP : va_P (dC, dI) vwCl (wo_A w cI n g0 g1 g2 (upd st_ i (ji_n (sp_pz z i))) fm vl_) H := hP
      have hD : va_D A9 (wo_A w cI n g0 g1 g2 (upd st_ i (ji_n (sp_pz z i))) fm vl_) := hD
      refine lv_aload_n hx hb dX0_place_30 rfl (lv_at hl 2 rfl) ?_
      refine va_get (ci := 0) (C := RX0) (T := TX0) (N := 4) hx hb hts hinX0 hown hK hP 0 rfl rfl 0 (by decide) hfl12 (fun _ h9 => h9) rfl dX0_place_31 ?_
      refine va_getN (ci := 1) (C := RX1) (T := TX1) (N := 4) hx hb hts hinX1 hown hK hP 4 rfl rfl 0 (by decide) (va_Nw.use rfl (nw_6 hN)) (fun _ h9 => h9) rfl dX0_place_34 ?_
      refine lv_iload_n hx hb dX0_place_37 rfl (lv_at hl 0 rfl) ?_
      refine jn_iald hx hb hK hP 5 0 rfl rfl i (by omega) (by omega) (by decide) (v := K i) (hF.1 i (by omega)) dX0_place_38 ?_
      refine jn_if_ne hx hb dX0_place_39 (tgt := 57) rfl (by unfold ji_r; omega) (fun hc4 => ?_) (fun hc4 => ?_)
      · skip
        refine lv_iload_n hx hb dX0_place_57 rfl (lv_at hl 1 rfl) ?_
        refine lv_aload_n hx hb dX0_place_58 rfl (lv_at hl 2 rfl) ?_
        refine lv_iload_n hx hb dX0_place_59 rfl (lv_at hl 0 rfl) ?_
        refine cl_rd (va_runV (As := [.int (ji_n (i : Int))]) (rest := [.int (ji_n (sp_pz z i))]) ⟨hx, hb, hml, hown, hts⟩ (ct_lineSize l dC dI cI w n g0 g1 g2 (upd st_ i (ji_n (sp_pz z i))) fm vl_ K A B z hF hn hg ho hfm i (by omega)) (cwV 1 hts (ub_V tm_140 tm_142 tm_s3 tm_3 tm_143) rfl rfl rfl (by decide +kernel) (by rw [hR]; exact ⟨Nat.le_of_ble_eq_true rfl, Nat.le_of_ble_eq_true rfl⟩)) (pv_rd (q0 := 0) (ci := 0) hN hP rfl rfl) rfl rfl hl.1 rfl (lv_room (Nat.le_of_ble_eq_true rfl)) dX0_place_60 ⟨Nat.zero_le _, Nat.zero_le _⟩) ?_
        have hzi := sp_z_r hg ho i (by omega)
        refine jn_iadd hx hb dX0_place_63 (v := (sp_pz z i) + (z i)) rfl ?_
        refine lv_istore_n (lv' := [(1, .int (ji_n ((sp_pz z i) + (z i)))), (2, .int (ji_n (i : Int))), (0, .ref (w 0))]) hx hb dX0_place_64 rfl hl (by decide) rfl (fun ls hl => ?_)
        refine jn_iinc (lv' := [(2, .int (ji_n ((i : Int) + 1))), (1, .int (ji_n ((sp_pz z i) + (z i)))), (0, .ref (w 0))]) (k := 1) (v := (i : Int) + 1) hx hb dX0_place_65 hl rfl rfl (by decide) rfl (fun ls hl => ?_)
        refine lv_goto hx hb dX0_place_68 (tgt := 12) rfl ?_
        have hl : lv_has ls 3 [(2, .int (ji_n ((i + 1 : Nat) : Int))), (1, .int (ji_n (sp_pz z (i + 1)))), (0, .ref (w 0))] := by
          have hl2 := lv_sub hl (l' := [(2, .int (ji_n ((i : Int) + 1))), (1, .int (ji_n ((sp_pz z i) + (z i)))), (0, .ref (w 0))]) [0, 1, 2] rfl
          rw [show (ji_n ((i : Int) + 1)) = (ji_n ((i + 1 : Nat) : Int)) from (congrArg ji_n (by omega))] at hl2
          rw [show (ji_n ((sp_pz z i) + (z i))) = (ji_n (sp_pz z (i + 1))) from (congrArg ji_n (by rfl))] at hl2
          exact hl2
        exact ih2 (by omega) ls hl H locs (upd st_ i (ji_n (sp_pz z i))) vl_ hP hD hS (fun j h => by rcases Nat.lt_succ_iff_lt_or_eq.mp h with h | h; rw [pk_un (by omega)]; exact hq1 j h; rw [h, pk_us]) (fun x h8 h9 => by rw [sp_la_s, if_neg (by omega)]; exact hq2 x h8 h9)
      · skip
        refine lv_aload_n hx hb dX0_place_42 rfl (lv_at hl 2 rfl) ?_
        refine va_get (ci := 0) (C := RX0) (T := TX0) (N := 4) hx hb hts hinX0 hown hK hP 0 rfl rfl 3 (by decide) hfl25 (fun _ h9 => h9) rfl dX0_place_43 ?_
        refine lv_aload_n hx hb dX0_place_46 rfl (lv_at hl 2 rfl) ?_
        refine va_get (ci := 0) (C := RX0) (T := TX0) (N := 4) hx hb hts hinX0 hown hK hP 0 rfl rfl 0 (by decide) hfl12 (fun _ h9 => h9) rfl dX0_place_47 ?_
        refine va_getN (ci := 1) (C := RX1) (T := TX1) (N := 4) hx hb hts hinX1 hown hK hP 4 rfl rfl 1 (by decide) (va_Nw.use rfl (nw_7 hN)) (fun _ h9 => h9) rfl dX0_place_50 ?_
        refine lv_iload_n hx hb dX0_place_53 rfl (lv_at hl 0 rfl) ?_
        refine jn_iald hx hb hK hP 6 0 rfl rfl i (by omega) (by omega) (by decide) (v := A i) (hF.2.1 i (by omega)) dX0_place_54 ?_
        refine lv_iload_n hx hb dX0_place_55 rfl (lv_at hl 1 rfl) ?_
        refine jn_iast hx hb hK hP hD hS 3 0 rfl rfl ((A i).toNat) (by omega) (by omega) (by decide) dX0_place_56 (fun H locs hP hD hS => ?_)
        have hP : va_P (dC, dI) vwCl (wo_A w cI n g0 g1 g2 (upd st_ i (ji_n (sp_pz z i))) fm (upd vl_ ((A i).toNat) (ji_n (sp_pz z i)))) H := hP
        have hD : va_D A9 (wo_A w cI n g0 g1 g2 (upd st_ i (ji_n (sp_pz z i))) fm (upd vl_ ((A i).toNat) (ji_n (sp_pz z i)))) := hD
        refine lv_iload_n hx hb dX0_place_57 rfl (lv_at hl 1 rfl) ?_
        refine lv_aload_n hx hb dX0_place_58 rfl (lv_at hl 2 rfl) ?_
        refine lv_iload_n hx hb dX0_place_59 rfl (lv_at hl 0 rfl) ?_
        refine cl_rd (va_runV (As := [.int (ji_n (i : Int))]) (rest := [.int (ji_n (sp_pz z i))]) ⟨hx, hb, hml, hown, hts⟩ (ct_lineSize l dC dI cI w n g0 g1 g2 (upd st_ i (ji_n (sp_pz z i))) fm (upd vl_ ((A i).toNat) (ji_n (sp_pz z i))) K A B z hF hn hg ho hfm i (by omega)) (cwV 1 hts (ub_V tm_140 tm_142 tm_s3 tm_3 tm_143) rfl rfl rfl (by decide +kernel) (by rw [hR]; exact ⟨Nat.le_of_ble_eq_true rfl, Nat.le_of_ble_eq_true rfl⟩)) (pv_rd (q0 := 0) (ci := 0) hN hP rfl rfl) rfl rfl hl.1 rfl (lv_room (Nat.le_of_ble_eq_true rfl)) dX0_place_60 ⟨Nat.zero_le _, Nat.zero_le _⟩) ?_
        have hzi := sp_z_r hg ho i (by omega)
        refine jn_iadd hx hb dX0_place_63 (v := (sp_pz z i) + (z i)) rfl ?_
        refine lv_istore_n (lv' := [(1, .int (ji_n ((sp_pz z i) + (z i)))), (2, .int (ji_n (i : Int))), (0, .ref (w 0))]) hx hb dX0_place_64 rfl hl (by decide) rfl (fun ls hl => ?_)
        refine jn_iinc (lv' := [(2, .int (ji_n ((i : Int) + 1))), (1, .int (ji_n ((sp_pz z i) + (z i)))), (0, .ref (w 0))]) (k := 1) (v := (i : Int) + 1) hx hb dX0_place_65 hl rfl rfl (by decide) rfl (fun ls hl => ?_)
        refine lv_goto hx hb dX0_place_68 (tgt := 12) rfl ?_
        have hl : lv_has ls 3 [(2, .int (ji_n ((i + 1 : Nat) : Int))), (1, .int (ji_n (sp_pz z (i + 1)))), (0, .ref (w 0))] := by
          have hl2 := lv_sub hl (l' := [(2, .int (ji_n ((i : Int) + 1))), (1, .int (ji_n ((sp_pz z i) + (z i)))), (0, .ref (w 0))]) [0, 1, 2] rfl
          rw [show (ji_n ((i : Int) + 1)) = (ji_n ((i + 1 : Nat) : Int)) from (congrArg ji_n (by omega))] at hl2
          rw [show (ji_n ((sp_pz z i) + (z i))) = (ji_n (sp_pz z (i + 1))) from (congrArg ji_n (by rfl))] at hl2
          exact hl2
        exact ih2 (by omega) ls hl H locs (upd st_ i (ji_n (sp_pz z i))) (upd vl_ ((A i).toNat) (ji_n (sp_pz z i))) hP hD hS (fun j h => by rcases Nat.lt_succ_iff_lt_or_eq.mp h with h | h; rw [pk_un (by omega)]; exact hq1 j h; rw [h, pk_us]) (fun x h8 h9 => by
                    rw [sp_la_s]
                    by_cases hx9 : A i = x
                    · rw [if_pos ⟨by omega, hx9⟩, ← hx9, pk_us]
                    · rw [if_neg (fun q => hx9 q.2), pk_un (by omega)]; exact hq2 x h8 h9)
  have hl : lv_has ls 3 [(2, .int (ji_n ((0 : Nat) : Int))), (1, .int (ji_n (sp_pz z 0))), (0, .ref (w 0))] := lv_sub hl [0, 1, 2] rfl
  exact loop1 0 (by omega) ls hl H locs st vl1 hP hD hS (fun j h => absurd h (Nat.not_lt_zero j)) (fun x h8 h9 => hv1 x.toNat (by omega))

set_option maxHeartbeats 4000000 in
set_option maxRecDepth 100000 in
theorem ct_lengthen (l : Launch) (size_ : Nat) (dC : Nat → ClassId) (dI : Nat → Nat → Nat) (cI : ClassId) (w : Nat → Nat) (n : Nat) (g0 g1 g2 st fm vl : Nat → Int32) (K A B z : Nat → Int) (hF : as_F n K A B g0 g1 g2) (hAS : sp_AS n K A B z) (hSS : as_S n K A z st fm vl) : Met l yX0_lengthen wsX0_lengthen { frames := 1, cells := 0, slots := 0, locals := 22 } (va_Pc [.ref (w 0)] (wr_B (dC, dI) vwCl (wo_A w cI n g0 g1 g2 st fm vl) size_ (kn_K dC dI cI))) (wr_Qi (fun r H => r = ji_n (sp_cg n K A z n) ∧ ∃ q : Nat → Int32, va_P (dC, dI) vwCl (wo_A w cI n g0 g1 g2 st q vl) H ∧ ∀ j, j < n → q j = ji_n (sp_fm (K j) (sp_lz n K A B z j))) (va_A (wo_A w cI n g0 g1 g2 st fm vl) size_)) 0 0 (va_A (wo_A w cI n g0 g1 g2 st fm vl) size_) := by
  refine st_wi (cc := cX0_lengthen) (maxL := 3) (ret := some .boolean) (ty := .boolean) (by decide) rfl rfl (Nat.le_of_ble_eq_true rfl) (lv := [(0, .ref (w 0))]) rfl (fun v H h => by rw [h.1]; exact nb_b (by rcases sp_cg_or n K A z n with h | h <;> omega)) ?_
  intro p e s m args below meth c R Q ls A9 hx hb hts hown hml hR hP hD hA hS hN hl hend
  have hK := hN.1
  have hinX0 : ∀ w ∈ u_ws RX0 TX0 4, w ∈ wsX0_lengthen := fun w h => List.mem_cons_of_mem _ (inX0 w h)
  have hfl12 := (hts _ (List.mem_cons_of_mem _ tm_57))
  have hfl22 := (hts _ (List.mem_cons_of_mem _ tm_61))
  have hinX1 : ∀ w ∈ u_ws RX1 TX1 4, w ∈ wsX0_lengthen := fun w h => List.mem_cons_of_mem _ (inX1 w h)
  have hn := hAS.1
  have hg := hAS.2.1
  have ho := hAS.2.2.1
  obtain ⟨hst, hfm, hvl⟩ := hSS
  refine jn_iconst hx hb dX0_lengthen_0 ?_
  refine lv_istore_n (lv' := [(1, .int (ji_n 0)), (0, .ref (w 0))]) hx hb dX0_lengthen_1 rfl hl (by decide) rfl (fun ls hl => ?_)
  refine jn_iconst hx hb dX0_lengthen_2 ?_
  refine lv_istore_n (lv' := [(2, .int (ji_n 0)), (1, .int (ji_n 0)), (0, .ref (w 0))]) hx hb dX0_lengthen_3 rfl hl (by decide) rfl (fun ls hl => ?_)
  have loop1 : ∀ i : Nat, i ≤ n → ∀ (ls : Array Slot), lv_has ls 3 [(2, .int (ji_n (i : Int))), (1, .int (ji_n (sp_cg n K A z i))), (0, .ref (w 0))] → ∀ (H : Heap) (locs : List Loc) (fm_ : Nat → Int32), va_P (dC, dI) vwCl (wo_A w cI n g0 g1 g2 st fm_ vl) H → va_D A9 (wo_A w cI n g0 g1 g2 st fm_ vl) → va_S A9 s.heap H locs → (∀ j, j < n → fm_ j = ji_n (if j < i then sp_fm (K j) (sp_lz n K A B z j) else sp_fm (K j) (z j))) → W p l e R s m args below meth c H locs 0 0 Q (F0 m 4 ls []) := by
    refine lp_up n ?_
    intro i hi_i ih2 ls hl H locs fm_ hP hD hS hq
    refine lv_iload_n hx hb dX0_lengthen_4 rfl (lv_at hl 0 rfl) ?_
    refine lv_aload_n hx hb dX0_lengthen_5 rfl (lv_at hl 2 rfl) ?_
    refine va_get (ci := 0) (C := RX0) (T := TX0) (N := 4) hx hb hts hinX0 hown hK hP 0 rfl rfl 0 (by decide) hfl12 (fun _ h9 => h9) rfl dX0_lengthen_6 ?_
    refine va_getN (ci := 1) (C := RX1) (T := TX1) (N := 4) hx hb hts hinX1 hown hK hP 4 rfl rfl 3 (by decide) (va_Nw.use rfl (nw_5 hN)) (fun _ h9 => h9) rfl dX0_lengthen_9 ?_
    refine jn_icmp_ge hx hb dX0_lengthen_12 (tgt := 55) rfl (by unfold ji_r; omega) (by unfold ji_r; omega) (fun hc3 => ?_) (fun hc3 => ?_)
    · skip
      have he : i = n := by omega
      refine lv_iload_n hx hb dX0_lengthen_55 rfl (lv_at hl 1 rfl) ?_
      exact hend _ _ _ _ _ dX0_lengthen_56 ⟨by rw [he], _, hP, fun j hj => by rw [hq j hj, if_pos (by omega)]⟩ hS
    · skip
      have hgj := hg i (by omega)
      unfold sp_gd at hgj
      have hoj := ho i (by omega)
      have hfj := sp_fm_or (K i) (z i)
      have hlj := sp_lg_or (B i)
      refine lv_aload_n hx hb dX0_lengthen_15 rfl (lv_at hl 2 rfl) ?_
      refine va_get (ci := 0) (C := RX0) (T := TX0) (N := 4) hx hb hts hinX0 hown hK hP 0 rfl rfl 2 (by decide) hfl22 (fun _ h9 => h9) rfl dX0_lengthen_16 ?_
      refine lv_iload_n hx hb dX0_lengthen_19 rfl (lv_at hl 0 rfl) ?_
      refine jn_iald hx hb hK hP 2 0 rfl rfl i (by omega) (by omega) (by decide) (v := sp_fm (K i) (z i)) (by rw [hq i (by omega), if_neg (by omega)]) dX0_lengthen_20 ?_
      refine jn_iconst hx hb dX0_lengthen_21 ?_
      refine jn_icmp_ne hx hb dX0_lengthen_22 (tgt := 49) rfl (by unfold ji_r; omega) (by unfold ji_r; omega) (fun hc4 => ?_) (fun hc4 => ?_)
      · skip
        refine jn_iinc (lv' := [(2, .int (ji_n ((i : Int) + 1))), (1, .int (ji_n (sp_cg n K A z i))), (0, .ref (w 0))]) (k := 0) (v := (i : Int) + 1) hx hb dX0_lengthen_49 hl rfl rfl (by decide) rfl (fun ls hl => ?_)
        refine lv_goto hx hb dX0_lengthen_52 (tgt := 4) rfl ?_
        have hl : lv_has ls 3 [(2, .int (ji_n ((i + 1 : Nat) : Int))), (1, .int (ji_n (sp_cg n K A z (i + 1)))), (0, .ref (w 0))] := by
          have hl2 := lv_sub hl (l' := [(2, .int (ji_n ((i : Int) + 1))), (1, .int (ji_n (sp_cg n K A z i))), (0, .ref (w 0))]) [0, 1, 2] rfl
          rw [show (ji_n ((i : Int) + 1)) = (ji_n ((i + 1 : Nat) : Int)) from (congrArg ji_n (by omega))] at hl2
          rw [show (ji_n (sp_cg n K A z i)) = (ji_n (sp_cg n K A z (i + 1))) from (congrArg ji_n (by rw [sp_cg_s]; split <;> omega))] at hl2
          exact hl2
        exact ih2 (by omega) ls hl H locs fm_ hP hD hS (fun j h => by
                    have h8 := sp_lz_or n K A B z i; have h10 := sp_fm_or (K i) (sp_lz n K A B z i); have h11 := sp_lg_or (B i)
                    by_cases hj : j = i
                    · rw [hj, hq i (by omega), if_neg (by omega), if_pos (by omega)]; exact congrArg ji_n (by omega)
                    · rw [hq j h]; by_cases hji : j < i
                      · rw [if_pos hji, if_pos (by omega)]
                      · rw [if_neg hji, if_neg (by omega)])
      · skip
        refine lv_aload_n hx hb dX0_lengthen_25 rfl (lv_at hl 2 rfl) ?_
        refine lv_iload_n hx hb dX0_lengthen_26 rfl (lv_at hl 0 rfl) ?_
        refine cl_rd (va_runV (As := [.int (ji_n (i : Int))]) (rest := []) ⟨hx, hb, hml, hown, hts⟩ (ct_distance l dC dI cI w n g0 g1 g2 st fm_ vl K A B z hF hAS hst hvl i (by omega) (by omega)) (cwV 1 hts (ub_V tm_147 tm_149 tm_s4 tm_3 tm_150) rfl rfl rfl (by decide +kernel) (by rw [hR]; exact ⟨Nat.le_of_ble_eq_true rfl, Nat.le_of_ble_eq_true rfl⟩)) (pv_rd (q0 := 0) (ci := 0) hN hP rfl rfl) rfl rfl hl.1 rfl (lv_room (Nat.le_of_ble_eq_true rfl)) dX0_lengthen_27 ⟨Nat.zero_le _, Nat.zero_le _⟩) ?_
        have hds := sp_AS_ds hAS (j := i) (by omega)
        refine jn_bipush hx hb dX0_lengthen_30 (by decide) ?_
        refine jn_bipush hx hb dX0_lengthen_32 (by decide) ?_
        refine cl_rd (va_runSN (As := [.int (ji_n (sp_ds n K A z i)), .int (ji_n (-128)), .int (ji_n 127)]) (rest := []) ⟨hx, hb, hml, hown, hts⟩ (ct_isWithin l (sp_ds n K A z i) (-128) 127 (by unfold ji_r; omega) (by unfold ji_r; omega) (by unfold ji_r; omega)) ⟨(va_cnB 3 hts (ub_I tm_93) rfl rfl rfl (nw_9 hN) (hts _ (List.mem_cons_of_mem _ tm_1)) (by decide +kernel) (by rw [hR]; exact ⟨Nat.le_of_ble_eq_true rfl, Nat.le_of_ble_eq_true rfl⟩)), (hts _ (List.mem_cons_of_mem _ tm_92)), trivial⟩ ⟨fun _ _ _ _ q => q, fun U _ _ => ⟨rfl, trivial⟩⟩ rfl rfl hl.1 rfl (lv_room (Nat.le_of_ble_eq_true rfl)) dX0_lengthen_34 ⟨Nat.zero_le _, Nat.zero_le _⟩) ?_
        have hw34 := sp_wi_or (sp_ds n K A z i) (-128) 127
        refine jn_if_ne hx hb dX0_lengthen_37 (tgt := 49) rfl (by unfold ji_r; omega) (fun hc5 => ?_) (fun hc5 => ?_)
        · skip
          refine jn_iinc (lv' := [(2, .int (ji_n ((i : Int) + 1))), (1, .int (ji_n (sp_cg n K A z i))), (0, .ref (w 0))]) (k := 0) (v := (i : Int) + 1) hx hb dX0_lengthen_49 hl rfl rfl (by decide) rfl (fun ls hl => ?_)
          refine lv_goto hx hb dX0_lengthen_52 (tgt := 4) rfl ?_
          have hl : lv_has ls 3 [(2, .int (ji_n ((i + 1 : Nat) : Int))), (1, .int (ji_n (sp_cg n K A z (i + 1)))), (0, .ref (w 0))] := by
            have hl2 := lv_sub hl (l' := [(2, .int (ji_n ((i : Int) + 1))), (1, .int (ji_n (sp_cg n K A z i))), (0, .ref (w 0))]) [0, 1, 2] rfl
            rw [show (ji_n ((i : Int) + 1)) = (ji_n ((i + 1 : Nat) : Int)) from (congrArg ji_n (by omega))] at hl2
            rw [show (ji_n (sp_cg n K A z i)) = (ji_n (sp_cg n K A z (i + 1))) from (congrArg ji_n (by rw [sp_cg_s]; split <;> omega))] at hl2
            exact hl2
          exact ih2 (by omega) ls hl H locs fm_ hP hD hS (fun j h => by
                        have h8 := sp_lz_or n K A B z i; have h10 := sp_fm_or (K i) (sp_lz n K A B z i); have h11 := sp_lg_or (B i)
                        by_cases hj : j = i
                        · rw [hj, hq i (by omega), if_neg (by omega), if_pos (by omega)]; exact congrArg ji_n (by omega)
                        · rw [hq j h]; by_cases hji : j < i
                          · rw [if_pos hji, if_pos (by omega)]
                          · rw [if_neg hji, if_neg (by omega)])
        · skip
          refine lv_aload_n hx hb dX0_lengthen_40 rfl (lv_at hl 2 rfl) ?_
          refine va_get (ci := 0) (C := RX0) (T := TX0) (N := 4) hx hb hts hinX0 hown hK hP 0 rfl rfl 2 (by decide) hfl22 (fun _ h9 => h9) rfl dX0_lengthen_41 ?_
          refine lv_iload_n hx hb dX0_lengthen_44 rfl (lv_at hl 0 rfl) ?_
          refine jn_iconst hx hb dX0_lengthen_45 ?_
          refine jn_iast hx hb hK hP hD hS 2 0 rfl rfl i (by omega) (by omega) (by decide) dX0_lengthen_46 (fun H locs hP hD hS => ?_)
          have hP : va_P (dC, dI) vwCl (wo_A w cI n g0 g1 g2 st (upd fm_ i (ji_n 2)) vl) H := hP
          have hD : va_D A9 (wo_A w cI n g0 g1 g2 st (upd fm_ i (ji_n 2)) vl) := hD
          refine jn_iconst hx hb dX0_lengthen_47 ?_
          refine lv_istore_n (lv' := [(1, .int (ji_n 1)), (2, .int (ji_n (i : Int))), (0, .ref (w 0))]) hx hb dX0_lengthen_48 rfl hl (by decide) rfl (fun ls hl => ?_)
          refine jn_iinc (lv' := [(2, .int (ji_n ((i : Int) + 1))), (1, .int (ji_n 1)), (0, .ref (w 0))]) (k := 1) (v := (i : Int) + 1) hx hb dX0_lengthen_49 hl rfl rfl (by decide) rfl (fun ls hl => ?_)
          refine lv_goto hx hb dX0_lengthen_52 (tgt := 4) rfl ?_
          have hl : lv_has ls 3 [(2, .int (ji_n ((i + 1 : Nat) : Int))), (1, .int (ji_n (sp_cg n K A z (i + 1)))), (0, .ref (w 0))] := by
            have hl2 := lv_sub hl (l' := [(2, .int (ji_n ((i : Int) + 1))), (1, .int (ji_n 1)), (0, .ref (w 0))]) [0, 1, 2] rfl
            rw [show (ji_n ((i : Int) + 1)) = (ji_n ((i + 1 : Nat) : Int)) from (congrArg ji_n (by omega))] at hl2
            rw [show (ji_n 1) = (ji_n (sp_cg n K A z (i + 1))) from (congrArg ji_n (by rw [sp_cg_s]; split <;> omega))] at hl2
            exact hl2
          exact ih2 (by omega) ls hl H locs (upd fm_ i (ji_n 2)) hP hD hS (fun j h => by
                        have h8 := sp_lz_or n K A B z i; have h10 := sp_fm_or (K i) (sp_lz n K A B z i); have h11 := sp_lg_or (B i)
                        by_cases hj : j = i
                        · rw [hj, pk_us, if_pos (by omega)]; exact congrArg ji_n (by omega)
                        · rw [pk_un hj, hq j h]; by_cases hji : j < i
                          · rw [if_pos hji, if_pos (by omega)]
                          · rw [if_neg hji, if_neg (by omega)])
  have hl : lv_has ls 3 [(2, .int (ji_n ((0 : Nat) : Int))), (1, .int (ji_n (sp_cg n K A z 0))), (0, .ref (w 0))] := lv_sub hl [0, 1, 2] rfl
  exact loop1 0 (by omega) ls hl s.heap [] fm hP hD hS (fun j h => by rw [if_neg (by omega)]; exact hfm j h)

set_option maxHeartbeats 4000000 in
set_option maxRecDepth 100000 in
theorem ct_make (l : Launch) (size_ : Nat) (dC : Nat → ClassId) (dI : Nat → Nat → Nat) (cI : ClassId) (w : Nat → Nat) (n : Nat) (g0 g1 g2 st fm vl : Nat → Int32) (v : Nat → Nat) (k : Nat) (f0 f1 f2 : Nat → Int32) (K A B : Nat → Int) (hk : k ≤ 50) (hg : sp_gp K A B k) (hu : sp_uq K A k) (hd : sp_df k K A) (hF : as_F k K A B f0 f1 f2) : Met l yX0_make wsX0_make { frames := 2, cells := 0, slots := 0, locals := 45 } (va_Pc [.ref (w 0), .ref (v 0)] (wr_B (dC, dI) vwCl (wo_A w cI n g0 g1 g2 st fm vl ++ wo_P v cI k f0 f1 f2) size_ (kn_K dC dI cI))) (wr_Qv (fun H => ∃ (z : Nat → Int) (q0 q1 q2 q3 q4 q5 : Nat → Int32), va_P (dC, dI) vwCl (wo_A w cI k q0 q1 q2 q3 q4 q5 ++ wo_P v cI k f0 f1 f2) H ∧ sp_LC k K A B z ∧ as_F k K A B q0 q1 q2 ∧ as_S k K A z q3 q4 q5) (va_A (wo_A w cI n g0 g1 g2 st fm vl ++ wo_P v cI k f0 f1 f2) size_)) 0 0 (va_A (wo_A w cI n g0 g1 g2 st fm vl ++ wo_P v cI k f0 f1 f2) size_) := by
  refine st_wv (cc := cX0_make) (maxL := 3) (by decide) rfl (Nat.le_of_ble_eq_true rfl) (lv := [(0, .ref (w 0)), (1, .ref (v 0))]) rfl ?_
  intro p e s m args below meth c R Q ls A9 hx hb hts hown hml hR hP hD hA hS hN hl hend
  have hK := hN.1
  have hinX0 : ∀ w ∈ u_ws RX0 TX0 4, w ∈ wsX0_make := fun w h => List.mem_cons_of_mem _ (inX0 w h)
  have hfl12 := (hts _ (List.mem_cons_of_mem _ tm_57))
  refine lv_aload_n hx hb dX0_make_0 rfl (lv_at hl 0 rfl) ?_
  refine va_get (ci := 0) (C := RX0) (T := TX0) (N := 4) hx hb hts hinX0 hown hK hP 0 rfl rfl 0 (by decide) hfl12 (fun _ h9 => h9) rfl dX0_make_1 ?_
  refine lv_aload_n hx hb dX0_make_4 rfl (lv_at hl 1 rfl) ?_
  refine cl_wv (wc := wo_P (fun i => w (i + 4)) cI n g0 g1 g2 ++ wo_P v cI k f0 f1 f2) (wr := [0, 1, 2, 3].filterMap (fun i => (wo_A w cI n g0 g1 g2 st fm vl ++ wo_P v cI k f0 f1 f2)[i]?)) [4, 5, 6, 7, 8, 9, 10, 11] [0, 1, 2, 3] rfl rfl (by decide) (by decide) (by decide) hP hD hS hA (va_runV (As := [.ref (v 0)]) (rest := []) ⟨hx, hb, hml, hown, hts⟩ (ct_copyFrom l s.heap.size dC dI cI (fun i => w (i + 4)) n g0 g1 g2 v k f0 f1 f2 hk) (cwV 1 hts (ub_V tm_311 tm_312 tm_313 tm_2 tm_314) rfl rfl rfl (by decide +kernel) (by rw [hR]; exact ⟨Nat.le_of_ble_eq_true rfl, Nat.le_of_ble_eq_true rfl⟩)) (pv_wr (q0 := 0) (ci := 1) hN (hP.sub [4, 5, 6, 7, 8, 9, 10, 11] rfl) (hD.sub [4, 5, 6, 7, 8, 9, 10, 11] (by decide) rfl) rfl rfl) rfl rfl hl.1 rfl (lv_room (Nat.le_of_ble_eq_true rfl)) dX0_make_5 ⟨Nat.zero_le _, Nat.zero_le _⟩) (fun H locs hPs hj hS => ?_)
  obtain ⟨hP, hD⟩ := hj (wo_P (fun i => w (i + 4)) cI k (va_cpy f0 g0 0 0 k) (va_cpy f1 g1 0 0 k) (va_cpy f2 g2 0 0 k) ++ wo_P v cI k f0 f1 f2) rfl hPs
  have hP : va_P (dC, dI) vwCl (wo_A w cI k (va_cpy f0 g0 0 0 k) (va_cpy f1 g1 0 0 k) (va_cpy f2 g2 0 0 k) st fm vl ++ wo_P v cI k f0 f1 f2) H := hP
  have hD : va_D A9 (wo_A w cI k (va_cpy f0 g0 0 0 k) (va_cpy f1 g1 0 0 k) (va_cpy f2 g2 0 0 k) st fm vl ++ wo_P v cI k f0 f1 f2) := hD
  have hF2 : as_F k K A B (va_cpy f0 g0 0 0 k) (va_cpy f1 g1 0 0 k) (va_cpy f2 g2 0 0 k) := ⟨as_cp hF.1, as_cp hF.2.1, as_cp hF.2.2⟩
  generalize va_cpy f0 g0 0 0 k = c0 at hP hD hF2
  generalize va_cpy f1 g1 0 0 k = c1 at hP hD hF2
  generalize va_cpy f2 g2 0 0 k = c2 at hP hD hF2
  refine lv_aload_n hx hb dX0_make_8 rfl (lv_at hl 0 rfl) ?_
  refine cl_wv (wc := wo_A w cI k c0 c1 c2 st fm vl) (wr := [8, 9, 10, 11].filterMap (fun i => (wo_A w cI k c0 c1 c2 st fm vl ++ wo_P v cI k f0 f1 f2)[i]?)) [0, 1, 2, 3, 4, 5, 6, 7] [8, 9, 10, 11] rfl rfl (by decide) (by decide) (by decide) hP hD hS hA (va_runV (As := []) (rest := []) ⟨hx, hb, hml, hown, hts⟩ (ct_allShort l H.size dC dI cI w k c0 c1 c2 st fm vl K A B hk hg hF2) (cwV 0 hts (ub_V tm_315 tm_317 tm_s8 tm_3 tm_318) rfl rfl rfl (by decide +kernel) (by rw [hR]; exact ⟨Nat.le_of_ble_eq_true rfl, Nat.le_of_ble_eq_true rfl⟩)) (pv_wr (q0 := 0) (ci := 0) hN (hP.sub [0, 1, 2, 3, 4, 5, 6, 7] rfl) (hD.sub [0, 1, 2, 3, 4, 5, 6, 7] (by decide) rfl) rfl rfl) rfl rfl hl.1 rfl (lv_room (Nat.le_of_ble_eq_true rfl)) dX0_make_9 ⟨Nat.zero_le _, Nat.zero_le _⟩) (fun H locs hPs hj hS => ?_)
  obtain ⟨fm1, hPs, hm1⟩ := hPs
  obtain ⟨hP, hD⟩ := hj (wo_A w cI k c0 c1 c2 st fm1 vl) rfl hPs
  have hP := hP.sub (ws' := wo_A w cI k c0 c1 c2 st fm1 vl ++ wo_P v cI k f0 f1 f2) [4, 5, 6, 7, 8, 9, 10, 11, 0, 1, 2, 3] rfl
  have hD := hD.sub (ws' := wo_A w cI k c0 c1 c2 st fm1 vl ++ wo_P v cI k f0 f1 f2) [4, 5, 6, 7, 8, 9, 10, 11, 0, 1, 2, 3] (by decide) rfl
  have hP : va_P (dC, dI) vwCl (wo_A w cI k c0 c1 c2 st fm1 vl ++ wo_P v cI k f0 f1 f2) H := hP
  have hD : va_D A9 (wo_A w cI k c0 c1 c2 st fm1 vl ++ wo_P v cI k f0 f1 f2) := hD
  refine lv_aload_n hx hb dX0_make_12 rfl (lv_at hl 0 rfl) ?_
  refine cl_wv (wc := wo_A w cI k c0 c1 c2 st fm1 vl) (wr := [8, 9, 10, 11].filterMap (fun i => (wo_A w cI k c0 c1 c2 st fm1 vl ++ wo_P v cI k f0 f1 f2)[i]?)) [0, 1, 2, 3, 4, 5, 6, 7] [8, 9, 10, 11] rfl rfl (by decide) (by decide) (by decide) hP hD hS hA (va_runV (As := []) (rest := []) ⟨hx, hb, hml, hown, hts⟩ (ct_place l H.size dC dI cI w k c0 c1 c2 st fm1 vl K A B (sp_z0 K A) hk hg (sp_z0_ok hg) hF2 hm1) (cwV 0 hts (ub_V tm_319 tm_321 tm_s9 tm_3 tm_322) rfl rfl rfl (by decide +kernel) (by rw [hR]; exact ⟨Nat.le_of_ble_eq_true rfl, Nat.le_of_ble_eq_true rfl⟩)) (pv_wr (q0 := 0) (ci := 0) hN (hP.sub [0, 1, 2, 3, 4, 5, 6, 7] rfl) (hD.sub [0, 1, 2, 3, 4, 5, 6, 7] (by decide) rfl) rfl rfl) rfl rfl hl.1 rfl (lv_room (Nat.le_of_ble_eq_true rfl)) dX0_make_13 ⟨Nat.zero_le _, Nat.zero_le _⟩) (fun H locs hPs hj hS => ?_)
  obtain ⟨st1, vl1, hPs, hS1⟩ := hPs
  obtain ⟨hP, hD⟩ := hj (wo_A w cI k c0 c1 c2 st1 fm1 vl1) rfl hPs
  have hP := hP.sub (ws' := wo_A w cI k c0 c1 c2 st1 fm1 vl1 ++ wo_P v cI k f0 f1 f2) [4, 5, 6, 7, 8, 9, 10, 11, 0, 1, 2, 3] rfl
  have hD := hD.sub (ws' := wo_A w cI k c0 c1 c2 st1 fm1 vl1 ++ wo_P v cI k f0 f1 f2) [4, 5, 6, 7, 8, 9, 10, 11, 0, 1, 2, 3] (by decide) rfl
  have hP : va_P (dC, dI) vwCl (wo_A w cI k c0 c1 c2 st1 fm1 vl1 ++ wo_P v cI k f0 f1 f2) H := hP
  have hD : va_D A9 (wo_A w cI k c0 c1 c2 st1 fm1 vl1 ++ wo_P v cI k f0 f1 f2) := hD
  refine jn_iconst hx hb dX0_make_16 ?_
  refine lv_istore_n (lv' := [(2, .int (ji_n 0)), (0, .ref (w 0)), (1, .ref (v 0))]) hx hb dX0_make_17 rfl hl (by decide) rfl (fun ls hl => ?_)
  have loop1 : ∀ r : Nat, r ≤ 50 → ∀ (ls : Array Slot), lv_has ls 3 [(2, .int (ji_n (r : Int))), (0, .ref (w 0)), (1, .ref (v 0))] → ∀ (H : Heap) (locs : List Loc) (st_ : Nat → Int32) (fm_ : Nat → Int32) (vl_ : Nat → Int32), va_P (dC, dI) vwCl (wo_A w cI k c0 c1 c2 st_ fm_ vl_ ++ wo_P v cI k f0 f1 f2) H → va_D A9 (wo_A w cI k c0 c1 c2 st_ fm_ vl_ ++ wo_P v cI k f0 f1 f2) → va_S A9 s.heap H locs → (∃ z : Nat → Int, sp_AS k K A B z ∧ sp_lw k K A B z ∧ r ≤ sp_ct K z k ∧ as_S k K A z st_ fm_ vl_) → W p l e R s m args below meth c H locs 0 0 Q (F0 m 18 ls []) := by
    refine lp_up 50 ?_
    intro r hi_r ih2 ls hl H locs st_ fm_ vl_ hP hD hS hz
    obtain ⟨z, hAS, hlw, hct, hS9⟩ := hz
    refine lv_iload_n hx hb dX0_make_18 rfl (lv_at hl 0 rfl) ?_
    refine jn_bipush hx hb dX0_make_19 (by decide) ?_
    refine jn_icmp_ge hx hb dX0_make_21 (tgt := 41) rfl (by unfold ji_r; omega) (by unfold ji_r; omega) (fun hc3 => ?_) (fun hc3 => ?_)
    · skip
      exact hend _ _ _ _ dX0_make_41 ⟨z, c0, c1, c2, _, _, _, hP, ⟨hAS.2.2.1, sp_ct_cs (by have := sp_ct_le K z k; omega), hlw⟩, hF2, hS9⟩ hS
    · skip
      refine lv_aload_n hx hb dX0_make_24 rfl (lv_at hl 1 rfl) ?_
      refine cl_wi (wc := wo_A w cI k c0 c1 c2 st_ fm_ vl_) (wr := [8, 9, 10, 11].filterMap (fun i => (wo_A w cI k c0 c1 c2 st_ fm_ vl_ ++ wo_P v cI k f0 f1 f2)[i]?)) [0, 1, 2, 3, 4, 5, 6, 7] [8, 9, 10, 11] rfl rfl (by decide) (by decide) (by decide) hP hD hS hA (va_runV (As := []) (rest := []) ⟨hx, hb, hml, hown, hts⟩ (ct_lengthen l H.size dC dI cI w k c0 c1 c2 st_ fm_ vl_ K A B z hF2 hAS hS9) (cwV 0 hts (ub_V tm_323 tm_325 tm_s10 tm_3 tm_326) rfl rfl rfl (by decide +kernel) (by rw [hR]; exact ⟨Nat.le_of_ble_eq_true rfl, Nat.le_of_ble_eq_true rfl⟩)) (pv_wr (q0 := 0) (ci := 0) hN (hP.sub [0, 1, 2, 3, 4, 5, 6, 7] rfl) (hD.sub [0, 1, 2, 3, 4, 5, 6, 7] (by decide) rfl) rfl rfl) rfl rfl hl.1 rfl (lv_room (Nat.le_of_ble_eq_true rfl)) dX0_make_25 ⟨Nat.zero_le _, Nat.zero_le _⟩) (fun r9 H locs hPs hj hS => ?_)
      obtain ⟨hr9, fm2, hPs, hm2⟩ := hPs
      obtain ⟨hP, hD⟩ := hj (wo_A w cI k c0 c1 c2 st_ fm2 vl_) rfl hPs
      have hP := hP.sub (ws' := wo_A w cI k c0 c1 c2 st_ fm2 vl_ ++ wo_P v cI k f0 f1 f2) [4, 5, 6, 7, 8, 9, 10, 11, 0, 1, 2, 3] rfl
      have hD := hD.sub (ws' := wo_A w cI k c0 c1 c2 st_ fm2 vl_ ++ wo_P v cI k f0 f1 f2) [4, 5, 6, 7, 8, 9, 10, 11, 0, 1, 2, 3] (by decide) rfl
      have hP : va_P (dC, dI) vwCl (wo_A w cI k c0 c1 c2 st_ fm2 vl_ ++ wo_P v cI k f0 f1 f2) H := hP
      have hD : va_D A9 (wo_A w cI k c0 c1 c2 st_ fm2 vl_ ++ wo_P v cI k f0 f1 f2) := hD
      subst hr9
      have hcg := sp_cg_or k K A z k
      refine jn_if_eq hx hb dX0_make_28 (tgt := 41) rfl (by unfold ji_r; rcases hcg with h | h <;> omega) (fun hc4 => ?_) (fun hc4 => ?_)
      · skip
        have hz2 : ∀ j, j < k → sp_lz k K A B z j = z j := by
          intro j hj
          rcases sp_lz_or k K A B z j with ⟨q1, q2, q3, -⟩ | ⟨-, q⟩
          · rcases hcg with h | h
            · omega
            · exact absurd ⟨q1, q2, q3⟩ (h.2 j hj)
          · exact q
        exact hend _ _ _ _ dX0_make_41 ⟨z, c0, c1, c2, _, _, _, hP, ⟨hAS.2.2.1, sp_cg_cs (by rcases hcg with h | h <;> omega), hlw⟩, hF2, hS9.1, (fun j hj => by rw [hm2 j hj, hz2 j hj]), hS9.2.2⟩ hS
      · skip
        refine lv_aload_n hx hb dX0_make_31 rfl (lv_at hl 1 rfl) ?_
        refine cl_wv (wc := wo_A w cI k c0 c1 c2 st_ fm2 vl_) (wr := [8, 9, 10, 11].filterMap (fun i => (wo_A w cI k c0 c1 c2 st_ fm2 vl_ ++ wo_P v cI k f0 f1 f2)[i]?)) [0, 1, 2, 3, 4, 5, 6, 7] [8, 9, 10, 11] rfl rfl (by decide) (by decide) (by decide) hP hD hS hA (va_runV (As := []) (rest := []) ⟨hx, hb, hml, hown, hts⟩ (ct_place l H.size dC dI cI w k c0 c1 c2 st_ fm2 vl_ K A B (sp_lz k K A B z) hk hg (sp_lz_AS hAS).2.2.1 hF2 hm2) (cwV 0 hts (ub_V tm_319 tm_321 tm_s9 tm_3 tm_322) rfl rfl rfl (by decide +kernel) (by rw [hR]; exact ⟨Nat.le_of_ble_eq_true rfl, Nat.le_of_ble_eq_true rfl⟩)) (pv_wr (q0 := 0) (ci := 0) hN (hP.sub [0, 1, 2, 3, 4, 5, 6, 7] rfl) (hD.sub [0, 1, 2, 3, 4, 5, 6, 7] (by decide) rfl) rfl rfl) rfl rfl hl.1 rfl (lv_room (Nat.le_of_ble_eq_true rfl)) dX0_make_32 ⟨Nat.zero_le _, Nat.zero_le _⟩) (fun H locs hPs hj hS => ?_)
        obtain ⟨st3, vl3, hPs, hS3⟩ := hPs
        obtain ⟨hP, hD⟩ := hj (wo_A w cI k c0 c1 c2 st3 fm2 vl3) rfl hPs
        have hP := hP.sub (ws' := wo_A w cI k c0 c1 c2 st3 fm2 vl3 ++ wo_P v cI k f0 f1 f2) [4, 5, 6, 7, 8, 9, 10, 11, 0, 1, 2, 3] rfl
        have hD := hD.sub (ws' := wo_A w cI k c0 c1 c2 st3 fm2 vl3 ++ wo_P v cI k f0 f1 f2) [4, 5, 6, 7, 8, 9, 10, 11, 0, 1, 2, 3] (by decide) rfl
        have hP : va_P (dC, dI) vwCl (wo_A w cI k c0 c1 c2 st3 fm2 vl3 ++ wo_P v cI k f0 f1 f2) H := hP
        have hD : va_D A9 (wo_A w cI k c0 c1 c2 st3 fm2 vl3 ++ wo_P v cI k f0 f1 f2) := hD
        refine jn_iinc (lv' := [(2, .int (ji_n ((r : Int) + 1))), (0, .ref (w 0)), (1, .ref (v 0))]) (k := 0) (v := (r : Int) + 1) hx hb dX0_make_35 hl rfl rfl (by decide) rfl (fun ls hl => ?_)
        refine lv_goto hx hb dX0_make_38 (tgt := 18) rfl ?_
        have hl : lv_has ls 3 [(2, .int (ji_n ((r + 1 : Nat) : Int))), (0, .ref (w 0)), (1, .ref (v 0))] := by
          have hl2 := lv_sub hl (l' := [(2, .int (ji_n ((r : Int) + 1))), (0, .ref (w 0)), (1, .ref (v 0))]) [0, 1, 2] rfl
          rw [show (ji_n ((r : Int) + 1)) = (ji_n ((r + 1 : Nat) : Int)) from (congrArg ji_n (by omega))] at hl2
          exact hl2
        exact ih2 (by omega) ls hl H locs st3 fm2 vl3 hP hD hS ⟨sp_lz k K A B z, sp_lz_AS hAS, sp_lz_lw hAS hd hlw, Nat.le_trans (by omega) (sp_lz_ct (B := B) (by rcases hcg with h | h <;> omega)), hS3⟩
  have hl : lv_has ls 3 [(2, .int (ji_n ((0 : Nat) : Int))), (0, .ref (w 0)), (1, .ref (v 0))] := lv_sub hl [0, 1, 2] rfl
  exact loop1 0 (by omega) ls hl H locs st1 fm1 vl1 hP hD hS ⟨sp_z0 K A, ⟨hk, hg, sp_z0_ok hg, hu⟩, sp_z0_lw hg, Nat.zero_le _, hS1⟩
