set_option maxHeartbeats 4000000 in
set_option maxRecDepth 100000 in
theorem cc_Program (l : Launch) (size_ : Nat) (dC : Nat → ClassId) (dI : Nat → Nat → Nat) (cI : ClassId) (h : Nat) : Met l yX1_init wsX1_init { frames := 1, cells := 3, slots := 150, locals := 12 } (va_Pc [.ref h] (wr_B (dC, dI) vwCl [(h, .inr (1, [.null, .null, .null, .int 0]))] size_ (kn_K dC dI cI))) (va_Qv (S := Unit) (fun _ => True) (fun _ t => (fun (A9 : Nat → Prop) (H : Heap) => ∃ v : Nat → Nat, v 0 = h ∧ va_P (dC, dI) vwCl (wo_P v cI 0 (fun _ => (0 : Int32)) (fun _ => (0 : Int32)) (fun _ => (0 : Int32))) H ∧ va_D A9 (wo_P v cI 0 (fun _ => (0 : Int32)) (fun _ => (0 : Int32)) (fun _ => (0 : Int32)))) (va_A [(h, .inr (1, [.null, .null, .null, .int 0]))] size_) t.heap) (va_A [(h, .inr (1, [.null, .null, .null, .int 0]))] size_)) 3 150 (va_A [(h, .inr (1, [.null, .null, .null, .int 0]))] size_) := by
  refine st_cv (P := fun (A9 : Nat → Prop) (H : Heap) => ∃ v : Nat → Nat, v 0 = h ∧ va_P (dC, dI) vwCl (wo_P v cI 0 (fun _ => (0 : Int32)) (fun _ => (0 : Int32)) (fun _ => (0 : Int32))) H ∧ va_D A9 (wo_P v cI 0 (fun _ => (0 : Int32)) (fun _ => (0 : Int32)) (fun _ => (0 : Int32)))) (cc := cX1_init) (maxL := 1) (by decide) rfl (Nat.le_of_ble_eq_true rfl) (lv := [(0, .ref h)]) rfl ?_
  intro p e s m args below meth c R Q ls A9 hx hb hts hown hml hR hin hP hD hA hS hN hl hend
  have hK := hN.1
  have hoi := (hts _ (List.mem_cons_of_mem _ tm_26))
  have hoj := (hts _ (List.mem_cons_of_mem _ tm_19))
  have hok := (hts _ (List.mem_cons_of_mem _ tm_20))
  have hac := (hts _ (List.mem_cons_of_mem _ tm_45))
  have hinX1 : ∀ w ∈ u_ws RX1 TX1 4, w ∈ wsX1_init := fun w h => List.mem_cons_of_mem _ (inX1 w h)
  have hfl9 := (hts _ (List.mem_cons_of_mem _ tm_27))
  have hfl15 := (hts _ (List.mem_cons_of_mem _ tm_29))
  have hfl18 := (hts _ (List.mem_cons_of_mem _ tm_31))
  have hfl21 := (hts _ (List.mem_cons_of_mem _ tm_33))
  refine lv_aload_n hx hb dX1_init_0 rfl (lv_at hl 0 rfl) ?_
  refine W.objInit hx hb hown hoi hoj hok rfl (by rw [hml]; exact hl.1) rfl dX1_init_1 (by rw [hR]; exact Nat.le_of_ble_eq_true rfl) (by rw [hR]; exact Nat.le_of_ble_eq_true rfl) ?_
  refine W.eq (g2 := F0 m 4 ls []) rfl ?_
  refine lv_aload_n hx hb dX1_init_4 rfl (lv_at hl 0 rfl) ?_
  refine jn_bipush hx hb dX1_init_5 (by decide) ?_
  refine na_new hx hb hac hK hP hD hS hA 50 rfl (by decide) (by rw [hR]; exact Nat.le_of_ble_eq_true rfl) (by rw [hR]; exact Nat.le_of_ble_eq_true rfl) dX1_init_7 (fun a0 H hP hD hS => ?_)
  have hP : va_P (dC, dI) vwCl [(h, .inr (1, [.null, .null, .null, .int 0])), (a0, .inl (cI, 50, .inl (fun _ => (0 : Int32))))] H := hP
  have hD : va_D A9 [(h, .inr (1, [.null, .null, .null, .int 0])), (a0, .inl (cI, 50, .inl (fun _ => (0 : Int32))))] := hD
  refine W.widen (k := 1) (n := 50) (by omega) (by omega) ?_
  refine va_putF (D := (dC, dI)) (ci := 1) (v := .ref a0) (ty := (.array .int)) (C := RX1) (T := TX1) (N := 4) hx hb hts hinX1 tyX1 tyX1_ok nmX1 hown hK hP hD hS 0 rfl rfl 0 (by decide) hfl9 (fun _ h9 => h9) rfl hin rfl (by decide +kernel) rfl rfl (Nat.le_of_ble_eq_true rfl) dX1_init_9 (fun H locs hP hD hS => ?_)
  have hP : va_P (dC, dI) vwCl [(h, .inr (1, [.ref a0, .null, .null, .int 0])), (a0, .inl (cI, 50, .inl (fun _ => (0 : Int32))))] H := hP
  have hD : va_D A9 [(h, .inr (1, [.ref a0, .null, .null, .int 0])), (a0, .inl (cI, 50, .inl (fun _ => (0 : Int32))))] := hD
  refine lv_aload_n hx hb dX1_init_12 rfl (lv_at hl 0 rfl) ?_
  refine jn_bipush hx hb dX1_init_13 (by decide) ?_
  refine na_new hx hb hac hK hP hD hS hA 50 rfl (by decide) (by rw [hR]; exact Nat.le_of_ble_eq_true rfl) (by rw [hR]; exact Nat.le_of_ble_eq_true rfl) dX1_init_15 (fun a1 H hP hD hS => ?_)
  have hP : va_P (dC, dI) vwCl [(h, .inr (1, [.ref a0, .null, .null, .int 0])), (a0, .inl (cI, 50, .inl (fun _ => (0 : Int32)))), (a1, .inl (cI, 50, .inl (fun _ => (0 : Int32))))] H := hP
  have hD : va_D A9 [(h, .inr (1, [.ref a0, .null, .null, .int 0])), (a0, .inl (cI, 50, .inl (fun _ => (0 : Int32)))), (a1, .inl (cI, 50, .inl (fun _ => (0 : Int32))))] := hD
  refine W.widen (k := 2) (n := 100) (by omega) (by omega) ?_
  refine va_putF (D := (dC, dI)) (ci := 1) (v := .ref a1) (ty := (.array .int)) (C := RX1) (T := TX1) (N := 4) hx hb hts hinX1 tyX1 tyX1_ok nmX1 hown hK hP hD hS 0 rfl rfl 1 (by decide) hfl15 (fun _ h9 => h9) rfl hin rfl (by decide +kernel) rfl rfl (Nat.le_of_ble_eq_true rfl) dX1_init_17 (fun H locs hP hD hS => ?_)
  have hP : va_P (dC, dI) vwCl [(h, .inr (1, [.ref a0, .ref a1, .null, .int 0])), (a0, .inl (cI, 50, .inl (fun _ => (0 : Int32)))), (a1, .inl (cI, 50, .inl (fun _ => (0 : Int32))))] H := hP
  have hD : va_D A9 [(h, .inr (1, [.ref a0, .ref a1, .null, .int 0])), (a0, .inl (cI, 50, .inl (fun _ => (0 : Int32)))), (a1, .inl (cI, 50, .inl (fun _ => (0 : Int32))))] := hD
  refine lv_aload_n hx hb dX1_init_20 rfl (lv_at hl 0 rfl) ?_
  refine jn_bipush hx hb dX1_init_21 (by decide) ?_
  refine na_new hx hb hac hK hP hD hS hA 50 rfl (by decide) (by rw [hR]; exact Nat.le_of_ble_eq_true rfl) (by rw [hR]; exact Nat.le_of_ble_eq_true rfl) dX1_init_23 (fun a2 H hP hD hS => ?_)
  have hP : va_P (dC, dI) vwCl [(h, .inr (1, [.ref a0, .ref a1, .null, .int 0])), (a0, .inl (cI, 50, .inl (fun _ => (0 : Int32)))), (a1, .inl (cI, 50, .inl (fun _ => (0 : Int32)))), (a2, .inl (cI, 50, .inl (fun _ => (0 : Int32))))] H := hP
  have hD : va_D A9 [(h, .inr (1, [.ref a0, .ref a1, .null, .int 0])), (a0, .inl (cI, 50, .inl (fun _ => (0 : Int32)))), (a1, .inl (cI, 50, .inl (fun _ => (0 : Int32)))), (a2, .inl (cI, 50, .inl (fun _ => (0 : Int32))))] := hD
  refine W.widen (k := 3) (n := 150) (by omega) (by omega) ?_
  refine va_putF (D := (dC, dI)) (ci := 1) (v := .ref a2) (ty := (.array .int)) (C := RX1) (T := TX1) (N := 4) hx hb hts hinX1 tyX1 tyX1_ok nmX1 hown hK hP hD hS 0 rfl rfl 2 (by decide) hfl18 (fun _ h9 => h9) rfl hin rfl (by decide +kernel) rfl rfl (Nat.le_of_ble_eq_true rfl) dX1_init_25 (fun H locs hP hD hS => ?_)
  have hP : va_P (dC, dI) vwCl [(h, .inr (1, [.ref a0, .ref a1, .ref a2, .int 0])), (a0, .inl (cI, 50, .inl (fun _ => (0 : Int32)))), (a1, .inl (cI, 50, .inl (fun _ => (0 : Int32)))), (a2, .inl (cI, 50, .inl (fun _ => (0 : Int32))))] H := hP
  have hD : va_D A9 [(h, .inr (1, [.ref a0, .ref a1, .ref a2, .int 0])), (a0, .inl (cI, 50, .inl (fun _ => (0 : Int32)))), (a1, .inl (cI, 50, .inl (fun _ => (0 : Int32)))), (a2, .inl (cI, 50, .inl (fun _ => (0 : Int32))))] := hD
  refine lv_aload_n hx hb dX1_init_28 rfl (lv_at hl 0 rfl) ?_
  refine jn_iconst hx hb dX1_init_29 ?_
  refine va_put (D := (dC, dI)) (ci := 1) (v := .int (ji_n 0)) (ty := .int) (C := RX1) (T := TX1) (N := 4) hx hb hts hinX1 tyX1 tyX1_ok nmX1 hown hK hP hD hS 0 rfl rfl 3 (by decide) hfl21 (fun _ h9 => h9) rfl (by decide +kernel) rfl rfl (Nat.le_of_ble_eq_true rfl) dX1_init_30 (fun H locs hP hD hS => ?_)
  have hP : va_P (dC, dI) vwCl [(h, .inr (1, [.ref a0, .ref a1, .ref a2, .int (ji_n 0)])), (a0, .inl (cI, 50, .inl (fun _ => (0 : Int32)))), (a1, .inl (cI, 50, .inl (fun _ => (0 : Int32)))), (a2, .inl (cI, 50, .inl (fun _ => (0 : Int32))))] H := hP
  have hD : va_D A9 [(h, .inr (1, [.ref a0, .ref a1, .ref a2, .int (ji_n 0)])), (a0, .inl (cI, 50, .inl (fun _ => (0 : Int32)))), (a1, .inl (cI, 50, .inl (fun _ => (0 : Int32)))), (a2, .inl (cI, 50, .inl (fun _ => (0 : Int32))))] := hD
  exact hend _ _ _ _ dX1_init_33 ⟨fun i => [h, a0, a1, a2].getD i 0, rfl, hP, hD⟩ hS

set_option maxHeartbeats 4000000 in
set_option maxRecDepth 100000 in
theorem cc_Model (l : Launch) (size_ : Nat) (dC : Nat → ClassId) (dI : Nat → Nat → Nat) (cI : ClassId) (h : Nat) : Met l yX3_init wsX3_init { frames := 1, cells := 7, slots := 350, locals := 12 } (va_Pc [.ref h] (wr_B (dC, dI) vwCl [(h, .inr (3, [.int 0, .int 0, .null, .null, .null, .int 0, .null, .null, .null, .null, .int 0]))] size_ (kn_K dC dI cI))) (va_Qv (S := Unit) (fun _ => True) (fun _ t => (fun (A9 : Nat → Prop) (H : Heap) => ∃ v : Nat → Nat, v 0 = h ∧ va_P (dC, dI) vwCl (wo_M v cI 0 ((0 : Nat) : Int) ((0 : Nat) : Int) 0 (fun _ => (0 : Int32)) (fun _ => (0 : Int32)) (fun _ => (0 : Int32)) (fun _ => (0 : Int32)) (fun _ => (0 : Int32)) (fun _ => (0 : Int32)) (fun _ => (0 : Int32))) H ∧ va_D A9 (wo_M v cI 0 ((0 : Nat) : Int) ((0 : Nat) : Int) 0 (fun _ => (0 : Int32)) (fun _ => (0 : Int32)) (fun _ => (0 : Int32)) (fun _ => (0 : Int32)) (fun _ => (0 : Int32)) (fun _ => (0 : Int32)) (fun _ => (0 : Int32)))) (va_A [(h, .inr (3, [.int 0, .int 0, .null, .null, .null, .int 0, .null, .null, .null, .null, .int 0]))] size_) t.heap) (va_A [(h, .inr (3, [.int 0, .int 0, .null, .null, .null, .int 0, .null, .null, .null, .null, .int 0]))] size_)) 7 350 (va_A [(h, .inr (3, [.int 0, .int 0, .null, .null, .null, .int 0, .null, .null, .null, .null, .int 0]))] size_) := by
  refine st_cv (P := fun (A9 : Nat → Prop) (H : Heap) => ∃ v : Nat → Nat, v 0 = h ∧ va_P (dC, dI) vwCl (wo_M v cI 0 ((0 : Nat) : Int) ((0 : Nat) : Int) 0 (fun _ => (0 : Int32)) (fun _ => (0 : Int32)) (fun _ => (0 : Int32)) (fun _ => (0 : Int32)) (fun _ => (0 : Int32)) (fun _ => (0 : Int32)) (fun _ => (0 : Int32))) H ∧ va_D A9 (wo_M v cI 0 ((0 : Nat) : Int) ((0 : Nat) : Int) 0 (fun _ => (0 : Int32)) (fun _ => (0 : Int32)) (fun _ => (0 : Int32)) (fun _ => (0 : Int32)) (fun _ => (0 : Int32)) (fun _ => (0 : Int32)) (fun _ => (0 : Int32)))) (cc := cX3_init) (maxL := 1) (by decide) rfl (Nat.le_of_ble_eq_true rfl) (lv := [(0, .ref h)]) rfl ?_
  intro p e s m args below meth c R Q ls A9 hx hb hts hown hml hR hin hP hD hA hS hN hl hend
  have hK := hN.1
  have hoi := (hts _ (List.mem_cons_of_mem _ tm_357))
  have hoj := (hts _ (List.mem_cons_of_mem _ tm_19))
  have hok := (hts _ (List.mem_cons_of_mem _ tm_20))
  have hac := (hts _ (List.mem_cons_of_mem _ tm_45))
  have hinX3 : ∀ w ∈ u_ws RX3 TX3 11, w ∈ wsX3_init := fun w h => List.mem_cons_of_mem _ (inX3 w h)
  have hfl7 := (hts _ (List.mem_cons_of_mem _ tm_360))
  have hfl13 := (hts _ (List.mem_cons_of_mem _ tm_361))
  have hfl16 := (hts _ (List.mem_cons_of_mem _ tm_362))
  have hfl19 := (hts _ (List.mem_cons_of_mem _ tm_364))
  have hfl22 := (hts _ (List.mem_cons_of_mem _ tm_365))
  have hfl25 := (hts _ (List.mem_cons_of_mem _ tm_366))
  have hfl28 := (hts _ (List.mem_cons_of_mem _ tm_367))
  refine lv_aload_n hx hb dX3_init_0 rfl (lv_at hl 0 rfl) ?_
  refine W.objInit hx hb hown hoi hoj hok rfl (by rw [hml]; exact hl.1) rfl dX3_init_1 (by rw [hR]; exact Nat.le_of_ble_eq_true rfl) (by rw [hR]; exact Nat.le_of_ble_eq_true rfl) ?_
  refine W.eq (g2 := F0 m 4 ls []) rfl ?_
  refine lv_aload_n hx hb dX3_init_4 rfl (lv_at hl 0 rfl) ?_
  refine jn_bipush hx hb dX3_init_5 (by decide) ?_
  refine na_new hx hb hac hK hP hD hS hA 50 rfl (by decide) (by rw [hR]; exact Nat.le_of_ble_eq_true rfl) (by rw [hR]; exact Nat.le_of_ble_eq_true rfl) dX3_init_7 (fun a0 H hP hD hS => ?_)
  have hP : va_P (dC, dI) vwCl [(h, .inr (3, [.int 0, .int 0, .null, .null, .null, .int 0, .null, .null, .null, .null, .int 0])), (a0, .inl (cI, 50, .inl (fun _ => (0 : Int32))))] H := hP
  have hD : va_D A9 [(h, .inr (3, [.int 0, .int 0, .null, .null, .null, .int 0, .null, .null, .null, .null, .int 0])), (a0, .inl (cI, 50, .inl (fun _ => (0 : Int32))))] := hD
  refine W.widen (k := 1) (n := 50) (by omega) (by omega) ?_
  refine va_putF (D := (dC, dI)) (ci := 3) (v := .ref a0) (ty := (.array .int)) (C := RX3) (T := TX3) (N := 11) hx hb hts hinX3 tyX3 tyX3_ok nmX3 hown hK hP hD hS 0 rfl rfl 2 (by decide) hfl7 (fun _ h9 => h9) rfl hin rfl (by decide +kernel) rfl rfl (Nat.le_of_ble_eq_true rfl) dX3_init_9 (fun H locs hP hD hS => ?_)
  have hP : va_P (dC, dI) vwCl [(h, .inr (3, [.int 0, .int 0, .ref a0, .null, .null, .int 0, .null, .null, .null, .null, .int 0])), (a0, .inl (cI, 50, .inl (fun _ => (0 : Int32))))] H := hP
  have hD : va_D A9 [(h, .inr (3, [.int 0, .int 0, .ref a0, .null, .null, .int 0, .null, .null, .null, .null, .int 0])), (a0, .inl (cI, 50, .inl (fun _ => (0 : Int32))))] := hD
  refine lv_aload_n hx hb dX3_init_12 rfl (lv_at hl 0 rfl) ?_
  refine jn_bipush hx hb dX3_init_13 (by decide) ?_
  refine na_new hx hb hac hK hP hD hS hA 50 rfl (by decide) (by rw [hR]; exact Nat.le_of_ble_eq_true rfl) (by rw [hR]; exact Nat.le_of_ble_eq_true rfl) dX3_init_15 (fun a1 H hP hD hS => ?_)
  have hP : va_P (dC, dI) vwCl [(h, .inr (3, [.int 0, .int 0, .ref a0, .null, .null, .int 0, .null, .null, .null, .null, .int 0])), (a0, .inl (cI, 50, .inl (fun _ => (0 : Int32)))), (a1, .inl (cI, 50, .inl (fun _ => (0 : Int32))))] H := hP
  have hD : va_D A9 [(h, .inr (3, [.int 0, .int 0, .ref a0, .null, .null, .int 0, .null, .null, .null, .null, .int 0])), (a0, .inl (cI, 50, .inl (fun _ => (0 : Int32)))), (a1, .inl (cI, 50, .inl (fun _ => (0 : Int32))))] := hD
  refine W.widen (k := 2) (n := 100) (by omega) (by omega) ?_
  refine va_putF (D := (dC, dI)) (ci := 3) (v := .ref a1) (ty := (.array .int)) (C := RX3) (T := TX3) (N := 11) hx hb hts hinX3 tyX3 tyX3_ok nmX3 hown hK hP hD hS 0 rfl rfl 3 (by decide) hfl13 (fun _ h9 => h9) rfl hin rfl (by decide +kernel) rfl rfl (Nat.le_of_ble_eq_true rfl) dX3_init_17 (fun H locs hP hD hS => ?_)
  have hP : va_P (dC, dI) vwCl [(h, .inr (3, [.int 0, .int 0, .ref a0, .ref a1, .null, .int 0, .null, .null, .null, .null, .int 0])), (a0, .inl (cI, 50, .inl (fun _ => (0 : Int32)))), (a1, .inl (cI, 50, .inl (fun _ => (0 : Int32))))] H := hP
  have hD : va_D A9 [(h, .inr (3, [.int 0, .int 0, .ref a0, .ref a1, .null, .int 0, .null, .null, .null, .null, .int 0])), (a0, .inl (cI, 50, .inl (fun _ => (0 : Int32)))), (a1, .inl (cI, 50, .inl (fun _ => (0 : Int32))))] := hD
  refine lv_aload_n hx hb dX3_init_20 rfl (lv_at hl 0 rfl) ?_
  refine jn_bipush hx hb dX3_init_21 (by decide) ?_
  refine na_new hx hb hac hK hP hD hS hA 50 rfl (by decide) (by rw [hR]; exact Nat.le_of_ble_eq_true rfl) (by rw [hR]; exact Nat.le_of_ble_eq_true rfl) dX3_init_23 (fun a2 H hP hD hS => ?_)
  have hP : va_P (dC, dI) vwCl [(h, .inr (3, [.int 0, .int 0, .ref a0, .ref a1, .null, .int 0, .null, .null, .null, .null, .int 0])), (a0, .inl (cI, 50, .inl (fun _ => (0 : Int32)))), (a1, .inl (cI, 50, .inl (fun _ => (0 : Int32)))), (a2, .inl (cI, 50, .inl (fun _ => (0 : Int32))))] H := hP
  have hD : va_D A9 [(h, .inr (3, [.int 0, .int 0, .ref a0, .ref a1, .null, .int 0, .null, .null, .null, .null, .int 0])), (a0, .inl (cI, 50, .inl (fun _ => (0 : Int32)))), (a1, .inl (cI, 50, .inl (fun _ => (0 : Int32)))), (a2, .inl (cI, 50, .inl (fun _ => (0 : Int32))))] := hD
  refine W.widen (k := 3) (n := 150) (by omega) (by omega) ?_
  refine va_putF (D := (dC, dI)) (ci := 3) (v := .ref a2) (ty := (.array .int)) (C := RX3) (T := TX3) (N := 11) hx hb hts hinX3 tyX3 tyX3_ok nmX3 hown hK hP hD hS 0 rfl rfl 4 (by decide) hfl16 (fun _ h9 => h9) rfl hin rfl (by decide +kernel) rfl rfl (Nat.le_of_ble_eq_true rfl) dX3_init_25 (fun H locs hP hD hS => ?_)
  have hP : va_P (dC, dI) vwCl [(h, .inr (3, [.int 0, .int 0, .ref a0, .ref a1, .ref a2, .int 0, .null, .null, .null, .null, .int 0])), (a0, .inl (cI, 50, .inl (fun _ => (0 : Int32)))), (a1, .inl (cI, 50, .inl (fun _ => (0 : Int32)))), (a2, .inl (cI, 50, .inl (fun _ => (0 : Int32))))] H := hP
  have hD : va_D A9 [(h, .inr (3, [.int 0, .int 0, .ref a0, .ref a1, .ref a2, .int 0, .null, .null, .null, .null, .int 0])), (a0, .inl (cI, 50, .inl (fun _ => (0 : Int32)))), (a1, .inl (cI, 50, .inl (fun _ => (0 : Int32)))), (a2, .inl (cI, 50, .inl (fun _ => (0 : Int32))))] := hD
  refine lv_aload_n hx hb dX3_init_28 rfl (lv_at hl 0 rfl) ?_
  refine jn_bipush hx hb dX3_init_29 (by decide) ?_
  refine na_new hx hb hac hK hP hD hS hA 50 rfl (by decide) (by rw [hR]; exact Nat.le_of_ble_eq_true rfl) (by rw [hR]; exact Nat.le_of_ble_eq_true rfl) dX3_init_31 (fun a3 H hP hD hS => ?_)
  have hP : va_P (dC, dI) vwCl [(h, .inr (3, [.int 0, .int 0, .ref a0, .ref a1, .ref a2, .int 0, .null, .null, .null, .null, .int 0])), (a0, .inl (cI, 50, .inl (fun _ => (0 : Int32)))), (a1, .inl (cI, 50, .inl (fun _ => (0 : Int32)))), (a2, .inl (cI, 50, .inl (fun _ => (0 : Int32)))), (a3, .inl (cI, 50, .inl (fun _ => (0 : Int32))))] H := hP
  have hD : va_D A9 [(h, .inr (3, [.int 0, .int 0, .ref a0, .ref a1, .ref a2, .int 0, .null, .null, .null, .null, .int 0])), (a0, .inl (cI, 50, .inl (fun _ => (0 : Int32)))), (a1, .inl (cI, 50, .inl (fun _ => (0 : Int32)))), (a2, .inl (cI, 50, .inl (fun _ => (0 : Int32)))), (a3, .inl (cI, 50, .inl (fun _ => (0 : Int32))))] := hD
  refine W.widen (k := 4) (n := 200) (by omega) (by omega) ?_
  refine va_putF (D := (dC, dI)) (ci := 3) (v := .ref a3) (ty := (.array .int)) (C := RX3) (T := TX3) (N := 11) hx hb hts hinX3 tyX3 tyX3_ok nmX3 hown hK hP hD hS 0 rfl rfl 6 (by decide) hfl19 (fun _ h9 => h9) rfl hin rfl (by decide +kernel) rfl rfl (Nat.le_of_ble_eq_true rfl) dX3_init_33 (fun H locs hP hD hS => ?_)
  have hP : va_P (dC, dI) vwCl [(h, .inr (3, [.int 0, .int 0, .ref a0, .ref a1, .ref a2, .int 0, .ref a3, .null, .null, .null, .int 0])), (a0, .inl (cI, 50, .inl (fun _ => (0 : Int32)))), (a1, .inl (cI, 50, .inl (fun _ => (0 : Int32)))), (a2, .inl (cI, 50, .inl (fun _ => (0 : Int32)))), (a3, .inl (cI, 50, .inl (fun _ => (0 : Int32))))] H := hP
  have hD : va_D A9 [(h, .inr (3, [.int 0, .int 0, .ref a0, .ref a1, .ref a2, .int 0, .ref a3, .null, .null, .null, .int 0])), (a0, .inl (cI, 50, .inl (fun _ => (0 : Int32)))), (a1, .inl (cI, 50, .inl (fun _ => (0 : Int32)))), (a2, .inl (cI, 50, .inl (fun _ => (0 : Int32)))), (a3, .inl (cI, 50, .inl (fun _ => (0 : Int32))))] := hD
  refine lv_aload_n hx hb dX3_init_36 rfl (lv_at hl 0 rfl) ?_
  refine jn_bipush hx hb dX3_init_37 (by decide) ?_
  refine na_new hx hb hac hK hP hD hS hA 50 rfl (by decide) (by rw [hR]; exact Nat.le_of_ble_eq_true rfl) (by rw [hR]; exact Nat.le_of_ble_eq_true rfl) dX3_init_39 (fun a4 H hP hD hS => ?_)
  have hP : va_P (dC, dI) vwCl [(h, .inr (3, [.int 0, .int 0, .ref a0, .ref a1, .ref a2, .int 0, .ref a3, .null, .null, .null, .int 0])), (a0, .inl (cI, 50, .inl (fun _ => (0 : Int32)))), (a1, .inl (cI, 50, .inl (fun _ => (0 : Int32)))), (a2, .inl (cI, 50, .inl (fun _ => (0 : Int32)))), (a3, .inl (cI, 50, .inl (fun _ => (0 : Int32)))), (a4, .inl (cI, 50, .inl (fun _ => (0 : Int32))))] H := hP
  have hD : va_D A9 [(h, .inr (3, [.int 0, .int 0, .ref a0, .ref a1, .ref a2, .int 0, .ref a3, .null, .null, .null, .int 0])), (a0, .inl (cI, 50, .inl (fun _ => (0 : Int32)))), (a1, .inl (cI, 50, .inl (fun _ => (0 : Int32)))), (a2, .inl (cI, 50, .inl (fun _ => (0 : Int32)))), (a3, .inl (cI, 50, .inl (fun _ => (0 : Int32)))), (a4, .inl (cI, 50, .inl (fun _ => (0 : Int32))))] := hD
  refine W.widen (k := 5) (n := 250) (by omega) (by omega) ?_
  refine va_putF (D := (dC, dI)) (ci := 3) (v := .ref a4) (ty := (.array .int)) (C := RX3) (T := TX3) (N := 11) hx hb hts hinX3 tyX3 tyX3_ok nmX3 hown hK hP hD hS 0 rfl rfl 7 (by decide) hfl22 (fun _ h9 => h9) rfl hin rfl (by decide +kernel) rfl rfl (Nat.le_of_ble_eq_true rfl) dX3_init_41 (fun H locs hP hD hS => ?_)
  have hP : va_P (dC, dI) vwCl [(h, .inr (3, [.int 0, .int 0, .ref a0, .ref a1, .ref a2, .int 0, .ref a3, .ref a4, .null, .null, .int 0])), (a0, .inl (cI, 50, .inl (fun _ => (0 : Int32)))), (a1, .inl (cI, 50, .inl (fun _ => (0 : Int32)))), (a2, .inl (cI, 50, .inl (fun _ => (0 : Int32)))), (a3, .inl (cI, 50, .inl (fun _ => (0 : Int32)))), (a4, .inl (cI, 50, .inl (fun _ => (0 : Int32))))] H := hP
  have hD : va_D A9 [(h, .inr (3, [.int 0, .int 0, .ref a0, .ref a1, .ref a2, .int 0, .ref a3, .ref a4, .null, .null, .int 0])), (a0, .inl (cI, 50, .inl (fun _ => (0 : Int32)))), (a1, .inl (cI, 50, .inl (fun _ => (0 : Int32)))), (a2, .inl (cI, 50, .inl (fun _ => (0 : Int32)))), (a3, .inl (cI, 50, .inl (fun _ => (0 : Int32)))), (a4, .inl (cI, 50, .inl (fun _ => (0 : Int32))))] := hD
  refine lv_aload_n hx hb dX3_init_44 rfl (lv_at hl 0 rfl) ?_
  refine jn_bipush hx hb dX3_init_45 (by decide) ?_
  refine na_new hx hb hac hK hP hD hS hA 50 rfl (by decide) (by rw [hR]; exact Nat.le_of_ble_eq_true rfl) (by rw [hR]; exact Nat.le_of_ble_eq_true rfl) dX3_init_47 (fun a5 H hP hD hS => ?_)
  have hP : va_P (dC, dI) vwCl [(h, .inr (3, [.int 0, .int 0, .ref a0, .ref a1, .ref a2, .int 0, .ref a3, .ref a4, .null, .null, .int 0])), (a0, .inl (cI, 50, .inl (fun _ => (0 : Int32)))), (a1, .inl (cI, 50, .inl (fun _ => (0 : Int32)))), (a2, .inl (cI, 50, .inl (fun _ => (0 : Int32)))), (a3, .inl (cI, 50, .inl (fun _ => (0 : Int32)))), (a4, .inl (cI, 50, .inl (fun _ => (0 : Int32)))), (a5, .inl (cI, 50, .inl (fun _ => (0 : Int32))))] H := hP
  have hD : va_D A9 [(h, .inr (3, [.int 0, .int 0, .ref a0, .ref a1, .ref a2, .int 0, .ref a3, .ref a4, .null, .null, .int 0])), (a0, .inl (cI, 50, .inl (fun _ => (0 : Int32)))), (a1, .inl (cI, 50, .inl (fun _ => (0 : Int32)))), (a2, .inl (cI, 50, .inl (fun _ => (0 : Int32)))), (a3, .inl (cI, 50, .inl (fun _ => (0 : Int32)))), (a4, .inl (cI, 50, .inl (fun _ => (0 : Int32)))), (a5, .inl (cI, 50, .inl (fun _ => (0 : Int32))))] := hD
  refine W.widen (k := 6) (n := 300) (by omega) (by omega) ?_
  refine va_putF (D := (dC, dI)) (ci := 3) (v := .ref a5) (ty := (.array .int)) (C := RX3) (T := TX3) (N := 11) hx hb hts hinX3 tyX3 tyX3_ok nmX3 hown hK hP hD hS 0 rfl rfl 8 (by decide) hfl25 (fun _ h9 => h9) rfl hin rfl (by decide +kernel) rfl rfl (Nat.le_of_ble_eq_true rfl) dX3_init_49 (fun H locs hP hD hS => ?_)
  have hP : va_P (dC, dI) vwCl [(h, .inr (3, [.int 0, .int 0, .ref a0, .ref a1, .ref a2, .int 0, .ref a3, .ref a4, .ref a5, .null, .int 0])), (a0, .inl (cI, 50, .inl (fun _ => (0 : Int32)))), (a1, .inl (cI, 50, .inl (fun _ => (0 : Int32)))), (a2, .inl (cI, 50, .inl (fun _ => (0 : Int32)))), (a3, .inl (cI, 50, .inl (fun _ => (0 : Int32)))), (a4, .inl (cI, 50, .inl (fun _ => (0 : Int32)))), (a5, .inl (cI, 50, .inl (fun _ => (0 : Int32))))] H := hP
  have hD : va_D A9 [(h, .inr (3, [.int 0, .int 0, .ref a0, .ref a1, .ref a2, .int 0, .ref a3, .ref a4, .ref a5, .null, .int 0])), (a0, .inl (cI, 50, .inl (fun _ => (0 : Int32)))), (a1, .inl (cI, 50, .inl (fun _ => (0 : Int32)))), (a2, .inl (cI, 50, .inl (fun _ => (0 : Int32)))), (a3, .inl (cI, 50, .inl (fun _ => (0 : Int32)))), (a4, .inl (cI, 50, .inl (fun _ => (0 : Int32)))), (a5, .inl (cI, 50, .inl (fun _ => (0 : Int32))))] := hD
  refine lv_aload_n hx hb dX3_init_52 rfl (lv_at hl 0 rfl) ?_
  refine jn_bipush hx hb dX3_init_53 (by decide) ?_
  refine na_new hx hb hac hK hP hD hS hA 50 rfl (by decide) (by rw [hR]; exact Nat.le_of_ble_eq_true rfl) (by rw [hR]; exact Nat.le_of_ble_eq_true rfl) dX3_init_55 (fun a6 H hP hD hS => ?_)
  have hP : va_P (dC, dI) vwCl [(h, .inr (3, [.int 0, .int 0, .ref a0, .ref a1, .ref a2, .int 0, .ref a3, .ref a4, .ref a5, .null, .int 0])), (a0, .inl (cI, 50, .inl (fun _ => (0 : Int32)))), (a1, .inl (cI, 50, .inl (fun _ => (0 : Int32)))), (a2, .inl (cI, 50, .inl (fun _ => (0 : Int32)))), (a3, .inl (cI, 50, .inl (fun _ => (0 : Int32)))), (a4, .inl (cI, 50, .inl (fun _ => (0 : Int32)))), (a5, .inl (cI, 50, .inl (fun _ => (0 : Int32)))), (a6, .inl (cI, 50, .inl (fun _ => (0 : Int32))))] H := hP
  have hD : va_D A9 [(h, .inr (3, [.int 0, .int 0, .ref a0, .ref a1, .ref a2, .int 0, .ref a3, .ref a4, .ref a5, .null, .int 0])), (a0, .inl (cI, 50, .inl (fun _ => (0 : Int32)))), (a1, .inl (cI, 50, .inl (fun _ => (0 : Int32)))), (a2, .inl (cI, 50, .inl (fun _ => (0 : Int32)))), (a3, .inl (cI, 50, .inl (fun _ => (0 : Int32)))), (a4, .inl (cI, 50, .inl (fun _ => (0 : Int32)))), (a5, .inl (cI, 50, .inl (fun _ => (0 : Int32)))), (a6, .inl (cI, 50, .inl (fun _ => (0 : Int32))))] := hD
  refine W.widen (k := 7) (n := 350) (by omega) (by omega) ?_
  refine va_putF (D := (dC, dI)) (ci := 3) (v := .ref a6) (ty := (.array .int)) (C := RX3) (T := TX3) (N := 11) hx hb hts hinX3 tyX3 tyX3_ok nmX3 hown hK hP hD hS 0 rfl rfl 9 (by decide) hfl28 (fun _ h9 => h9) rfl hin rfl (by decide +kernel) rfl rfl (Nat.le_of_ble_eq_true rfl) dX3_init_57 (fun H locs hP hD hS => ?_)
  have hP : va_P (dC, dI) vwCl [(h, .inr (3, [.int 0, .int 0, .ref a0, .ref a1, .ref a2, .int 0, .ref a3, .ref a4, .ref a5, .ref a6, .int 0])), (a0, .inl (cI, 50, .inl (fun _ => (0 : Int32)))), (a1, .inl (cI, 50, .inl (fun _ => (0 : Int32)))), (a2, .inl (cI, 50, .inl (fun _ => (0 : Int32)))), (a3, .inl (cI, 50, .inl (fun _ => (0 : Int32)))), (a4, .inl (cI, 50, .inl (fun _ => (0 : Int32)))), (a5, .inl (cI, 50, .inl (fun _ => (0 : Int32)))), (a6, .inl (cI, 50, .inl (fun _ => (0 : Int32))))] H := hP
  have hD : va_D A9 [(h, .inr (3, [.int 0, .int 0, .ref a0, .ref a1, .ref a2, .int 0, .ref a3, .ref a4, .ref a5, .ref a6, .int 0])), (a0, .inl (cI, 50, .inl (fun _ => (0 : Int32)))), (a1, .inl (cI, 50, .inl (fun _ => (0 : Int32)))), (a2, .inl (cI, 50, .inl (fun _ => (0 : Int32)))), (a3, .inl (cI, 50, .inl (fun _ => (0 : Int32)))), (a4, .inl (cI, 50, .inl (fun _ => (0 : Int32)))), (a5, .inl (cI, 50, .inl (fun _ => (0 : Int32)))), (a6, .inl (cI, 50, .inl (fun _ => (0 : Int32))))] := hD
  exact hend _ _ _ _ dX3_init_60 ⟨fun i => [h, a0, a1, a2, a3, a4, a5, a6].getD i 0, rfl, hP, hD⟩ hS

set_option maxHeartbeats 4000000 in
set_option maxRecDepth 100000 in
theorem cc_Assembly (l : Launch) (size_ : Nat) (dC : Nat → ClassId) (dI : Nat → Nat → Nat) (cI : ClassId) (h : Nat) : Met l yX0_init wsX0_init { frames := 2, cells := 7, slots := 271, locals := 32 } (va_Pc [.ref h] (wr_B (dC, dI) vwCl [(h, .inr (0, [.null, .null, .null, .null]))] size_ (kn_K dC dI cI))) (va_Qv (S := Unit) (fun _ => True) (fun _ t => (fun (A9 : Nat → Prop) (H : Heap) => ∃ (w : Nat → Nat) (vl : Nat → Int32), w 0 = h ∧ va_P (dC, dI) vwCl (wo_A w cI 0 (fun _ => (0 : Int32)) (fun _ => (0 : Int32)) (fun _ => (0 : Int32)) (fun _ => (0 : Int32)) (fun _ => (0 : Int32)) vl) H ∧ va_D A9 (wo_A w cI 0 (fun _ => (0 : Int32)) (fun _ => (0 : Int32)) (fun _ => (0 : Int32)) (fun _ => (0 : Int32)) (fun _ => (0 : Int32)) vl) ∧ ∀ j, j < 16 → vl j = ji_n (-1)) (va_A [(h, .inr (0, [.null, .null, .null, .null]))] size_) t.heap) (va_A [(h, .inr (0, [.null, .null, .null, .null]))] size_)) 7 271 (va_A [(h, .inr (0, [.null, .null, .null, .null]))] size_) := by
  refine st_cv (P := fun (A9 : Nat → Prop) (H : Heap) => ∃ (w : Nat → Nat) (vl : Nat → Int32), w 0 = h ∧ va_P (dC, dI) vwCl (wo_A w cI 0 (fun _ => (0 : Int32)) (fun _ => (0 : Int32)) (fun _ => (0 : Int32)) (fun _ => (0 : Int32)) (fun _ => (0 : Int32)) vl) H ∧ va_D A9 (wo_A w cI 0 (fun _ => (0 : Int32)) (fun _ => (0 : Int32)) (fun _ => (0 : Int32)) (fun _ => (0 : Int32)) (fun _ => (0 : Int32)) vl) ∧ ∀ j, j < 16 → vl j = ji_n (-1)) (cc := cX0_init) (maxL := 1) (by decide) rfl (Nat.le_of_ble_eq_true rfl) (lv := [(0, .ref h)]) rfl ?_
  intro p e s m args below meth c R Q ls A9 hx hb hts hown hml hR hin hP hD hA hS hN hl hend
  have hK := hN.1
  have hoi := (hts _ (List.mem_cons_of_mem _ tm_51))
  have hoj := (hts _ (List.mem_cons_of_mem _ tm_19))
  have hok := (hts _ (List.mem_cons_of_mem _ tm_20))
  have hinX1 : ∀ w ∈ u_ws RX1 TX1 4, w ∈ wsX0_init := fun w h => List.mem_cons_of_mem _ (inX1 w h)
  have hinX0 : ∀ w ∈ u_ws RX0 TX0 4, w ∈ wsX0_init := fun w h => List.mem_cons_of_mem _ (inX0 w h)
  have hfl12 := (hts _ (List.mem_cons_of_mem _ tm_57))
  have hac := (hts _ (List.mem_cons_of_mem _ tm_45))
  have hfl18 := (hts _ (List.mem_cons_of_mem _ tm_59))
  have hfl22 := (hts _ (List.mem_cons_of_mem _ tm_61))
  have hfl25 := (hts _ (List.mem_cons_of_mem _ tm_63))
  refine lv_aload_n hx hb dX0_init_0 rfl (lv_at hl 0 rfl) ?_
  refine W.objInit hx hb hown hoi hoj hok rfl (by rw [hml]; exact hl.1) rfl dX0_init_1 (by rw [hR]; exact Nat.le_of_ble_eq_true rfl) (by rw [hR]; exact Nat.le_of_ble_eq_true rfl) ?_
  refine W.eq (g2 := F0 m 4 ls []) rfl ?_
  refine lv_aload_n hx hb dX0_init_4 rfl (lv_at hl 0 rfl) ?_
  refine va_new (ci := 1) (fs := [.null, .null, .null, .int 0]) (C := RX1) (T := TX1) (N := 4) hx hb hts hinX1 tyX1 tyX1_ok hown (hts _ (List.mem_cons_of_mem _ tm_52)) (hts _ (List.mem_cons_of_mem _ tm_22)) (hts _ (List.mem_cons_of_mem _ tm_2)) hK hP hD hS hA rfl (fun j hj => by rcases (show j = 0 ∨ j = 1 ∨ j = 2 ∨ j = 3 by omega) with rfl | rfl | rfl | rfl <;> rfl) (by rw [hR]; exact Nat.le_of_ble_eq_true rfl) (by rw [hR]; exact Nat.le_of_ble_eq_true rfl) dX0_init_5 (fun q5 H hP hD hS => ?_)
  have hP : va_P (dC, dI) vwCl [(h, .inr (0, [.null, .null, .null, .null])), (q5, .inr (1, [.null, .null, .null, .int 0]))] H := hP
  have hD : va_D A9 [(h, .inr (0, [.null, .null, .null, .null])), (q5, .inr (1, [.null, .null, .null, .int 0]))] := hD
  refine W.widen (k := 1) (n := 4) (by omega) (by omega) ?_
  refine lv_dup hx hb dX0_init_8 rfl ?_
  have hFc := va_free (wc := [(q5, .inr (1, [.null, .null, .null, .int 0]))]) hD hS hA [1] rfl
  refine va_callv (va_runI (As := []) (rest := [.ref q5, .ref h]) ⟨hx, hb, hml, hown, hts⟩ (cc_Program l H.size dC dI cI q5) (cwI 0 hts (ub_I tm_25) rfl rfl rfl (hts _ (List.mem_cons_of_mem _ tm_2)) (hts _ (List.mem_cons_of_mem _ tm_53)) (hts _ (List.mem_cons_of_mem _ tm_24)) rfl (by decide +kernel) (by rw [hR]; exact ⟨Nat.le_of_ble_eq_true rfl, Nat.le_of_ble_eq_true rfl⟩)) (ps_wr hN (hP.sub [1] rfl) (hD.sub [1] (by decide) rfl)) rfl rfl hl.1 rfl (lv_room (Nat.le_of_ble_eq_true rfl)) dX0_init_9 (by rw [hR]; exact ⟨Nat.le_of_ble_eq_true rfl, Nat.le_of_ble_eq_true rfl⟩)) hS (fun q _ h => hFc q h) hFc (fun u9 t9 H1 locs ht hvm hw hB hz1 hk1 hS => ?_)
  obtain ⟨v, hv0, hP1, hD1⟩ := hB
  subst hv0
  rw [ht] at hP1
  obtain ⟨hP, hD⟩ := va_join (wr := [(h, .inr (0, [.null, .null, .null, .null]))]) hP hD [1] [0] rfl rfl (by decide) (by decide) hk1 hFc hP1 hD1
  generalize H1 = H at hP hS ⊢
  have hP : va_P (dC, dI) vwCl [(h, .inr (0, [.null, .null, .null, .null])), (v 0, .inr (1, [.ref (v 1), .ref (v 2), .ref (v 3), .int (ji_n ((0 : Nat) : Int))])), (v 1, .inl (cI, 50, .inl (fun _ => (0 : Int32)))), (v 2, .inl (cI, 50, .inl (fun _ => (0 : Int32)))), (v 3, .inl (cI, 50, .inl (fun _ => (0 : Int32))))] H := hP
  have hD : va_D A9 [(h, .inr (0, [.null, .null, .null, .null])), (v 0, .inr (1, [.ref (v 1), .ref (v 2), .ref (v 3), .int (ji_n ((0 : Nat) : Int))])), (v 1, .inl (cI, 50, .inl (fun _ => (0 : Int32)))), (v 2, .inl (cI, 50, .inl (fun _ => (0 : Int32)))), (v 3, .inl (cI, 50, .inl (fun _ => (0 : Int32))))] := hD
  refine W.widen (k := 4) (n := 154) (by omega) (by omega) ?_
  refine va_putF (D := (dC, dI)) (ci := 0) (v := .ref (v 0)) (ty := (.object "SpanDesk$Program")) (C := RX0) (T := TX0) (N := 4) hx hb hts hinX0 tyX0 tyX0_ok nmX0 hown hK hP hD hS 0 rfl rfl 0 (by decide) hfl12 (fun _ h9 => h9) rfl hin rfl (by decide +kernel) rfl rfl (Nat.le_of_ble_eq_true rfl) dX0_init_12 (fun H locs hP hD hS => ?_)
  have hP : va_P (dC, dI) vwCl [(h, .inr (0, [.ref (v 0), .null, .null, .null])), (v 0, .inr (1, [.ref (v 1), .ref (v 2), .ref (v 3), .int (ji_n ((0 : Nat) : Int))])), (v 1, .inl (cI, 50, .inl (fun _ => (0 : Int32)))), (v 2, .inl (cI, 50, .inl (fun _ => (0 : Int32)))), (v 3, .inl (cI, 50, .inl (fun _ => (0 : Int32))))] H := hP
  have hD : va_D A9 [(h, .inr (0, [.ref (v 0), .null, .null, .null])), (v 0, .inr (1, [.ref (v 1), .ref (v 2), .ref (v 3), .int (ji_n ((0 : Nat) : Int))])), (v 1, .inl (cI, 50, .inl (fun _ => (0 : Int32)))), (v 2, .inl (cI, 50, .inl (fun _ => (0 : Int32)))), (v 3, .inl (cI, 50, .inl (fun _ => (0 : Int32))))] := hD
  refine lv_aload_n hx hb dX0_init_15 rfl (lv_at hl 0 rfl) ?_
  refine jn_bipush hx hb dX0_init_16 (by decide) ?_
  refine na_new hx hb hac hK hP hD hS hA 51 rfl (by decide) (by rw [hR]; exact Nat.le_of_ble_eq_true rfl) (by rw [hR]; exact Nat.le_of_ble_eq_true rfl) dX0_init_18 (fun t0 H hP hD hS => ?_)
  have hP : va_P (dC, dI) vwCl [(h, .inr (0, [.ref (v 0), .null, .null, .null])), (v 0, .inr (1, [.ref (v 1), .ref (v 2), .ref (v 3), .int (ji_n ((0 : Nat) : Int))])), (v 1, .inl (cI, 50, .inl (fun _ => (0 : Int32)))), (v 2, .inl (cI, 50, .inl (fun _ => (0 : Int32)))), (v 3, .inl (cI, 50, .inl (fun _ => (0 : Int32)))), (t0, .inl (cI, 51, .inl (fun _ => (0 : Int32))))] H := hP
  have hD : va_D A9 [(h, .inr (0, [.ref (v 0), .null, .null, .null])), (v 0, .inr (1, [.ref (v 1), .ref (v 2), .ref (v 3), .int (ji_n ((0 : Nat) : Int))])), (v 1, .inl (cI, 50, .inl (fun _ => (0 : Int32)))), (v 2, .inl (cI, 50, .inl (fun _ => (0 : Int32)))), (v 3, .inl (cI, 50, .inl (fun _ => (0 : Int32)))), (t0, .inl (cI, 51, .inl (fun _ => (0 : Int32))))] := hD
  refine W.widen (k := 5) (n := 205) (by omega) (by omega) ?_
  refine va_putF (D := (dC, dI)) (ci := 0) (v := .ref t0) (ty := (.array .int)) (C := RX0) (T := TX0) (N := 4) hx hb hts hinX0 tyX0 tyX0_ok nmX0 hown hK hP hD hS 0 rfl rfl 1 (by decide) hfl18 (fun _ h9 => h9) rfl hin rfl (by decide +kernel) rfl rfl (Nat.le_of_ble_eq_true rfl) dX0_init_20 (fun H locs hP hD hS => ?_)
  have hP : va_P (dC, dI) vwCl [(h, .inr (0, [.ref (v 0), .ref t0, .null, .null])), (v 0, .inr (1, [.ref (v 1), .ref (v 2), .ref (v 3), .int (ji_n ((0 : Nat) : Int))])), (v 1, .inl (cI, 50, .inl (fun _ => (0 : Int32)))), (v 2, .inl (cI, 50, .inl (fun _ => (0 : Int32)))), (v 3, .inl (cI, 50, .inl (fun _ => (0 : Int32)))), (t0, .inl (cI, 51, .inl (fun _ => (0 : Int32))))] H := hP
  have hD : va_D A9 [(h, .inr (0, [.ref (v 0), .ref t0, .null, .null])), (v 0, .inr (1, [.ref (v 1), .ref (v 2), .ref (v 3), .int (ji_n ((0 : Nat) : Int))])), (v 1, .inl (cI, 50, .inl (fun _ => (0 : Int32)))), (v 2, .inl (cI, 50, .inl (fun _ => (0 : Int32)))), (v 3, .inl (cI, 50, .inl (fun _ => (0 : Int32)))), (t0, .inl (cI, 51, .inl (fun _ => (0 : Int32))))] := hD
  refine lv_aload_n hx hb dX0_init_23 rfl (lv_at hl 0 rfl) ?_
  refine jn_bipush hx hb dX0_init_24 (by decide) ?_
  refine na_new hx hb hac hK hP hD hS hA 50 rfl (by decide) (by rw [hR]; exact Nat.le_of_ble_eq_true rfl) (by rw [hR]; exact Nat.le_of_ble_eq_true rfl) dX0_init_26 (fun t1 H hP hD hS => ?_)
  have hP : va_P (dC, dI) vwCl [(h, .inr (0, [.ref (v 0), .ref t0, .null, .null])), (v 0, .inr (1, [.ref (v 1), .ref (v 2), .ref (v 3), .int (ji_n ((0 : Nat) : Int))])), (v 1, .inl (cI, 50, .inl (fun _ => (0 : Int32)))), (v 2, .inl (cI, 50, .inl (fun _ => (0 : Int32)))), (v 3, .inl (cI, 50, .inl (fun _ => (0 : Int32)))), (t0, .inl (cI, 51, .inl (fun _ => (0 : Int32)))), (t1, .inl (cI, 50, .inl (fun _ => (0 : Int32))))] H := hP
  have hD : va_D A9 [(h, .inr (0, [.ref (v 0), .ref t0, .null, .null])), (v 0, .inr (1, [.ref (v 1), .ref (v 2), .ref (v 3), .int (ji_n ((0 : Nat) : Int))])), (v 1, .inl (cI, 50, .inl (fun _ => (0 : Int32)))), (v 2, .inl (cI, 50, .inl (fun _ => (0 : Int32)))), (v 3, .inl (cI, 50, .inl (fun _ => (0 : Int32)))), (t0, .inl (cI, 51, .inl (fun _ => (0 : Int32)))), (t1, .inl (cI, 50, .inl (fun _ => (0 : Int32))))] := hD
  refine W.widen (k := 6) (n := 255) (by omega) (by omega) ?_
  refine va_putF (D := (dC, dI)) (ci := 0) (v := .ref t1) (ty := (.array .int)) (C := RX0) (T := TX0) (N := 4) hx hb hts hinX0 tyX0 tyX0_ok nmX0 hown hK hP hD hS 0 rfl rfl 2 (by decide) hfl22 (fun _ h9 => h9) rfl hin rfl (by decide +kernel) rfl rfl (Nat.le_of_ble_eq_true rfl) dX0_init_28 (fun H locs hP hD hS => ?_)
  have hP : va_P (dC, dI) vwCl [(h, .inr (0, [.ref (v 0), .ref t0, .ref t1, .null])), (v 0, .inr (1, [.ref (v 1), .ref (v 2), .ref (v 3), .int (ji_n ((0 : Nat) : Int))])), (v 1, .inl (cI, 50, .inl (fun _ => (0 : Int32)))), (v 2, .inl (cI, 50, .inl (fun _ => (0 : Int32)))), (v 3, .inl (cI, 50, .inl (fun _ => (0 : Int32)))), (t0, .inl (cI, 51, .inl (fun _ => (0 : Int32)))), (t1, .inl (cI, 50, .inl (fun _ => (0 : Int32))))] H := hP
  have hD : va_D A9 [(h, .inr (0, [.ref (v 0), .ref t0, .ref t1, .null])), (v 0, .inr (1, [.ref (v 1), .ref (v 2), .ref (v 3), .int (ji_n ((0 : Nat) : Int))])), (v 1, .inl (cI, 50, .inl (fun _ => (0 : Int32)))), (v 2, .inl (cI, 50, .inl (fun _ => (0 : Int32)))), (v 3, .inl (cI, 50, .inl (fun _ => (0 : Int32)))), (t0, .inl (cI, 51, .inl (fun _ => (0 : Int32)))), (t1, .inl (cI, 50, .inl (fun _ => (0 : Int32))))] := hD
  refine lv_aload_n hx hb dX0_init_31 rfl (lv_at hl 0 rfl) ?_
  refine jn_bipush hx hb dX0_init_32 (by decide) ?_
  refine na_new hx hb hac hK hP hD hS hA 16 rfl (by decide) (by rw [hR]; exact Nat.le_of_ble_eq_true rfl) (by rw [hR]; exact Nat.le_of_ble_eq_true rfl) dX0_init_34 (fun t2 H hP hD hS => ?_)
  have hP : va_P (dC, dI) vwCl [(h, .inr (0, [.ref (v 0), .ref t0, .ref t1, .null])), (v 0, .inr (1, [.ref (v 1), .ref (v 2), .ref (v 3), .int (ji_n ((0 : Nat) : Int))])), (v 1, .inl (cI, 50, .inl (fun _ => (0 : Int32)))), (v 2, .inl (cI, 50, .inl (fun _ => (0 : Int32)))), (v 3, .inl (cI, 50, .inl (fun _ => (0 : Int32)))), (t0, .inl (cI, 51, .inl (fun _ => (0 : Int32)))), (t1, .inl (cI, 50, .inl (fun _ => (0 : Int32)))), (t2, .inl (cI, 16, .inl (fun _ => (0 : Int32))))] H := hP
  have hD : va_D A9 [(h, .inr (0, [.ref (v 0), .ref t0, .ref t1, .null])), (v 0, .inr (1, [.ref (v 1), .ref (v 2), .ref (v 3), .int (ji_n ((0 : Nat) : Int))])), (v 1, .inl (cI, 50, .inl (fun _ => (0 : Int32)))), (v 2, .inl (cI, 50, .inl (fun _ => (0 : Int32)))), (v 3, .inl (cI, 50, .inl (fun _ => (0 : Int32)))), (t0, .inl (cI, 51, .inl (fun _ => (0 : Int32)))), (t1, .inl (cI, 50, .inl (fun _ => (0 : Int32)))), (t2, .inl (cI, 16, .inl (fun _ => (0 : Int32))))] := hD
  refine W.widen (k := 7) (n := 271) (by omega) (by omega) ?_
  refine va_putF (D := (dC, dI)) (ci := 0) (v := .ref t2) (ty := (.array .int)) (C := RX0) (T := TX0) (N := 4) hx hb hts hinX0 tyX0 tyX0_ok nmX0 hown hK hP hD hS 0 rfl rfl 3 (by decide) hfl25 (fun _ h9 => h9) rfl hin rfl (by decide +kernel) rfl rfl (Nat.le_of_ble_eq_true rfl) dX0_init_36 (fun H locs hP hD hS => ?_)
  have hP : va_P (dC, dI) vwCl [(h, .inr (0, [.ref (v 0), .ref t0, .ref t1, .ref t2])), (v 0, .inr (1, [.ref (v 1), .ref (v 2), .ref (v 3), .int (ji_n ((0 : Nat) : Int))])), (v 1, .inl (cI, 50, .inl (fun _ => (0 : Int32)))), (v 2, .inl (cI, 50, .inl (fun _ => (0 : Int32)))), (v 3, .inl (cI, 50, .inl (fun _ => (0 : Int32)))), (t0, .inl (cI, 51, .inl (fun _ => (0 : Int32)))), (t1, .inl (cI, 50, .inl (fun _ => (0 : Int32)))), (t2, .inl (cI, 16, .inl (fun _ => (0 : Int32))))] H := hP
  have hD : va_D A9 [(h, .inr (0, [.ref (v 0), .ref t0, .ref t1, .ref t2])), (v 0, .inr (1, [.ref (v 1), .ref (v 2), .ref (v 3), .int (ji_n ((0 : Nat) : Int))])), (v 1, .inl (cI, 50, .inl (fun _ => (0 : Int32)))), (v 2, .inl (cI, 50, .inl (fun _ => (0 : Int32)))), (v 3, .inl (cI, 50, .inl (fun _ => (0 : Int32)))), (t0, .inl (cI, 51, .inl (fun _ => (0 : Int32)))), (t1, .inl (cI, 50, .inl (fun _ => (0 : Int32)))), (t2, .inl (cI, 16, .inl (fun _ => (0 : Int32))))] := hD
  refine lv_aload_n hx hb dX0_init_39 rfl (lv_at hl 0 rfl) ?_
  refine va_get (ci := 0) (C := RX0) (T := TX0) (N := 4) hx hb hts hinX0 hown hK hP 0 rfl rfl 3 (by decide) hfl25 (fun _ h9 => h9) rfl dX0_init_40 ?_
  refine jn_iconst hx hb dX0_init_43 ?_
  have hFc := va_free (wc := [(t2, .inl (cI, 16, .inl (fun _ => (0 : Int32))))]) hD hS hA [7] rfl
  refine va_callv (va_runS (As := [.ref t2, .int (ji_n (-1))]) (rest := []) ⟨hx, hb, hml, hown, hts⟩ (ct_fill l H.size dC dI cI t2 16 (fun _ => (0 : Int32)) (-1) (by decide)) (va_cwS 2 hts (ub_S tm_54 tm_55 tm_4 tm_56) rfl rfl rfl (by decide +kernel) (by rw [hR]; exact ⟨Nat.le_of_ble_eq_true rfl, Nat.le_of_ble_eq_true rfl⟩)) (ps_wr hN (hP.sub [7] rfl) (hD.sub [7] (by decide) rfl)) rfl rfl hl.1 rfl (lv_room (Nat.le_of_ble_eq_true rfl)) dX0_init_44 (by rw [hR]; exact ⟨Nat.le_of_ble_eq_true rfl, Nat.le_of_ble_eq_true rfl⟩)) hS (fun q _ h => hFc q h) hFc (fun u9 t9 H1 locs ht hvm hw hB hz1 hk1 hS => ?_)
  obtain ⟨vl, hP1, hv1⟩ := hB
  rw [ht] at hP1
  obtain ⟨hP, hD⟩ := va_join (wr := [(h, .inr (0, [.ref (v 0), .ref t0, .ref t1, .ref t2])), (v 0, .inr (1, [.ref (v 1), .ref (v 2), .ref (v 3), .int (ji_n ((0 : Nat) : Int))])), (v 1, .inl (cI, 50, .inl (fun _ => (0 : Int32)))), (v 2, .inl (cI, 50, .inl (fun _ => (0 : Int32)))), (v 3, .inl (cI, 50, .inl (fun _ => (0 : Int32)))), (t0, .inl (cI, 51, .inl (fun _ => (0 : Int32)))), (t1, .inl (cI, 50, .inl (fun _ => (0 : Int32))))]) hP hD [7] [0, 1, 2, 3, 4, 5, 6] rfl rfl (by decide) (by decide) hk1 hFc hP1 (va_D_ad (hD.sub (ws' := [(t2, .inl (cI, 16, .inl (fun _ => (0 : Int32))))]) [7] (by decide) rfl).self rfl)
  generalize H1 = H at hP hS ⊢
  have hP := hP.sub (ws' := wo_A (fun i => [h, t0, t1, t2, v 0, v 1, v 2, v 3].getD i 0) cI 0 (fun _ => (0 : Int32)) (fun _ => (0 : Int32)) (fun _ => (0 : Int32)) (fun _ => (0 : Int32)) (fun _ => (0 : Int32)) vl) [0, 5, 6, 7, 1, 2, 3, 4] rfl
  have hD := hD.sub (ws' := wo_A (fun i => [h, t0, t1, t2, v 0, v 1, v 2, v 3].getD i 0) cI 0 (fun _ => (0 : Int32)) (fun _ => (0 : Int32)) (fun _ => (0 : Int32)) (fun _ => (0 : Int32)) (fun _ => (0 : Int32)) vl) [0, 5, 6, 7, 1, 2, 3, 4] (by decide) rfl
  exact hend _ _ _ _ dX0_init_47 ⟨_, vl, rfl, hP, hD, hv1⟩ hS

set_option maxHeartbeats 4000000 in
set_option maxRecDepth 100000 in
theorem cc_Desk (l : Launch) (size_ : Nat) (dC : Nat → ClassId) (dI : Nat → Nat → Nat) (cI : ClassId) (h : Nat) : Met l yX2_init wsX2_init { frames := 3, cells := 12, slots := 429, locals := 52 } (va_Pc [.ref h] (wr_B (dC, dI) vwCl [(h, .inr (2, [.null, .null]))] size_ (kn_K dC dI cI))) (va_Qv (S := Unit) (fun _ => True) (fun _ t => (fun (A9 : Nat → Prop) (H : Heap) => ∃ (u v w : Nat → Nat) (vl : Nat → Int32), u 0 = h ∧ va_P (dC, dI) vwCl (wo_D u v w cI 0 (fun _ => (0 : Int32)) (fun _ => (0 : Int32)) (fun _ => (0 : Int32)) 0 (fun _ => (0 : Int32)) (fun _ => (0 : Int32)) (fun _ => (0 : Int32)) (fun _ => (0 : Int32)) (fun _ => (0 : Int32)) vl) H ∧ va_D A9 (wo_D u v w cI 0 (fun _ => (0 : Int32)) (fun _ => (0 : Int32)) (fun _ => (0 : Int32)) 0 (fun _ => (0 : Int32)) (fun _ => (0 : Int32)) (fun _ => (0 : Int32)) (fun _ => (0 : Int32)) (fun _ => (0 : Int32)) vl) ∧ ∀ j, j < 16 → vl j = ji_n (-1)) (va_A [(h, .inr (2, [.null, .null]))] size_) t.heap) (va_A [(h, .inr (2, [.null, .null]))] size_)) 12 429 (va_A [(h, .inr (2, [.null, .null]))] size_) := by
  refine st_cv (P := fun (A9 : Nat → Prop) (H : Heap) => ∃ (u v w : Nat → Nat) (vl : Nat → Int32), u 0 = h ∧ va_P (dC, dI) vwCl (wo_D u v w cI 0 (fun _ => (0 : Int32)) (fun _ => (0 : Int32)) (fun _ => (0 : Int32)) 0 (fun _ => (0 : Int32)) (fun _ => (0 : Int32)) (fun _ => (0 : Int32)) (fun _ => (0 : Int32)) (fun _ => (0 : Int32)) vl) H ∧ va_D A9 (wo_D u v w cI 0 (fun _ => (0 : Int32)) (fun _ => (0 : Int32)) (fun _ => (0 : Int32)) 0 (fun _ => (0 : Int32)) (fun _ => (0 : Int32)) (fun _ => (0 : Int32)) (fun _ => (0 : Int32)) (fun _ => (0 : Int32)) vl) ∧ ∀ j, j < 16 → vl j = ji_n (-1)) (cc := cX2_init) (maxL := 1) (by decide) rfl (Nat.le_of_ble_eq_true rfl) (lv := [(0, .ref h)]) rfl ?_
  intro p e s m args below meth c R Q ls A9 hx hb hts hown hml hR hin hP hD hA hS hN hl hend
  have hK := hN.1
  have hoi := (hts _ (List.mem_cons_of_mem _ tm_18))
  have hoj := (hts _ (List.mem_cons_of_mem _ tm_19))
  have hok := (hts _ (List.mem_cons_of_mem _ tm_20))
  have hinX1 : ∀ w ∈ u_ws RX1 TX1 4, w ∈ wsX2_init := fun w h => List.mem_cons_of_mem _ (inX1 w h)
  have hinX2 : ∀ w ∈ u_ws RX2 TX2 2, w ∈ wsX2_init := fun w h => List.mem_cons_of_mem _ (inX2 w h)
  have hfl10 := (hts _ (List.mem_cons_of_mem _ tm_74))
  have hinX0 : ∀ w ∈ u_ws RX0 TX0 4, w ∈ wsX2_init := fun w h => List.mem_cons_of_mem _ (inX0 w h)
  have hfl19 := (hts _ (List.mem_cons_of_mem _ tm_75))
  refine lv_aload_n hx hb dX2_init_0 rfl (lv_at hl 0 rfl) ?_
  refine W.objInit hx hb hown hoi hoj hok rfl (by rw [hml]; exact hl.1) rfl dX2_init_1 (by rw [hR]; exact Nat.le_of_ble_eq_true rfl) (by rw [hR]; exact Nat.le_of_ble_eq_true rfl) ?_
  refine W.eq (g2 := F0 m 4 ls []) rfl ?_
  refine lv_aload_n hx hb dX2_init_4 rfl (lv_at hl 0 rfl) ?_
  refine va_new (ci := 1) (fs := [.null, .null, .null, .int 0]) (C := RX1) (T := TX1) (N := 4) hx hb hts hinX1 tyX1 tyX1_ok hown (hts _ (List.mem_cons_of_mem _ tm_21)) (hts _ (List.mem_cons_of_mem _ tm_22)) (hts _ (List.mem_cons_of_mem _ tm_2)) hK hP hD hS hA rfl (fun j hj => by rcases (show j = 0 ∨ j = 1 ∨ j = 2 ∨ j = 3 by omega) with rfl | rfl | rfl | rfl <;> rfl) (by rw [hR]; exact Nat.le_of_ble_eq_true rfl) (by rw [hR]; exact Nat.le_of_ble_eq_true rfl) dX2_init_5 (fun q5 H hP hD hS => ?_)
  have hP : va_P (dC, dI) vwCl [(h, .inr (2, [.null, .null])), (q5, .inr (1, [.null, .null, .null, .int 0]))] H := hP
  have hD : va_D A9 [(h, .inr (2, [.null, .null])), (q5, .inr (1, [.null, .null, .null, .int 0]))] := hD
  refine W.widen (k := 1) (n := 4) (by omega) (by omega) ?_
  refine lv_dup hx hb dX2_init_8 rfl ?_
  have hFc := va_free (wc := [(q5, .inr (1, [.null, .null, .null, .int 0]))]) hD hS hA [1] rfl
  refine va_callv (va_runI (As := []) (rest := [.ref q5, .ref h]) ⟨hx, hb, hml, hown, hts⟩ (cc_Program l H.size dC dI cI q5) (cwI 0 hts (ub_I tm_25) rfl rfl rfl (hts _ (List.mem_cons_of_mem _ tm_2)) (hts _ (List.mem_cons_of_mem _ tm_23)) (hts _ (List.mem_cons_of_mem _ tm_24)) rfl (by decide +kernel) (by rw [hR]; exact ⟨Nat.le_of_ble_eq_true rfl, Nat.le_of_ble_eq_true rfl⟩)) (ps_wr hN (hP.sub [1] rfl) (hD.sub [1] (by decide) rfl)) rfl rfl hl.1 rfl (lv_room (Nat.le_of_ble_eq_true rfl)) dX2_init_9 (by rw [hR]; exact ⟨Nat.le_of_ble_eq_true rfl, Nat.le_of_ble_eq_true rfl⟩)) hS (fun q _ h => hFc q h) hFc (fun u9 t9 H1 locs ht hvm hw hB hz1 hk1 hS => ?_)
  obtain ⟨v, hv0, hP1, hD1⟩ := hB
  subst hv0
  rw [ht] at hP1
  obtain ⟨hP, hD⟩ := va_join (wr := [(h, .inr (2, [.null, .null]))]) hP hD [1] [0] rfl rfl (by decide) (by decide) hk1 hFc hP1 hD1
  generalize H1 = H at hP hS ⊢
  have hP : va_P (dC, dI) vwCl [(h, .inr (2, [.null, .null])), (v 0, .inr (1, [.ref (v 1), .ref (v 2), .ref (v 3), .int (ji_n ((0 : Nat) : Int))])), (v 1, .inl (cI, 50, .inl (fun _ => (0 : Int32)))), (v 2, .inl (cI, 50, .inl (fun _ => (0 : Int32)))), (v 3, .inl (cI, 50, .inl (fun _ => (0 : Int32))))] H := hP
  have hD : va_D A9 [(h, .inr (2, [.null, .null])), (v 0, .inr (1, [.ref (v 1), .ref (v 2), .ref (v 3), .int (ji_n ((0 : Nat) : Int))])), (v 1, .inl (cI, 50, .inl (fun _ => (0 : Int32)))), (v 2, .inl (cI, 50, .inl (fun _ => (0 : Int32)))), (v 3, .inl (cI, 50, .inl (fun _ => (0 : Int32))))] := hD
  refine W.widen (k := 4) (n := 154) (by omega) (by omega) ?_
  refine va_putF (D := (dC, dI)) (ci := 2) (v := .ref (v 0)) (ty := (.object "SpanDesk$Program")) (C := RX2) (T := TX2) (N := 2) hx hb hts hinX2 tyX2 tyX2_ok nmX2 hown hK hP hD hS 0 rfl rfl 0 (by decide) hfl10 (fun _ h9 => h9) rfl hin rfl (by decide +kernel) rfl rfl (Nat.le_of_ble_eq_true rfl) dX2_init_12 (fun H locs hP hD hS => ?_)
  have hP : va_P (dC, dI) vwCl [(h, .inr (2, [.ref (v 0), .null])), (v 0, .inr (1, [.ref (v 1), .ref (v 2), .ref (v 3), .int (ji_n ((0 : Nat) : Int))])), (v 1, .inl (cI, 50, .inl (fun _ => (0 : Int32)))), (v 2, .inl (cI, 50, .inl (fun _ => (0 : Int32)))), (v 3, .inl (cI, 50, .inl (fun _ => (0 : Int32))))] H := hP
  have hD : va_D A9 [(h, .inr (2, [.ref (v 0), .null])), (v 0, .inr (1, [.ref (v 1), .ref (v 2), .ref (v 3), .int (ji_n ((0 : Nat) : Int))])), (v 1, .inl (cI, 50, .inl (fun _ => (0 : Int32)))), (v 2, .inl (cI, 50, .inl (fun _ => (0 : Int32)))), (v 3, .inl (cI, 50, .inl (fun _ => (0 : Int32))))] := hD
  refine lv_aload_n hx hb dX2_init_15 rfl (lv_at hl 0 rfl) ?_
  refine va_new (ci := 0) (fs := [.null, .null, .null, .null]) (C := RX0) (T := TX0) (N := 4) hx hb hts hinX0 tyX0 tyX0_ok hown (hts _ (List.mem_cons_of_mem _ tm_46)) (hts _ (List.mem_cons_of_mem _ tm_47)) (hts _ (List.mem_cons_of_mem _ tm_3)) hK hP hD hS hA rfl (fun j hj => by rcases (show j = 0 ∨ j = 1 ∨ j = 2 ∨ j = 3 by omega) with rfl | rfl | rfl | rfl <;> rfl) (by rw [hR]; exact Nat.le_of_ble_eq_true rfl) (by rw [hR]; exact Nat.le_of_ble_eq_true rfl) dX2_init_16 (fun q16 H hP hD hS => ?_)
  have hP : va_P (dC, dI) vwCl [(h, .inr (2, [.ref (v 0), .null])), (v 0, .inr (1, [.ref (v 1), .ref (v 2), .ref (v 3), .int (ji_n ((0 : Nat) : Int))])), (v 1, .inl (cI, 50, .inl (fun _ => (0 : Int32)))), (v 2, .inl (cI, 50, .inl (fun _ => (0 : Int32)))), (v 3, .inl (cI, 50, .inl (fun _ => (0 : Int32)))), (q16, .inr (0, [.null, .null, .null, .null]))] H := hP
  have hD : va_D A9 [(h, .inr (2, [.ref (v 0), .null])), (v 0, .inr (1, [.ref (v 1), .ref (v 2), .ref (v 3), .int (ji_n ((0 : Nat) : Int))])), (v 1, .inl (cI, 50, .inl (fun _ => (0 : Int32)))), (v 2, .inl (cI, 50, .inl (fun _ => (0 : Int32)))), (v 3, .inl (cI, 50, .inl (fun _ => (0 : Int32)))), (q16, .inr (0, [.null, .null, .null, .null]))] := hD
  refine W.widen (k := 5) (n := 158) (by omega) (by omega) ?_
  refine lv_dup hx hb dX2_init_19 rfl ?_
  have hFc := va_free (wc := [(q16, .inr (0, [.null, .null, .null, .null]))]) hD hS hA [5] rfl
  refine va_callv (va_runI (As := []) (rest := [.ref q16, .ref h]) ⟨hx, hb, hml, hown, hts⟩ (cc_Assembly l H.size dC dI cI q16) (cwI 0 hts (ub_I tm_50) rfl rfl rfl (hts _ (List.mem_cons_of_mem _ tm_3)) (hts _ (List.mem_cons_of_mem _ tm_48)) (hts _ (List.mem_cons_of_mem _ tm_49)) rfl (by decide +kernel) (by rw [hR]; exact ⟨Nat.le_of_ble_eq_true rfl, Nat.le_of_ble_eq_true rfl⟩)) (ps_wr hN (hP.sub [5] rfl) (hD.sub [5] (by decide) rfl)) rfl rfl hl.1 rfl (lv_room (Nat.le_of_ble_eq_true rfl)) dX2_init_20 (by rw [hR]; exact ⟨Nat.le_of_ble_eq_true rfl, Nat.le_of_ble_eq_true rfl⟩)) hS (fun q _ h => hFc q h) hFc (fun u9 t9 H1 locs ht hvm hw hB hz1 hk1 hS => ?_)
  obtain ⟨w, vl, hv0, hP1, hD1, hv1⟩ := hB
  subst hv0
  rw [ht] at hP1
  obtain ⟨hP, hD⟩ := va_join (wr := [(h, .inr (2, [.ref (v 0), .null])), (v 0, .inr (1, [.ref (v 1), .ref (v 2), .ref (v 3), .int (ji_n ((0 : Nat) : Int))])), (v 1, .inl (cI, 50, .inl (fun _ => (0 : Int32)))), (v 2, .inl (cI, 50, .inl (fun _ => (0 : Int32)))), (v 3, .inl (cI, 50, .inl (fun _ => (0 : Int32))))]) hP hD [5] [0, 1, 2, 3, 4] rfl rfl (by decide) (by decide) hk1 hFc hP1 hD1
  generalize H1 = H at hP hS ⊢
  have hP : va_P (dC, dI) vwCl [(h, .inr (2, [.ref (v 0), .null])), (v 0, .inr (1, [.ref (v 1), .ref (v 2), .ref (v 3), .int (ji_n ((0 : Nat) : Int))])), (v 1, .inl (cI, 50, .inl (fun _ => (0 : Int32)))), (v 2, .inl (cI, 50, .inl (fun _ => (0 : Int32)))), (v 3, .inl (cI, 50, .inl (fun _ => (0 : Int32)))), (w 0, .inr (0, [.ref (w 4), .ref (w 1), .ref (w 2), .ref (w 3)])), (w 1, .inl (cI, 51, .inl (fun _ => (0 : Int32)))), (w 2, .inl (cI, 50, .inl (fun _ => (0 : Int32)))), (w 3, .inl (cI, 16, .inl vl)), (w 4, .inr (1, [.ref (w 5), .ref (w 6), .ref (w 7), .int (ji_n ((0 : Nat) : Int))])), (w 5, .inl (cI, 50, .inl (fun _ => (0 : Int32)))), (w 6, .inl (cI, 50, .inl (fun _ => (0 : Int32)))), (w 7, .inl (cI, 50, .inl (fun _ => (0 : Int32))))] H := hP
  have hD : va_D A9 [(h, .inr (2, [.ref (v 0), .null])), (v 0, .inr (1, [.ref (v 1), .ref (v 2), .ref (v 3), .int (ji_n ((0 : Nat) : Int))])), (v 1, .inl (cI, 50, .inl (fun _ => (0 : Int32)))), (v 2, .inl (cI, 50, .inl (fun _ => (0 : Int32)))), (v 3, .inl (cI, 50, .inl (fun _ => (0 : Int32)))), (w 0, .inr (0, [.ref (w 4), .ref (w 1), .ref (w 2), .ref (w 3)])), (w 1, .inl (cI, 51, .inl (fun _ => (0 : Int32)))), (w 2, .inl (cI, 50, .inl (fun _ => (0 : Int32)))), (w 3, .inl (cI, 16, .inl vl)), (w 4, .inr (1, [.ref (w 5), .ref (w 6), .ref (w 7), .int (ji_n ((0 : Nat) : Int))])), (w 5, .inl (cI, 50, .inl (fun _ => (0 : Int32)))), (w 6, .inl (cI, 50, .inl (fun _ => (0 : Int32)))), (w 7, .inl (cI, 50, .inl (fun _ => (0 : Int32))))] := hD
  refine W.widen (k := 12) (n := 429) (by omega) (by omega) ?_
  refine va_putF (D := (dC, dI)) (ci := 2) (v := .ref (w 0)) (ty := (.object "SpanDesk$Assembly")) (C := RX2) (T := TX2) (N := 2) hx hb hts hinX2 tyX2 tyX2_ok nmX2 hown hK hP hD hS 0 rfl rfl 1 (by decide) hfl19 (fun _ h9 => h9) rfl hin rfl (by decide +kernel) rfl rfl (Nat.le_of_ble_eq_true rfl) dX2_init_23 (fun H locs hP hD hS => ?_)
  have hP : va_P (dC, dI) vwCl [(h, .inr (2, [.ref (v 0), .ref (w 0)])), (v 0, .inr (1, [.ref (v 1), .ref (v 2), .ref (v 3), .int (ji_n ((0 : Nat) : Int))])), (v 1, .inl (cI, 50, .inl (fun _ => (0 : Int32)))), (v 2, .inl (cI, 50, .inl (fun _ => (0 : Int32)))), (v 3, .inl (cI, 50, .inl (fun _ => (0 : Int32)))), (w 0, .inr (0, [.ref (w 4), .ref (w 1), .ref (w 2), .ref (w 3)])), (w 1, .inl (cI, 51, .inl (fun _ => (0 : Int32)))), (w 2, .inl (cI, 50, .inl (fun _ => (0 : Int32)))), (w 3, .inl (cI, 16, .inl vl)), (w 4, .inr (1, [.ref (w 5), .ref (w 6), .ref (w 7), .int (ji_n ((0 : Nat) : Int))])), (w 5, .inl (cI, 50, .inl (fun _ => (0 : Int32)))), (w 6, .inl (cI, 50, .inl (fun _ => (0 : Int32)))), (w 7, .inl (cI, 50, .inl (fun _ => (0 : Int32))))] H := hP
  have hD : va_D A9 [(h, .inr (2, [.ref (v 0), .ref (w 0)])), (v 0, .inr (1, [.ref (v 1), .ref (v 2), .ref (v 3), .int (ji_n ((0 : Nat) : Int))])), (v 1, .inl (cI, 50, .inl (fun _ => (0 : Int32)))), (v 2, .inl (cI, 50, .inl (fun _ => (0 : Int32)))), (v 3, .inl (cI, 50, .inl (fun _ => (0 : Int32)))), (w 0, .inr (0, [.ref (w 4), .ref (w 1), .ref (w 2), .ref (w 3)])), (w 1, .inl (cI, 51, .inl (fun _ => (0 : Int32)))), (w 2, .inl (cI, 50, .inl (fun _ => (0 : Int32)))), (w 3, .inl (cI, 16, .inl vl)), (w 4, .inr (1, [.ref (w 5), .ref (w 6), .ref (w 7), .int (ji_n ((0 : Nat) : Int))])), (w 5, .inl (cI, 50, .inl (fun _ => (0 : Int32)))), (w 6, .inl (cI, 50, .inl (fun _ => (0 : Int32)))), (w 7, .inl (cI, 50, .inl (fun _ => (0 : Int32))))] := hD
  exact hend _ _ _ _ dX2_init_26 ⟨fun _ => h, v, w, vl, rfl, hP, hD, hv1⟩ hS
