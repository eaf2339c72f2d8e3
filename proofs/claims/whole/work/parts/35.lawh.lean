/-! the law's two helpers, which catch -/
section PX
variable {dC : Nat → ClassId} {dI : Nat → Nat → Nat} {cI cL : ClassId}
theorem pv_x {s : State} {H : Heap} {W0 : va_W} {q0 b ci : Nat} {fs : List Value} {C : String} {T : u_T} {N : Nat} {As : List Value} {A0 : Nat → Prop} (hN : kn_K dC dI cI s) (hE : ex_K (va_A W0 H.size) s H) (hP : va_P (dC, dI) vwCl W0 H) (hD : va_D A0 W0) (he : W0[q0]? = some (b, .inr (ci, fs))) (hc : vwCl[ci]? = some (C, T, N)) : PreV s H C b (va_Pc (.ref b :: As) (wr_B (dC, dI) vwCl W0 H.size (fun U => kn_K dC dI cI U ∧ ex_K (va_A W0 H.size) U U.heap))) As :=
  ⟨fun a U g mk q => ⟨q.1, q.2.1, q.2.2.1, q.2.2.2.1, kn_same (u := U) (U := U.calling g mk a) rfl q.2.2.2.2.1, ex_same (u := U) (U := U.calling g mk a) rfl q.2.2.2.2.2⟩, va_recv hN.1 hP hc he, fun U hU hW => ⟨rfl, by rw [hU], by rw [hU]; exact hP, hD.weaken (fun _ _ _ _ => trivial), kn_warm hW hN, by rw [hU]; exact ex_warm hW hE⟩⟩
theorem ps_x {s : State} {H : Heap} {W0 : va_W} {As : List Value} {A0 : Nat → Prop} (hN : kn_K dC dI cI s) (hKL : va_K (dC, dI) vwCl [(cL, .long)] s) (hE : ex_K (va_A W0 H.size) s H) (hP : va_P (dC, dI) vwCl W0 H) (hD : va_D A0 W0) : PreS s H (va_Pc As (wr_B (dC, dI) vwCl W0 H.size (fun U => kn_K dC dI cI U ∧ va_K (dC, dI) vwCl [(cL, .long)] U ∧ ex_K (va_A W0 H.size) U U.heap))) As :=
  ⟨fun a U g mk q => ⟨q.1, q.2.1, q.2.2.1, q.2.2.2.1, kn_same (u := U) (U := U.calling g mk a) rfl q.2.2.2.2.1, va_K.moved (u := U) (U := U.calling g mk a) (Vm.Alike.refl U.vm) q.2.2.2.2.2.1, ex_same (u := U) (U := U.calling g mk a) rfl q.2.2.2.2.2.2⟩, fun U hU hW => ⟨rfl, by rw [hU], by rw [hU]; exact hP, hD.weaken (fun _ _ _ _ => trivial), kn_warm hW hN, va_K.moved hW.alike hKL, by rw [hU]; exact ex_warm hW hE⟩⟩
end PX
section SH
variable {l : Launch} {y : MethodName} {ws ws' : List Cond} {rm : Room} {cc : ByteArray} {maxL : Nat} {ret : Option FieldType} {av : List Value} {lv : List (Nat × Value)} {D : va_G} {cl : List vw_C} {W0 : va_W} {sz : Nat} {hh : List (Nat × Nat × Nat × Nat)}
theorem st_hi {B : (Nat → Prop) → State → Prop} {P : Int32 → Heap → Prop} {ty : FieldType} (hy : plainName y.cls = true) (hw : ws = Cond.codeWith y cc maxL ret hh :: ws') (hret : ret = some ty) (hlen : (lg_sl av).length ≤ maxL) (hlv : lv_args 0 av = lv) (hn : ∀ v H, P v H → narrow ty (.int v) = .int v)
    (body : ∀ (p : Program) (e : Env) (s : State) (m : MethodId) (args : Array Value) (below : List Frame) (meth : Method) (c : Code) (R : Room) (Q : State → Prop) (ls : Array Slot) (A : Nat → Prop), p.tables.exec = Jvm.exec → c.code = cc → (∀ w ∈ ws, w.before args s = true) → s.vm.findClass y.cls = some m.cls → c.maxLocals = maxL → R = rm → c.exceptionTable.toList = tableOf hh → va_P D cl W0 s.heap → va_D A W0 → (∀ q : Nat, s.heap.size ≤ q → A q) → va_S A s.heap s.heap [] → B A s → lv_has ls maxL lv →
      (∀ (pc : Nat) (ls : Array Slot) (v : Int32) (H : Heap) (locs : List Loc) (cells slots : Nat), cells ≤ 1 → slots ≤ 6 → decode cc pc = .ok (.ireturn, 1) → P v H → va_S A s.heap H locs → W p l e R s m args below meth c H locs cells slots Q (F0 m pc ls [.int v])) →
      W p l e R s m args below meth c s.heap [] 0 0 Q (F0 m 0 ls [])) :
    Met l y ws rm (va_Pc av (wr_B D cl W0 sz (fun U => B (va_A W0 sz) U))) (wr_Qi P (va_A W0 sz)) 1 6 (va_A W0 sz) := by
  refine va_MetW hy hw ?_
  intro p e s m args below meth c s₁ Bd hml hv
  obtain ⟨rfl, rfl, hP, hD, hB⟩ := hv
  rw [lg_entry_eq]
  have hts := atoms_spec (ws := ws) Bd.pre
  have htab := vx_table (x := y) Bd (hts (Cond.codeWith y cc maxL ret hh) (by rw [hw]; exact List.mem_cons_self))
  refine body p e s m _ below meth c _ _ _ (va_A W0 s.heap.size) Bd.exec Bd.bytes hts (findClass_of_methodNamed Bd.named) hml rfl htab hP hD.self (fun q h => Or.inr h) va_S.rf hB (hlv ▸ lv_entry av hlen) ?_
  intro pc ls v H locs cells slots h1 h2 hdg hp hS
  refine W.widen (k := 1) (n := 6) h1 h2 ?_
  exact W.zret Bd.exec Bd.bytes (Bd.returns.trans hret) (hn v H hp) (fun t ht hW => ⟨⟨v, v, rfl, rfl, by subst ht; exact hp⟩, hS.F ht⟩) hS.2.2 hdg Bd.notSynchronized
end SH
set_option maxHeartbeats 4000000 in
set_option maxRecDepth 100000 in
theorem cl_assemble (l : Launch) (hlt : l.stackTraces = false) (size_ : Nat) (dC : Nat → ClassId) (dI : Nat → Nat → Nat) (cI cL : ClassId) (o : Nat) (gO : Nat → Int64) (u v w : Nat → Nat) (nP : Nat) (f0 f1 f2 : Nat → Int32) (n : Nat) (g0 g1 g2 st fm vl : Nat → Int32) (K A B : Nat → Int) (hn : nP ≤ 50) (hg : sp_gp K A B nP) (hF : as_F nP K A B f0 f1 f2) : Met l yL_assemble wsL_assemble { frames := 7, cells := 1, slots := 6, locals := 102 } (va_Pc [.ref (u 0), .ref o] (wr_B (dC, dI) vwCl ((o, .inl (cL, 1, .inr (.inl gO))) :: wo_D u v w cI nP f0 f1 f2 n g0 g1 g2 st fm vl) size_ (fun U => kn_K dC dI cI U ∧ va_K (dC, dI) vwCl [(cL, .long)] U ∧ ex_K (va_A ((o, .inl (cL, 1, .inr (.inl gO))) :: wo_D u v w cI nP f0 f1 f2 n g0 g1 g2 st fm vl) size_) U U.heap))) (wr_Qi (fun r H => (r = ji_n 1 ∧ sp_tw nP K A ∧ va_P (dC, dI) vwCl ((o, .inl (cL, 1, .inr (.inl gO))) :: wo_D u v w cI nP f0 f1 f2 n g0 g1 g2 st fm vl) H) ∨ (r = ji_n 2 ∧ ¬ sp_tw nP K A ∧ sp_un nP K A ∧ va_P (dC, dI) vwCl ((o, .inl (cL, 1, .inr (.inl gO))) :: wo_D u v w cI nP f0 f1 f2 n g0 g1 g2 st fm vl) H) ∨ (r = ji_n 0 ∧ ¬ sp_tw nP K A ∧ ¬ sp_un nP K A ∧ ∃ (z : Nat → Int) (q0 q1 q2 q3 q4 q5 : Nat → Int32) (gQ : Nat → Int64), gQ 0 = (ji_n (sp_pz z nP)).toInt64 ∧ sp_LC nP K A B z ∧ as_F nP K A B q0 q1 q2 ∧ as_S nP K A z q3 q4 q5 ∧ va_P (dC, dI) vwCl ((o, .inl (cL, 1, .inr (.inl gQ))) :: wo_D u v w cI nP f0 f1 f2 nP q0 q1 q2 q3 q4 q5) H)) (va_A ((o, .inl (cL, 1, .inr (.inl gO))) :: wo_D u v w cI nP f0 f1 f2 n g0 g1 g2 st fm vl) size_)) 1 6 (va_A ((o, .inl (cL, 1, .inr (.inl gO))) :: wo_D u v w cI nP f0 f1 f2 n g0 g1 g2 st fm vl) size_) := by
  refine st_hi (B := fun A9 U => kn_K dC dI cI U ∧ va_K (dC, dI) vwCl [(cL, .long)] U ∧ ex_K A9 U U.heap) (cc := cL_assemble) (maxL := 3) (ret := some .int) (ty := .int) (hh := [(0, 8, 11, 13), (0, 8, 14, 15)]) (by decide) rfl rfl (Nat.le_of_ble_eq_true rfl) (lv := [(0, .ref (u 0)), (1, .ref o)]) rfl (fun v H h => rfl) ?_
  intro p e s m args below meth c R Q ls A9 hx hb hts hown hml hR htab hP hD hA hS hNE hl hend
  obtain ⟨hN, hKL, hE⟩ := hNE
  refine lv_aload_n hx hb dL_assemble_0 rfl (lv_at hl 1 rfl) ?_
  refine jn_iconst hx hb dL_assemble_1 ?_
  refine lv_aload_n hx hb dL_assemble_2 rfl (lv_at hl 0 rfl) ?_
  have hFc := va_free (wc := wo_D u v w cI nP f0 f1 f2 n g0 g1 g2 st fm vl) hD hS hA [1, 2, 3, 4, 5, 6, 7, 8, 9, 10, 11, 12, 13] rfl
  have hE2 : ex_K (va_A (wo_D u v w cI nP f0 f1 f2 n g0 g1 g2 st fm vl) s.heap.size) s s.heap := ex_narrow hE hFc
  refine vx_calli (A0 := A9) (vx_runV (As := []) (rest := [.int (ji_n 0), .ref o]) ⟨hx, hb, hml, hown, hts⟩ (cd_assemble l hlt s.heap.size dC dI cI u v w nP f0 f1 f2 n g0 g1 g2 st fm vl K A B hn hg hF) (cwV 0 hts (ub_V tm_207 tm_208 tm_209 tm_1 tm_210) rfl rfl rfl (by decide +kernel) (by rw [hR]; exact ⟨Nat.le_of_ble_eq_true rfl, Nat.le_of_ble_eq_true rfl⟩)) (pv_x (q0 := 0) (ci := 2) hN hE2 (hP.sub [1, 2, 3, 4, 5, 6, 7, 8, 9, 10, 11, 12, 13] rfl) (hD.sub [1, 2, 3, 4, 5, 6, 7, 8, 9, 10, 11, 12, 13] (by decide) rfl) rfl rfl) rfl rfl hl.1 rfl (lv_room (Nat.le_of_ble_eq_true rfl)) dL_assemble_3 (by rw [hR]; exact ⟨Nat.le_of_ble_eq_true rfl, Nat.le_of_ble_eq_true rfl⟩)) hS (fun q _ h => hFc q h) hFc (fun q _ h => hFc q h) (fun E ce q9 u9 t9 H1 locs ht hvm hw hB hz1 hk1 hS hce hcv hcl => ?_) (fun r u9 t9 H1 locs ht hvm hw hB hz1 hk1 hS => ?_)
  · rw [ht] at hB
    obtain ⟨hX, hPs⟩ := hB
    obtain ⟨hP, hD⟩ := va_join (wr := [(o, .inl (cL, 1, .inr (.inl gO)))]) hP hD [1, 2, 3, 4, 5, 6, 7, 8, 9, 10, 11, 12, 13] [0] rfl rfl (by decide) (by decide) hk1 hFc hPs (va_D_ad (hD.sub (ws' := wo_D u v w cI nP f0 f1 f2 n g0 g1 g2 st fm vl) [1, 2, 3, 4, 5, 6, 7, 8, 9, 10, 11, 12, 13] (by decide) rfl).self rfl)
    rcases hX with ⟨rfl, htw⟩ | ⟨rfl, htw, hun⟩
    · refine vx_catch (name := "java/lang/IllegalArgumentException") hown [] ⟨0, 8, 11, 13⟩ [⟨0, 8, 14, 15⟩] htab (fun z h => by cases h) rfl (by decide) (hts _ (List.mem_cons_of_mem _ tm_205)) (va_Nw.use rfl hE.2.2.1) hce hcv hcl ?_
      refine lv_astore_n (lv' := [(2, .ref q9), (0, .ref (u 0)), (1, .ref o)]) hx hb dL_assemble_11 rfl hl (by decide) rfl (fun ls hl => ?_)
      refine jn_iconst hx hb dL_assemble_12 ?_
      exact hend _ _ _ _ _ _ _ (Nat.le_refl _) (Nat.le_refl _) dL_assemble_13 (Or.inl ⟨rfl, htw, hP⟩) hS
    · refine vx_catch (name := "java/lang/IllegalStateException") hown [⟨0, 8, 11, 13⟩] ⟨0, 8, 14, 15⟩ [] htab (fun z h => by rw [List.mem_singleton.mp h]; exact Or.inr ⟨by decide, "java/lang/IllegalArgumentException", (hts _ (List.mem_cons_of_mem _ tm_205)), hE.2.2.2.2.2.2.2.2.2.2.2⟩) rfl (by decide) (hts _ (List.mem_cons_of_mem _ tm_206)) (va_Nw.use rfl hE.2.2.2.1) hce hcv hcl ?_
      refine lv_astore_n (lv' := [(2, .ref q9), (0, .ref (u 0)), (1, .ref o)]) hx hb dL_assemble_14 rfl hl (by decide) rfl (fun ls hl => ?_)
      refine jn_iconst hx hb dL_assemble_15 ?_
      exact hend _ _ _ _ _ _ _ (Nat.le_refl _) (Nat.le_refl _) dL_assemble_16 (Or.inr (Or.inl ⟨rfl, htw, hun, hP⟩)) hS
  · subst hw
    rw [ht] at hB
    obtain ⟨htw, hun, z, q0, q1, q2, q3, q4, q5, rfl, hLC, hF2, hS2, hPs⟩ := hB
    obtain ⟨hP, hD⟩ := va_join (wr := [(o, .inl (cL, 1, .inr (.inl gO)))]) hP hD [1, 2, 3, 4, 5, 6, 7, 8, 9, 10, 11, 12, 13] [0] rfl rfl (by decide) (by decide) hk1 hFc hPs (va_D_ad (hD.sub (ws' := wo_D u v w cI nP f0 f1 f2 n g0 g1 g2 st fm vl) [1, 2, 3, 4, 5, 6, 7, 8, 9, 10, 11, 12, 13] (by decide) rfl).self rfl)
    refine lv_i2l hx hb dL_assemble_6 (v := (ji_n (sp_pz z nP)).toInt64) rfl ?_
    have e0 : (ji_n 0).toNatClampNeg = 0 := by decide
    refine va_last hx hb hKL hP hD hS 0 0 rfl rfl (i := ji_n 0) (ji_in (n := 0) (N := 1) (by omega) (by omega)) dL_assemble_7 (fun H locs hP hD hS => ?_)
    rw [e0] at hP hD
    refine lv_goto hx hb dL_assemble_8 (tgt := 17) rfl ?_
    refine jn_iconst hx hb dL_assemble_17 ?_
    exact hend _ _ _ _ _ _ _ (Nat.le_refl _) (Nat.le_refl _) dL_assemble_18 (Or.inr (Or.inr ⟨rfl, htw, hun, z, q0, q1, q2, q3, q4, q5, _, pk_uLs, hLC, hF2, hS2, hP⟩)) hS
set_option maxHeartbeats 4000000 in
set_option maxRecDepth 100000 in
theorem cl_follow (l : Launch) (hlt : l.stackTraces = false) (size_ : Nat) (dC : Nat → ClassId) (dI : Nat → Nat → Nat) (cI cL : ClassId) (o : Nat) (gO : Nat → Int64) (u v w : Nat → Nat) (nP : Nat) (f0 f1 f2 : Nat → Int32) (n : Nat) (g0 g1 g2 st fm vl : Nat → Int32) (K A B z : Nat → Int) (hF : as_F n K A B g0 g1 g2) (hAS : sp_AS n K A B z) (hS0 : as_S n K A z st fm vl) (x t : Int) (r1 : ji_r x) (ht9 : t = 0 ∨ t = 1) : Met l yL_follow wsL_follow { frames := 7, cells := 1, slots := 6, locals := 136 } (va_Pc [.ref (u 0), .int (ji_n x), .int (ji_n t), .ref o] (wr_B (dC, dI) vwCl ((o, .inl (cL, 1, .inr (.inl gO))) :: wo_D u v w cI nP f0 f1 f2 n g0 g1 g2 st fm vl) size_ (fun U => kn_K dC dI cI U ∧ va_K (dC, dI) vwCl [(cL, .long)] U ∧ ex_K (va_A ((o, .inl (cL, 1, .inr (.inl gO))) :: wo_D u v w cI nP f0 f1 f2 n g0 g1 g2 st fm vl) size_) U U.heap))) (wr_Qi (fun r H => (r = ji_n 1 ∧ sp_os n K A B z x = 0 ∧ va_P (dC, dI) vwCl ((o, .inl (cL, 1, .inr (.inl gO))) :: wo_D u v w cI nP f0 f1 f2 n g0 g1 g2 st fm vl) H) ∨ (r = ji_n 0 ∧ sp_os n K A B z x ≠ 0 ∧ ∃ gQ : Nat → Int64, gQ 0 = (ji_n (sp_nx n K A B z x t)).toInt64 ∧ va_P (dC, dI) vwCl ((o, .inl (cL, 1, .inr (.inl gQ))) :: wo_D u v w cI nP f0 f1 f2 n g0 g1 g2 st fm vl) H)) (va_A ((o, .inl (cL, 1, .inr (.inl gO))) :: wo_D u v w cI nP f0 f1 f2 n g0 g1 g2 st fm vl) size_)) 1 6 (va_A ((o, .inl (cL, 1, .inr (.inl gO))) :: wo_D u v w cI nP f0 f1 f2 n g0 g1 g2 st fm vl) size_) := by
  refine st_hi (B := fun A9 U => kn_K dC dI cI U ∧ va_K (dC, dI) vwCl [(cL, .long)] U ∧ ex_K A9 U U.heap) (cc := cL_follow) (maxL := 5) (ret := some .int) (ty := .int) (hh := [(0, 10, 13, 21)]) (by decide) rfl rfl (Nat.le_of_ble_eq_true rfl) (lv := [(0, .ref (u 0)), (1, .int (ji_n x)), (2, .int (ji_n t)), (3, .ref o)]) rfl (fun v H h => rfl) ?_
  intro p e s m args below meth c R Q ls A9 hx hb hts hown hml hR htab hP hD hA hS hNE hl hend
  obtain ⟨hN, hKL, hE⟩ := hNE
  refine lv_aload_n hx hb dL_follow_0 rfl (lv_at hl 3 rfl) ?_
  refine jn_iconst hx hb dL_follow_1 ?_
  refine lv_aload_n hx hb dL_follow_2 rfl (lv_at hl 0 rfl) ?_
  refine lv_iload_n hx hb dL_follow_3 rfl (lv_at hl 1 rfl) ?_
  refine lv_iload_n hx hb dL_follow_4 rfl (lv_at hl 2 rfl) ?_
  have hFc := va_free (wc := wo_D u v w cI nP f0 f1 f2 n g0 g1 g2 st fm vl) hD hS hA [1, 2, 3, 4, 5, 6, 7, 8, 9, 10, 11, 12, 13] rfl
  have hE2 : ex_K (va_A (wo_D u v w cI nP f0 f1 f2 n g0 g1 g2 st fm vl) s.heap.size) s s.heap := ex_narrow hE hFc
  refine vx_calli (A0 := A9) (vx_runV (As := [.int (ji_n x), .int (ji_n t)]) (rest := [.int (ji_n 0), .ref o]) ⟨hx, hb, hml, hown, hts⟩ (cd_follow l hlt s.heap.size dC dI cI u v w nP f0 f1 f2 n g0 g1 g2 st fm vl K A B z hF hAS hS0 x t r1 ht9) (cwV 2 hts (ub_V tm_332 tm_333 tm_334 tm_1 tm_335) rfl rfl rfl (by decide +kernel) (by rw [hR]; exact ⟨Nat.le_of_ble_eq_true rfl, Nat.le_of_ble_eq_true rfl⟩)) (pv_x (q0 := 0) (ci := 2) hN hE2 (hP.sub [1, 2, 3, 4, 5, 6, 7, 8, 9, 10, 11, 12, 13] rfl) (hD.sub [1, 2, 3, 4, 5, 6, 7, 8, 9, 10, 11, 12, 13] (by decide) rfl) rfl rfl) rfl rfl hl.1 rfl (lv_room (Nat.le_of_ble_eq_true rfl)) dL_follow_5 (by rw [hR]; exact ⟨Nat.le_of_ble_eq_true rfl, Nat.le_of_ble_eq_true rfl⟩)) hS (fun q _ h => hFc q h) hFc (fun q _ h => hFc q h) (fun E ce q9 u9 t9 H1 locs ht hvm hw hB hz1 hk1 hS hce hcv hcl => ?_) (fun r u9 t9 H1 locs ht hvm hw hB hz1 hk1 hS => ?_)
  · rw [ht] at hB
    obtain ⟨rfl, hos, hPs⟩ := hB
    obtain ⟨hP, hD⟩ := va_join (wr := [(o, .inl (cL, 1, .inr (.inl gO)))]) hP hD [1, 2, 3, 4, 5, 6, 7, 8, 9, 10, 11, 12, 13] [0] rfl rfl (by decide) (by decide) hk1 hFc hPs (va_D_ad (hD.sub (ws' := wo_D u v w cI nP f0 f1 f2 n g0 g1 g2 st fm vl) [1, 2, 3, 4, 5, 6, 7, 8, 9, 10, 11, 12, 13] (by decide) rfl).self rfl)
    refine vx_catch (name := "java/lang/IndexOutOfBoundsException") hown [] ⟨0, 10, 13, 21⟩ [] htab (fun z h => by cases h) rfl (by decide) (hts _ (List.mem_cons_of_mem _ tm_331)) (va_Nw.use rfl hE.2.2.2.2.1) hce hcv hcl ?_
    refine lv_astore (lv' := [(4, .ref q9), (0, .ref (u 0)), (1, .int (ji_n x)), (2, .int (ji_n t)), (3, .ref o)]) hx hb dL_follow_13 hl (by decide) rfl (fun ls hl => ?_)
    refine jn_iconst hx hb dL_follow_15 ?_
    exact hend _ _ _ _ _ _ _ (Nat.le_refl _) (Nat.le_refl _) dL_follow_16 (Or.inl ⟨rfl, hos, hP⟩) hS
  · subst hw
    rw [ht] at hB
    obtain ⟨hos, rfl, hPs⟩ := hB
    obtain ⟨hP, hD⟩ := va_join (wr := [(o, .inl (cL, 1, .inr (.inl gO)))]) hP hD [1, 2, 3, 4, 5, 6, 7, 8, 9, 10, 11, 12, 13] [0] rfl rfl (by decide) (by decide) hk1 hFc hPs (va_D_ad (hD.sub (ws' := wo_D u v w cI nP f0 f1 f2 n g0 g1 g2 st fm vl) [1, 2, 3, 4, 5, 6, 7, 8, 9, 10, 11, 12, 13] (by decide) rfl).self rfl)
    refine lv_i2l hx hb dL_follow_8 (v := (ji_n (sp_nx n K A B z x t)).toInt64) rfl ?_
    have e0 : (ji_n 0).toNatClampNeg = 0 := by decide
    refine va_last hx hb hKL hP hD hS 0 0 rfl rfl (i := ji_n 0) (ji_in (n := 0) (N := 1) (by omega) (by omega)) dL_follow_9 (fun H locs hP hD hS => ?_)
    rw [e0] at hP hD
    refine lv_goto hx hb dL_follow_10 (tgt := 17) rfl ?_
    refine jn_iconst hx hb dL_follow_17 ?_
    exact hend _ _ _ _ _ _ _ (Nat.le_refl _) (Nat.le_refl _) dL_follow_18 (Or.inr ⟨rfl, hos, _, pk_uLs, hP⟩) hS
