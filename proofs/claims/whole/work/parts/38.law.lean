/-! the law's loop: the class's world and the reference's, side by side -/
abbrev wl_W (o : Nat) (cL cI : ClassId) (u v w x : Nat → Nat) (gO : Nat → Int64) (nP : Nat) (f0 f1 f2 : Nat → Int32) (n : Nat) (g0 g1 g2 st fm vl : Nat → Int32) (th by_ : Int) (m0 m1 m2 k0 k1 k2 sz : Nat → Int32) : va_W := (o, .inl (cL, 1, .inr (.inl gO))) :: (wo_D u v w cI nP f0 f1 f2 n g0 g1 g2 st fm vl ++ wo_M x cI th (nP : Int) (n : Int) by_ m0 m1 m2 k0 k1 k2 sz)
def li_I (dC : Nat → ClassId) (dI : Nat → Nat → Nat) (o : Nat) (cL cI : ClassId) (u v w x : Nat → Nat) (H : Heap) : Prop := ∃ (nP : Nat) (K A B : Nat → Int) (n : Nat) (K' A' B' z : Nat → Int) (gO : Nat → Int64) (f0 f1 f2 g0 g1 g2 st fm vl : Nat → Int32) (th : Int) (m0 m1 m2 k0 k1 k2 sz : Nat → Int32), nP ≤ 50 ∧ sp_gp K A B nP ∧ as_F nP K A B f0 f1 f2 ∧ as_F nP K A B m0 m1 m2 ∧ sp_AS n K' A' B' z ∧ as_F n K' A' B' g0 g1 g2 ∧ as_S n K' A' z st fm vl ∧ as_F n K' A' B' k0 k1 k2 ∧ (∀ j, j < n → sz j = ji_n (z j)) ∧ va_P (dC, dI) vwCl (wl_W o cL cI u v w x gO nP f0 f1 f2 n g0 g1 g2 st fm vl th (sp_pz z n) m0 m1 m2 k0 k1 k2 sz) H
theorem jb_and15 (x : Int) : ji_n x &&& ji_n 15 = ji_n (x % 16) := by
  rw [pk_and (ji_n x) (m := ji_n 15) 4 (by decide), jb_nat, ji_nI]
  congr 1
  omega
theorem lg_same (x : Int64) : lg_cmp x x = ji_n 0 := by
  unfold lg_cmp
  simp
  rfl
section JL
variable {p : Program} {l : Launch} {e : Env} {R : Room} {s : State} {m : MethodId} {args : Array Value} {below : List Frame} {meth : Method} {c : Code} {H : Heap} {locs : List Loc} {cells slots : Nat} {Q : State → Prop}
variable {cc : ByteArray} {pc : Nat} {ls : Array Slot} {rest st0 : List Value} {a : Array Value} {A A0 : Nat → Prop} {H0 : Heap} {D : va_G} {cl : List vw_C} {wsw wc wr : va_W} {mc ms : Nat}
theorem jn_and15 (hexec : p.tables.exec = Jvm.exec) (hb : c.code = cc) {x : Int} (hdg : decode cc pc = .ok (.iand, 1)) (k : W p l e R s m args below meth c H locs cells slots Q (F0 m (pc + 1) ls (.int (ji_n (x % 16)) :: rest))) : W p l e R s m args below meth c H locs cells slots Q (F0 m pc ls (.int (ji_n 15) :: .int (ji_n x) :: rest)) := lv_iand hexec hb hdg (by rw [jb_and15]; exact k)
theorem js_ld (hexec : p.tables.exec = Jvm.exec) (hb : c.code = cc) {b L : Nat} {xs : Nat → Int32} (hX : va_X b L xs s H0) (hbl : b < H0.size) (hbA : ¬ A b) (hS : va_S A H0 H locs) (i : Nat) (hi : i < L) (hL : L < 2147483648) {z y : Int} (hz : z = (i : Int)) (hy : xs i = ji_n y) (hdg : decode cc pc = .ok (.iaload, 1))
    (kk : W p l e R s m args below meth c H locs cells slots Q (F0 m (pc + 1) ls (.int (ji_n y) :: rest))) : W p l e R s m args below meth c H locs cells slots Q (F0 m pc ls (.int (ji_n z) :: .ref b :: rest)) := by
  subst hz
  refine va_sld hexec hb hX hbl hbA hS (ji_in hi hL) hdg ?_
  rw [ji_clamp (by omega), hy]
  exact kk
/-- a writing callee that may make cells -/
theorem cl_wx {P : Int32 → Heap → Prop} (isC isR : List Nat) (hC : isC.map (fun i => wsw[i]?) = wc.map some) (hR : isR.map (fun i => wsw[i]?) = wr.map some) (hnC : va_nd isC = true) (hn : va_nd isR = true) (hdis : ∀ i ∈ isR, i ∉ isC) (hP : va_P D cl wsw H) (hD : va_D A0 wsw) (hS : va_S A0 H0 H locs) (hA : ∀ q, H0.size ≤ q → A0 q)
    (hr : va_Run p l e R s m args below meth c H locs cells slots mc ms (F0 m pc ls st0) rest (wr_Qi P (va_A wc H.size) a) (va_A wc H.size))
    (kk : ∀ (r : Int32) (H1 : Heap) (locs1 : List Loc), P r H1 → (∀ w1 : va_W, w1.map (fun q => q.1) = wc.map (fun q => q.1) → va_P D cl w1 H1 → va_P D cl (wr ++ w1) H1 ∧ va_D A0 (wr ++ w1)) → va_S A0 H0 H1 locs1 → W p l e R s m args below meth c H1 locs1 (cells + mc) (slots + ms) Q (F0 m (pc + 3) ls (.int r :: rest))) : W p l e R s m args below meth c H locs cells slots Q (F0 m pc ls st0) := by
  have hF := va_free (wc := wc) hD hS hA isC hC
  have hDc : va_D (va_A wc H.size) wc := (hD.sub isC hnC hC).self
  refine va_calli hr hS (fun q _ h => hF q h) hF (fun r u t H1 locs1 ht hvm hp hB hz hk hS1 => ?_)
  cases hp
  rw [ht] at hB
  exact kk r H1 locs1 hB (fun w1 e1 hP1 => va_join hP hD isC isR hC hR hn hdis hk hF hP1 (va_D_ad hDc e1)) hS1
end JL
set_option maxHeartbeats 4000000 in
set_option maxRecDepth 100000 in
theorem lw_loop {p : Program} {e : Env} {s : State} {m : MethodId} {below : List Frame} {meth : Method} {c : Code} (l : Launch) (hlt : l.stackTraces = false) {b L : Nat} {xs : Nat → Int32} (hL : L ≤ 2560) (C0 : lw_At p s m meth c b L xs) (dC : Nat → ClassId) (dI : Nat → Nat → Nat) (cI cL : ClassId) (o : Nat) (u v w x : Nat → Nat) (A9 : Nat → Prop) (hA : ∀ q, s.heap.size ≤ q → A9 q) (hA2 : ∀ q, A9 q → s.heap.size ≤ q) (hN : kn_K dC dI cI s) (hKL : va_K (dC, dI) vwCl [(cL, .long)] s) (hE : ex_K A9 s s.heap)
    (hD0 : ∃ gO f0 f1 f2 g0 g1 g2 st fm vl m0 m1 m2 k0 k1 k2 sz, va_D A9 (wl_W o cL cI u v w x gO 0 f0 f1 f2 0 g0 g1 g2 st fm vl 0 0 m0 m1 m2 k0 k1 k2 sz)) :
    ∀ t, t ≤ L / 5 → ∀ (ls : Array Slot), lv_has ls 7 [(4, .int (ji_n ((5 * t : Nat) : Int))), (0, .ref b), (1, .ref (u 0)), (2, .ref (x 0)), (3, .ref o)] → ∀ (H : Heap) (locs : List Loc), li_I dC dI o cL cI u v w x H → va_S A9 s.heap H locs → W p l e room_1 s m #[Value.ref b] below meth c H locs (22 + t) (793 + 6 * t) (lw_Z below #[Value.ref b] s) (F0 m 23 ls []) := by
  obtain ⟨hx, hb, hr, hml, hown, hts0, hX, hbl, hlocks, hgv⟩ := C0
  have hts : ∀ w ∈ Cond.initialized "SpanDeskLaw" :: tb_W, w.before #[Value.ref b] s = true := fun w h => (List.mem_cons.mp h).elim (fun q => by rw [q]; exact hts0 _ (List.mem_filter.mp tm_0).1) (fun q => hts0 w (List.mem_filter.mp q).1)
  have hbA : ¬ A9 b := fun h => Nat.not_lt.mpr (hA2 b h) hbl
  obtain ⟨i0, i1, i2, i3, i4, i5, i6, i7, i8, i9, i10, i11, i12, i13, i14, i15, i16, hD0⟩ := hD0
  refine lp_up (L / 5) ?_
  intro t ht ih ls hl H locs hI hS
  obtain ⟨nP, K, A, B, n, K', A', B', z, gO, f0, f1, f2, g0, g1, g2, st, fm, vl, th, m0, m1, m2, k0, k1, k2, sz, hn, hg, hF, hM, hAS, hG, hSS, hKK, hsz, hP⟩ := hI
  have hD : va_D A9 (wl_W o cL cI u v w x gO nP f0 f1 f2 n g0 g1 g2 st fm vl th (sp_pz z n) m0 m1 m2 k0 k1 k2 sz) := va_D_ad hD0 rfl
  have hf0 : 22 + t + 0 ≤ room_1.cells ∧ 793 + 6 * t + 0 ≤ room_1.slots := by
    show 22 + t + 0 ≤ 1049 ∧ 793 + 6 * t + 0 ≤ 9003
    omega
  have hf1 : 22 + t + 1 ≤ room_1.cells ∧ 793 + 6 * t + 6 ≤ room_1.slots := by
    show 22 + t + 1 ≤ 1049 ∧ 793 + 6 * t + 6 ≤ 9003
    omega
  have hf2 : 22 + t + 1 + 0 ≤ room_1.cells ∧ 793 + 6 * t + 6 + 0 ≤ room_1.slots := by
    show 22 + t + 1 + 0 ≤ 1049 ∧ 793 + 6 * t + 6 + 0 ≤ 9003
    omega
  refine lv_iload hx hb dL_law_23 (lv_at hl 0 rfl) ?_
  refine lv_aload_n hx hb dL_law_25 rfl (lv_at hl 1 rfl) ?_
  refine va_slen hx hb hX hbl hbA hS dL_law_26 ?_
  refine jn_top (v := (L : Int)) (ji_nI L) ?_
  refine jn_iconst hx hb dL_law_27 ?_
  refine jn_isub hx hb dL_law_28 (v := (L : Int) - 5) rfl ?_
  refine jn_icmp_gt hx hb dL_law_29 (tgt := 520) rfl (by unfold ji_r; omega) (by unfold ji_r; omega) (fun hc => ?_) (fun hc => ?_)
  · skip
    refine lv_iconst hx hb dL_law_520 (v := 1) rfl ?_
    refine va_forget (fun q hq => hA2 _ (hS.2.2 q hq)) ?_
    refine W.widen (k := 1049) (n := 9003) (by omega) (by omega) ?_
    exact lw_ret hx hb hr hlocks dL_law_521
  · skip
    have htl : t < L / 5 := by omega
    have hnext1 : ∀ (ls : Array Slot), lv_has ls 7 [(4, .int (ji_n ((5 * t : Nat) : Int))), (0, .ref b), (1, .ref (u 0)), (2, .ref (x 0)), (3, .ref o)] → ∀ (H : Heap) (locs : List Loc), li_I dC dI o cL cI u v w x H → va_S A9 s.heap H locs → W p l e room_1 s m #[Value.ref b] below meth c H locs (22 + t + 1) (793 + 6 * t + 6) (lw_Z below #[Value.ref b] s) (F0 m 514 ls []) := by
      intro ls hl H locs hI hS
      refine jn_iinc (lv' := [(4, .int (ji_n (((5 * t : Nat) : Int) + 5))), (0, .ref b), (1, .ref (u 0)), (2, .ref (x 0)), (3, .ref o)]) (k := 0) (v := ((5 * t : Nat) : Int) + 5) hx hb dL_law_514 hl rfl rfl (by decide) rfl (fun ls hl => ?_)
      refine lv_goto hx hb dL_law_517 (tgt := 23) rfl ?_
      rw [show ji_n (((5 * t : Nat) : Int) + 5) = ji_n ((5 * (t + 1) : Nat) : Int) from congrArg ji_n (by omega)] at hl
      refine W.widen (k := 22 + (t + 1)) (n := 793 + 6 * (t + 1)) (by omega) (by omega) ?_
      exact ih htl ls hl H locs hI hS
    have hnext : ∀ (ls : Array Slot), lv_has ls 7 [(4, .int (ji_n ((5 * t : Nat) : Int))), (0, .ref b), (1, .ref (u 0)), (2, .ref (x 0)), (3, .ref o)] → ∀ (H : Heap) (locs : List Loc), li_I dC dI o cL cI u v w x H → va_S A9 s.heap H locs → W p l e room_1 s m #[Value.ref b] below meth c H locs (22 + t) (793 + 6 * t) (lw_Z below #[Value.ref b] s) (F0 m 514 ls []) := fun ls hl H locs hI hS => W.widen (k := 22 + t + 1) (n := 793 + 6 * t + 6) (by omega) (by omega) (hnext1 ls hl H locs hI hS)
    obtain ⟨a0, r0, e0⟩ := ji_ex (xs (5 * t))
    obtain ⟨a1, r1, e1⟩ := ji_ex (xs (5 * t + 1))
    obtain ⟨a2, r2, e2⟩ := ji_ex (xs (5 * t + 2))
    obtain ⟨a3, r3, e3⟩ := ji_ex (xs (5 * t + 3))
    obtain ⟨a4, r4, e4⟩ := ji_ex (xs (5 * t + 4))
    refine lv_aload_n hx hb dL_law_32 rfl (lv_at hl 1 rfl) ?_
    refine lv_iload hx hb dL_law_33 (lv_at hl 0 rfl) ?_
    refine js_ld hx hb hX hbl hbA hS (5 * t) (by omega) (by omega) (by omega) e0 dL_law_35 ?_
    refine jn_bipush hx hb dL_law_36 (by decide) ?_
    refine jn_and15 hx hb dL_law_38 ?_
    rcases (show a0 % 16 = 0 ∨ a0 % 16 = 1 ∨ a0 % 16 = 2 ∨ a0 % 16 = 3 ∨ a0 % 16 = 4 ∨ a0 % 16 = 5 ∨ a0 % 16 = 6 ∨ a0 % 16 = 7 ∨ a0 % 16 = 8 ∨ a0 % 16 = 9 ∨ a0 % 16 = 10 ∨ a0 % 16 = 11 ∨ 11 < a0 % 16 from by omega) with hk | hk | hk | hk | hk | hk | hk | hk | hk | hk | hk | hk | hk
    · skip
      refine jn_top (v := 0) (congrArg ji_n hk) ?_
      refine lv_tableIn hx hb dL_law_39 (tgt := 100) (by decide) (by decide) rfl rfl ?_
      refine lv_aload_n hx hb dL_law_100 rfl (lv_at hl 2 rfl) ?_
      refine lv_aload_n hx hb dL_law_101 rfl (lv_at hl 1 rfl) ?_
      refine lv_iload hx hb dL_law_102 (lv_at hl 0 rfl) ?_
      refine jn_iconst hx hb dL_law_104 ?_
      refine jn_iadd hx hb dL_law_105 (v := ((5 * t : Nat) : Int) + 1) rfl ?_
      refine js_ld hx hb hX hbl hbA hS (5 * t + 1) (by omega) (by omega) (by omega) e1 dL_law_106 ?_
      refine lv_aload_n hx hb dL_law_107 rfl (lv_at hl 1 rfl) ?_
      refine lv_iload hx hb dL_law_108 (lv_at hl 0 rfl) ?_
      refine jn_iconst hx hb dL_law_110 ?_
      refine jn_iadd hx hb dL_law_111 (v := ((5 * t : Nat) : Int) + 2) rfl ?_
      refine js_ld hx hb hX hbl hbA hS (5 * t + 2) (by omega) (by omega) (by omega) e2 dL_law_112 ?_
      refine lv_aload_n hx hb dL_law_113 rfl (lv_at hl 1 rfl) ?_
      refine lv_iload hx hb dL_law_114 (lv_at hl 0 rfl) ?_
      refine jn_iconst hx hb dL_law_116 ?_
      refine jn_iadd hx hb dL_law_117 (v := ((5 * t : Nat) : Int) + 3) rfl ?_
      refine js_ld hx hb hX hbl hbA hS (5 * t + 3) (by omega) (by omega) (by omega) e3 dL_law_118 ?_
      refine lv_aload_n hx hb dL_law_119 rfl (lv_at hl 1 rfl) ?_
      refine lv_iload hx hb dL_law_120 (lv_at hl 0 rfl) ?_
      refine jn_iconst hx hb dL_law_122 ?_
      refine jn_iadd hx hb dL_law_123 (v := ((5 * t : Nat) : Int) + 4) rfl ?_
      refine js_ld hx hb hX hbl hbA hS (5 * t + 4) (by omega) (by omega) (by omega) e4 dL_law_124 ?_
      refine cl_wi (wc := wo_D u v w cI nP f0 f1 f2 n g0 g1 g2 st fm vl) (wr := [0, 14, 15, 16, 17, 18, 19, 20, 21].filterMap (fun i => (wl_W o cL cI u v w x gO nP f0 f1 f2 n g0 g1 g2 st fm vl th (sp_pz z n) m0 m1 m2 k0 k1 k2 sz)[i]?)) [1, 2, 3, 4, 5, 6, 7, 8, 9, 10, 11, 12, 13] [0, 14, 15, 16, 17, 18, 19, 20, 21] rfl rfl (by decide) (by decide) (by decide) hP hD hS hA (va_runV (As := [.int (ji_n a1), .int (ji_n a2), .int (ji_n a3), .int (ji_n a4)]) (rest := []) ⟨hx, hb, hml, hown, hts⟩ (cd_insert l H.size dC dI cI u v w nP f0 f1 f2 n g0 g1 g2 st fm vl K A B hn hF a1 a2 a3 a4 r1 r2 r3 r4) (cwV 4 hts (ub_V tm_81 tm_82 tm_83 tm_1 tm_84) rfl rfl rfl (by decide +kernel) ⟨Nat.le_of_ble_eq_true rfl, Nat.le_of_ble_eq_true rfl⟩) (pv_wr (q0 := 0) (ci := 2) hN (hP.sub [1, 2, 3, 4, 5, 6, 7, 8, 9, 10, 11, 12, 13] rfl) (hD.sub [1, 2, 3, 4, 5, 6, 7, 8, 9, 10, 11, 12, 13] (by decide) rfl) rfl rfl) rfl rfl hl.1 rfl (lv_room (Nat.le_of_ble_eq_true rfl)) dL_law_125 hf0) (fun r9 H locs hPs hj hS => ?_)
      rcases hPs with ⟨rfl, hgd, hlt9, i, hy1, hi, q0, q1, q2, hPs, hF2⟩ | ⟨rfl, hno, hPs⟩
      · skip
        obtain ⟨hP, hD⟩ := hj (wo_D u v w cI (nP + 1) q0 q1 q2 n g0 g1 g2 st fm vl) rfl hPs
        have hP := hP.sub (ws' := (o, .inl (cL, 1, .inr (.inl gO))) :: (wo_D u v w cI (nP + 1) q0 q1 q2 n g0 g1 g2 st fm vl ++ wo_M x cI th ((nP : Nat) : Int) ((n : Nat) : Int) (sp_pz z n) m0 m1 m2 k0 k1 k2 sz)) [0, 9, 10, 11, 12, 13, 14, 15, 16, 17, 18, 19, 20, 21, 1, 2, 3, 4, 5, 6, 7, 8] rfl
        have hD := hD.sub (ws' := (o, .inl (cL, 1, .inr (.inl gO))) :: (wo_D u v w cI (nP + 1) q0 q1 q2 n g0 g1 g2 st fm vl ++ wo_M x cI th ((nP : Nat) : Int) ((n : Nat) : Int) (sp_pz z n) m0 m1 m2 k0 k1 k2 sz)) [0, 9, 10, 11, 12, 13, 14, 15, 16, 17, 18, 19, 20, 21, 1, 2, 3, 4, 5, 6, 7, 8] (by decide) rfl
        refine lv_aload_n hx hb dL_law_128 rfl (lv_at hl 3 rfl) ?_
        refine lv_aload_n hx hb dL_law_129 rfl (lv_at hl 1 rfl) ?_
        refine lv_iload hx hb dL_law_130 (lv_at hl 0 rfl) ?_
        refine jn_iconst hx hb dL_law_132 ?_
        refine jn_iadd hx hb dL_law_133 (v := ((5 * t : Nat) : Int) + 1) rfl ?_
        refine js_ld hx hb hX hbl hbA hS (5 * t + 1) (by omega) (by omega) (by omega) e1 dL_law_134 ?_
        refine lv_aload_n hx hb dL_law_135 rfl (lv_at hl 1 rfl) ?_
        refine lv_iload hx hb dL_law_136 (lv_at hl 0 rfl) ?_
        refine jn_iconst hx hb dL_law_138 ?_
        refine jn_iadd hx hb dL_law_139 (v := ((5 * t : Nat) : Int) + 2) rfl ?_
        refine js_ld hx hb hX hbl hbA hS (5 * t + 2) (by omega) (by omega) (by omega) e2 dL_law_140 ?_
        refine lv_aload_n hx hb dL_law_141 rfl (lv_at hl 1 rfl) ?_
        refine lv_iload hx hb dL_law_142 (lv_at hl 0 rfl) ?_
        refine jn_iconst hx hb dL_law_144 ?_
        refine jn_iadd hx hb dL_law_145 (v := ((5 * t : Nat) : Int) + 3) rfl ?_
        refine js_ld hx hb hX hbl hbA hS (5 * t + 3) (by omega) (by omega) (by omega) e3 dL_law_146 ?_
        refine lv_aload_n hx hb dL_law_147 rfl (lv_at hl 1 rfl) ?_
        refine lv_iload hx hb dL_law_148 (lv_at hl 0 rfl) ?_
        refine jn_iconst hx hb dL_law_150 ?_
        refine jn_iadd hx hb dL_law_151 (v := ((5 * t : Nat) : Int) + 4) rfl ?_
        refine js_ld hx hb hX hbl hbA hS (5 * t + 4) (by omega) (by omega) (by omega) e4 dL_law_152 ?_
        refine cl_wi (wc := wo_M x cI th ((nP : Nat) : Int) ((n : Nat) : Int) (sp_pz z n) m0 m1 m2 k0 k1 k2 sz) (wr := [0, 1, 2, 3, 4, 5, 6, 7, 8, 9, 10, 11, 12, 13].filterMap (fun i => ((o, .inl (cL, 1, .inr (.inl gO))) :: (wo_D u v w cI (nP + 1) q0 q1 q2 n g0 g1 g2 st fm vl ++ wo_M x cI th ((nP : Nat) : Int) ((n : Nat) : Int) (sp_pz z n) m0 m1 m2 k0 k1 k2 sz))[i]?)) [14, 15, 16, 17, 18, 19, 20, 21] [0, 1, 2, 3, 4, 5, 6, 7, 8, 9, 10, 11, 12, 13] rfl rfl (by decide) (by decide) (by decide) hP hD hS hA (va_runV (As := [.int (ji_n a1), .int (ji_n a2), .int (ji_n a3), .int (ji_n a4)]) (rest := [.int (ji_n 1)]) ⟨hx, hb, hml, hown, hts⟩ (cm_insert l H.size dC dI cI x th (sp_pz z n) nP n m0 m1 m2 k0 k1 k2 sz K A B hn hM a1 a2 a3 a4 r1 r2 r3 r4) (cwV 4 hts (ub_V tm_396 tm_397 tm_398 tm_5 tm_399) rfl rfl rfl (by decide +kernel) ⟨Nat.le_of_ble_eq_true rfl, Nat.le_of_ble_eq_true rfl⟩) (pv_wr (q0 := 0) (ci := 3) hN (hP.sub [14, 15, 16, 17, 18, 19, 20, 21] rfl) (hD.sub [14, 15, 16, 17, 18, 19, 20, 21] (by decide) rfl) rfl rfl) rfl rfl hl.1 rfl (lv_room (Nat.le_of_ble_eq_true rfl)) dL_law_153 hf0) (fun r9 H locs hPs hj hS => ?_)
        rcases hPs with ⟨rfl, hgd2, hlt2, i2, hy2, hi2, p0, p1, p2, hPs, hM2⟩ | ⟨rfl, hno, hPs⟩
        · skip
          obtain rfl : i2 = i := by omega
          obtain ⟨hP, hD⟩ := hj (wo_M x cI 0 (((nP + 1) : Nat) : Int) ((n : Nat) : Int) (sp_pz z n) p0 p1 p2 k0 k1 k2 sz) rfl hPs
          have hP : va_P (dC, dI) vwCl (wl_W o cL cI u v w x gO (nP + 1) q0 q1 q2 n g0 g1 g2 st fm vl 0 (sp_pz z n) p0 p1 p2 k0 k1 k2 sz) H := hP
          have hD : va_D A9 (wl_W o cL cI u v w x gO (nP + 1) q0 q1 q2 n g0 g1 g2 st fm vl 0 (sp_pz z n) p0 p1 p2 k0 k1 k2 sz) := hD
          refine lv_icmp_eq hx hb dL_law_156 (tgt := 514) rfl (fun _ => ?_) (fun h => absurd rfl h)
          exact hnext ls hl H locs ⟨nP + 1, sp_in K i2 a2, sp_in A i2 a3, sp_in B i2 a4, n, K', A', B', z, _, _, _, _, _, _, _, _, _, _, _, _, _, _, _, _, _, _, (by omega), sp_gp_in hg hgd hi, hF2, hM2, hAS, hG, hSS, hKK, hsz, hP⟩ hS
        · skip
          exact absurd ⟨hgd, hlt9, by omega, by omega⟩ hno
      · skip
        obtain ⟨hP, hD⟩ := hj (wo_D u v w cI nP f0 f1 f2 n g0 g1 g2 st fm vl) rfl hPs
        have hP := hP.sub (ws' := wl_W o cL cI u v w x gO nP f0 f1 f2 n g0 g1 g2 st fm vl th (sp_pz z n) m0 m1 m2 k0 k1 k2 sz) [0, 9, 10, 11, 12, 13, 14, 15, 16, 17, 18, 19, 20, 21, 1, 2, 3, 4, 5, 6, 7, 8] rfl
        have hD := hD.sub (ws' := wl_W o cL cI u v w x gO nP f0 f1 f2 n g0 g1 g2 st fm vl th (sp_pz z n) m0 m1 m2 k0 k1 k2 sz) [0, 9, 10, 11, 12, 13, 14, 15, 16, 17, 18, 19, 20, 21, 1, 2, 3, 4, 5, 6, 7, 8] (by decide) rfl
        have hP : va_P (dC, dI) vwCl (wl_W o cL cI u v w x gO nP f0 f1 f2 n g0 g1 g2 st fm vl th (sp_pz z n) m0 m1 m2 k0 k1 k2 sz) H := hP
        have hD : va_D A9 (wl_W o cL cI u v w x gO nP f0 f1 f2 n g0 g1 g2 st fm vl th (sp_pz z n) m0 m1 m2 k0 k1 k2 sz) := hD
        refine lv_aload_n hx hb dL_law_128 rfl (lv_at hl 3 rfl) ?_
        refine lv_aload_n hx hb dL_law_129 rfl (lv_at hl 1 rfl) ?_
        refine lv_iload hx hb dL_law_130 (lv_at hl 0 rfl) ?_
        refine jn_iconst hx hb dL_law_132 ?_
        refine jn_iadd hx hb dL_law_133 (v := ((5 * t : Nat) : Int) + 1) rfl ?_
        refine js_ld hx hb hX hbl hbA hS (5 * t + 1) (by omega) (by omega) (by omega) e1 dL_law_134 ?_
        refine lv_aload_n hx hb dL_law_135 rfl (lv_at hl 1 rfl) ?_
        refine lv_iload hx hb dL_law_136 (lv_at hl 0 rfl) ?_
        refine jn_iconst hx hb dL_law_138 ?_
        refine jn_iadd hx hb dL_law_139 (v := ((5 * t : Nat) : Int) + 2) rfl ?_
        refine js_ld hx hb hX hbl hbA hS (5 * t + 2) (by omega) (by omega) (by omega) e2 dL_law_140 ?_
        refine lv_aload_n hx hb dL_law_141 rfl (lv_at hl 1 rfl) ?_
        refine lv_iload hx hb dL_law_142 (lv_at hl 0 rfl) ?_
        refine jn_iconst hx hb dL_law_144 ?_
        refine jn_iadd hx hb dL_law_145 (v := ((5 * t : Nat) : Int) + 3) rfl ?_
        refine js_ld hx hb hX hbl hbA hS (5 * t + 3) (by omega) (by omega) (by omega) e3 dL_law_146 ?_
        refine lv_aload_n hx hb dL_law_147 rfl (lv_at hl 1 rfl) ?_
        refine lv_iload hx hb dL_law_148 (lv_at hl 0 rfl) ?_
        refine jn_iconst hx hb dL_law_150 ?_
        refine jn_iadd hx hb dL_law_151 (v := ((5 * t : Nat) : Int) + 4) rfl ?_
        refine js_ld hx hb hX hbl hbA hS (5 * t + 4) (by omega) (by omega) (by omega) e4 dL_law_152 ?_
        refine cl_wi (wc := wo_M x cI th ((nP : Nat) : Int) ((n : Nat) : Int) (sp_pz z n) m0 m1 m2 k0 k1 k2 sz) (wr := [0, 1, 2, 3, 4, 5, 6, 7, 8, 9, 10, 11, 12, 13].filterMap (fun i => (wl_W o cL cI u v w x gO nP f0 f1 f2 n g0 g1 g2 st fm vl th (sp_pz z n) m0 m1 m2 k0 k1 k2 sz)[i]?)) [14, 15, 16, 17, 18, 19, 20, 21] [0, 1, 2, 3, 4, 5, 6, 7, 8, 9, 10, 11, 12, 13] rfl rfl (by decide) (by decide) (by decide) hP hD hS hA (va_runV (As := [.int (ji_n a1), .int (ji_n a2), .int (ji_n a3), .int (ji_n a4)]) (rest := [.int (ji_n 0)]) ⟨hx, hb, hml, hown, hts⟩ (cm_insert l H.size dC dI cI x th (sp_pz z n) nP n m0 m1 m2 k0 k1 k2 sz K A B hn hM a1 a2 a3 a4 r1 r2 r3 r4) (cwV 4 hts (ub_V tm_396 tm_397 tm_398 tm_5 tm_399) rfl rfl rfl (by decide +kernel) ⟨Nat.le_of_ble_eq_true rfl, Nat.le_of_ble_eq_true rfl⟩) (pv_wr (q0 := 0) (ci := 3) hN (hP.sub [14, 15, 16, 17, 18, 19, 20, 21] rfl) (hD.sub [14, 15, 16, 17, 18, 19, 20, 21] (by decide) rfl) rfl rfl) rfl rfl hl.1 rfl (lv_room (Nat.le_of_ble_eq_true rfl)) dL_law_153 hf0) (fun r9 H locs hPs hj hS => ?_)
        rcases hPs with ⟨rfl, hgd2, hlt2, i2, hy2, hi2, p0, p1, p2, hPs, hM2⟩ | ⟨rfl, hno2, hPs⟩
        · skip
          exact absurd ⟨hgd2, hlt2, by omega, by omega⟩ hno
        · skip
          obtain ⟨hP, hD⟩ := hj (wo_M x cI 0 ((nP : Nat) : Int) ((n : Nat) : Int) (sp_pz z n) m0 m1 m2 k0 k1 k2 sz) rfl hPs
          have hP : va_P (dC, dI) vwCl (wl_W o cL cI u v w x gO nP f0 f1 f2 n g0 g1 g2 st fm vl 0 (sp_pz z n) m0 m1 m2 k0 k1 k2 sz) H := hP
          have hD : va_D A9 (wl_W o cL cI u v w x gO nP f0 f1 f2 n g0 g1 g2 st fm vl 0 (sp_pz z n) m0 m1 m2 k0 k1 k2 sz) := hD
          refine lv_icmp_eq hx hb dL_law_156 (tgt := 514) rfl (fun _ => ?_) (fun h => absurd rfl h)
          exact hnext ls hl H locs ⟨nP, K, A, B, n, K', A', B', z, _, _, _, _, _, _, _, _, _, _, _, _, _, _, _, _, _, _, hn, hg, hF, hM, hAS, hG, hSS, hKK, hsz, hP⟩ hS
    · skip
      refine jn_top (v := 1) (congrArg ji_n hk) ?_
      refine lv_tableIn hx hb dL_law_39 (tgt := 161) (by decide) (by decide) rfl rfl ?_
      refine lv_aload_n hx hb dL_law_161 rfl (lv_at hl 2 rfl) ?_
      refine lv_aload_n hx hb dL_law_162 rfl (lv_at hl 1 rfl) ?_
      refine lv_iload hx hb dL_law_163 (lv_at hl 0 rfl) ?_
      refine jn_iconst hx hb dL_law_165 ?_
      refine jn_iadd hx hb dL_law_166 (v := ((5 * t : Nat) : Int) + 1) rfl ?_
      refine js_ld hx hb hX hbl hbA hS (5 * t + 1) (by omega) (by omega) (by omega) e1 dL_law_167 ?_
      refine cl_wi (wc := wo_D u v w cI nP f0 f1 f2 n g0 g1 g2 st fm vl) (wr := [0, 14, 15, 16, 17, 18, 19, 20, 21].filterMap (fun i => (wl_W o cL cI u v w x gO nP f0 f1 f2 n g0 g1 g2 st fm vl th (sp_pz z n) m0 m1 m2 k0 k1 k2 sz)[i]?)) [1, 2, 3, 4, 5, 6, 7, 8, 9, 10, 11, 12, 13] [0, 14, 15, 16, 17, 18, 19, 20, 21] rfl rfl (by decide) (by decide) (by decide) hP hD hS hA (va_runV (As := [.int (ji_n a1)]) (rest := []) ⟨hx, hb, hml, hown, hts⟩ (cd_remove l H.size dC dI cI u v w nP f0 f1 f2 n g0 g1 g2 st fm vl K A B hn hF a1 r1) (cwV 1 hts (ub_V tm_105 tm_106 tm_107 tm_1 tm_108) rfl rfl rfl (by decide +kernel) ⟨Nat.le_of_ble_eq_true rfl, Nat.le_of_ble_eq_true rfl⟩) (pv_wr (q0 := 0) (ci := 2) hN (hP.sub [1, 2, 3, 4, 5, 6, 7, 8, 9, 10, 11, 12, 13] rfl) (hD.sub [1, 2, 3, 4, 5, 6, 7, 8, 9, 10, 11, 12, 13] (by decide) rfl) rfl rfl) rfl rfl hl.1 rfl (lv_room (Nat.le_of_ble_eq_true rfl)) dL_law_168 hf0) (fun r9 H locs hPs hj hS => ?_)
      rcases hPs with ⟨rfl, i, k9, hy1, hk9, hi, q0, q1, q2, hPs, hF2⟩ | ⟨rfl, hno, hPs⟩
      · skip
        obtain ⟨hP, hD⟩ := hj (wo_D u v w cI k9 q0 q1 q2 n g0 g1 g2 st fm vl) rfl hPs
        have hP := hP.sub (ws' := (o, .inl (cL, 1, .inr (.inl gO))) :: (wo_D u v w cI k9 q0 q1 q2 n g0 g1 g2 st fm vl ++ wo_M x cI th ((nP : Nat) : Int) ((n : Nat) : Int) (sp_pz z n) m0 m1 m2 k0 k1 k2 sz)) [0, 9, 10, 11, 12, 13, 14, 15, 16, 17, 18, 19, 20, 21, 1, 2, 3, 4, 5, 6, 7, 8] rfl
        have hD := hD.sub (ws' := (o, .inl (cL, 1, .inr (.inl gO))) :: (wo_D u v w cI k9 q0 q1 q2 n g0 g1 g2 st fm vl ++ wo_M x cI th ((nP : Nat) : Int) ((n : Nat) : Int) (sp_pz z n) m0 m1 m2 k0 k1 k2 sz)) [0, 9, 10, 11, 12, 13, 14, 15, 16, 17, 18, 19, 20, 21, 1, 2, 3, 4, 5, 6, 7, 8] (by decide) rfl
        refine lv_aload_n hx hb dL_law_171 rfl (lv_at hl 3 rfl) ?_
        refine lv_aload_n hx hb dL_law_172 rfl (lv_at hl 1 rfl) ?_
        refine lv_iload hx hb dL_law_173 (lv_at hl 0 rfl) ?_
        refine jn_iconst hx hb dL_law_175 ?_
        refine jn_iadd hx hb dL_law_176 (v := ((5 * t : Nat) : Int) + 1) rfl ?_
        refine js_ld hx hb hX hbl hbA hS (5 * t + 1) (by omega) (by omega) (by omega) e1 dL_law_177 ?_
        refine cl_wi (wc := wo_M x cI th ((nP : Nat) : Int) ((n : Nat) : Int) (sp_pz z n) m0 m1 m2 k0 k1 k2 sz) (wr := [0, 1, 2, 3, 4, 5, 6, 7, 8, 9, 10, 11, 12, 13].filterMap (fun i => ((o, .inl (cL, 1, .inr (.inl gO))) :: (wo_D u v w cI k9 q0 q1 q2 n g0 g1 g2 st fm vl ++ wo_M x cI th ((nP : Nat) : Int) ((n : Nat) : Int) (sp_pz z n) m0 m1 m2 k0 k1 k2 sz))[i]?)) [14, 15, 16, 17, 18, 19, 20, 21] [0, 1, 2, 3, 4, 5, 6, 7, 8, 9, 10, 11, 12, 13] rfl rfl (by decide) (by decide) (by decide) hP hD hS hA (va_runV (As := [.int (ji_n a1)]) (rest := [.int (ji_n 1)]) ⟨hx, hb, hml, hown, hts⟩ (cm_remove l H.size dC dI cI x th (sp_pz z n) nP n m0 m1 m2 k0 k1 k2 sz K A B hn hM a1 r1) (cwV 1 hts (ub_V tm_406 tm_407 tm_408 tm_5 tm_409) rfl rfl rfl (by decide +kernel) ⟨Nat.le_of_ble_eq_true rfl, Nat.le_of_ble_eq_true rfl⟩) (pv_wr (q0 := 0) (ci := 3) hN (hP.sub [14, 15, 16, 17, 18, 19, 20, 21] rfl) (hD.sub [14, 15, 16, 17, 18, 19, 20, 21] (by decide) rfl) rfl rfl) rfl rfl hl.1 rfl (lv_room (Nat.le_of_ble_eq_true rfl)) dL_law_178 hf0) (fun r9 H locs hPs hj hS => ?_)
        rcases hPs with ⟨rfl, i2, k2_, hy2, hk2, hi2, p0, p1, p2, hPs, hM2⟩ | ⟨rfl, hno, hPs⟩
        · skip
          have hii : i2 = i := by omega
          have hki : k2_ = k9 := by omega
          rw [hki] at hPs hM2
          rw [hii] at hM2
          obtain ⟨hP, hD⟩ := hj (wo_M x cI 0 ((k9 : Nat) : Int) ((n : Nat) : Int) (sp_pz z n) p0 p1 p2 k0 k1 k2 sz) rfl hPs
          have hP : va_P (dC, dI) vwCl (wl_W o cL cI u v w x gO k9 q0 q1 q2 n g0 g1 g2 st fm vl 0 (sp_pz z n) p0 p1 p2 k0 k1 k2 sz) H := hP
          have hD : va_D A9 (wl_W o cL cI u v w x gO k9 q0 q1 q2 n g0 g1 g2 st fm vl 0 (sp_pz z n) p0 p1 p2 k0 k1 k2 sz) := hD
          refine lv_icmp_eq hx hb dL_law_181 (tgt := 514) rfl (fun _ => ?_) (fun h => absurd rfl h)
          exact hnext ls hl H locs ⟨k9, sp_rm K i, sp_rm A i, sp_rm B i, n, K', A', B', z, _, _, _, _, _, _, _, _, _, _, _, _, _, _, _, _, _, _, (by omega), (sp_gp_rm (by rw [← hk9]; exact hg)), hF2, hM2, hAS, hG, hSS, hKK, hsz, hP⟩ hS
        · skip
          exact absurd ⟨by omega, by omega⟩ hno
      · skip
        obtain ⟨hP, hD⟩ := hj (wo_D u v w cI nP f0 f1 f2 n g0 g1 g2 st fm vl) rfl hPs
        have hP := hP.sub (ws' := wl_W o cL cI u v w x gO nP f0 f1 f2 n g0 g1 g2 st fm vl th (sp_pz z n) m0 m1 m2 k0 k1 k2 sz) [0, 9, 10, 11, 12, 13, 14, 15, 16, 17, 18, 19, 20, 21, 1, 2, 3, 4, 5, 6, 7, 8] rfl
        have hD := hD.sub (ws' := wl_W o cL cI u v w x gO nP f0 f1 f2 n g0 g1 g2 st fm vl th (sp_pz z n) m0 m1 m2 k0 k1 k2 sz) [0, 9, 10, 11, 12, 13, 14, 15, 16, 17, 18, 19, 20, 21, 1, 2, 3, 4, 5, 6, 7, 8] (by decide) rfl
        have hP : va_P (dC, dI) vwCl (wl_W o cL cI u v w x gO nP f0 f1 f2 n g0 g1 g2 st fm vl th (sp_pz z n) m0 m1 m2 k0 k1 k2 sz) H := hP
        have hD : va_D A9 (wl_W o cL cI u v w x gO nP f0 f1 f2 n g0 g1 g2 st fm vl th (sp_pz z n) m0 m1 m2 k0 k1 k2 sz) := hD
        refine lv_aload_n hx hb dL_law_171 rfl (lv_at hl 3 rfl) ?_
        refine lv_aload_n hx hb dL_law_172 rfl (lv_at hl 1 rfl) ?_
        refine lv_iload hx hb dL_law_173 (lv_at hl 0 rfl) ?_
        refine jn_iconst hx hb dL_law_175 ?_
        refine jn_iadd hx hb dL_law_176 (v := ((5 * t : Nat) : Int) + 1) rfl ?_
        refine js_ld hx hb hX hbl hbA hS (5 * t + 1) (by omega) (by omega) (by omega) e1 dL_law_177 ?_
        refine cl_wi (wc := wo_M x cI th ((nP : Nat) : Int) ((n : Nat) : Int) (sp_pz z n) m0 m1 m2 k0 k1 k2 sz) (wr := [0, 1, 2, 3, 4, 5, 6, 7, 8, 9, 10, 11, 12, 13].filterMap (fun i => (wl_W o cL cI u v w x gO nP f0 f1 f2 n g0 g1 g2 st fm vl th (sp_pz z n) m0 m1 m2 k0 k1 k2 sz)[i]?)) [14, 15, 16, 17, 18, 19, 20, 21] [0, 1, 2, 3, 4, 5, 6, 7, 8, 9, 10, 11, 12, 13] rfl rfl (by decide) (by decide) (by decide) hP hD hS hA (va_runV (As := [.int (ji_n a1)]) (rest := [.int (ji_n 0)]) ⟨hx, hb, hml, hown, hts⟩ (cm_remove l H.size dC dI cI x th (sp_pz z n) nP n m0 m1 m2 k0 k1 k2 sz K A B hn hM a1 r1) (cwV 1 hts (ub_V tm_406 tm_407 tm_408 tm_5 tm_409) rfl rfl rfl (by decide +kernel) ⟨Nat.le_of_ble_eq_true rfl, Nat.le_of_ble_eq_true rfl⟩) (pv_wr (q0 := 0) (ci := 3) hN (hP.sub [14, 15, 16, 17, 18, 19, 20, 21] rfl) (hD.sub [14, 15, 16, 17, 18, 19, 20, 21] (by decide) rfl) rfl rfl) rfl rfl hl.1 rfl (lv_room (Nat.le_of_ble_eq_true rfl)) dL_law_178 hf0) (fun r9 H locs hPs hj hS => ?_)
        rcases hPs with ⟨rfl, i2, k2_, hy2, hk2, hi2, p0, p1, p2, hPs, hM2⟩ | ⟨rfl, hno2, hPs⟩
        · skip
          exact absurd ⟨by omega, by omega⟩ hno
        · skip
          obtain ⟨hP, hD⟩ := hj (wo_M x cI 0 ((nP : Nat) : Int) ((n : Nat) : Int) (sp_pz z n) m0 m1 m2 k0 k1 k2 sz) rfl hPs
          have hP : va_P (dC, dI) vwCl (wl_W o cL cI u v w x gO nP f0 f1 f2 n g0 g1 g2 st fm vl 0 (sp_pz z n) m0 m1 m2 k0 k1 k2 sz) H := hP
          have hD : va_D A9 (wl_W o cL cI u v w x gO nP f0 f1 f2 n g0 g1 g2 st fm vl 0 (sp_pz z n) m0 m1 m2 k0 k1 k2 sz) := hD
          refine lv_icmp_eq hx hb dL_law_181 (tgt := 514) rfl (fun _ => ?_) (fun h => absurd rfl h)
          exact hnext ls hl H locs ⟨nP, K, A, B, n, K', A', B', z, _, _, _, _, _, _, _, _, _, _, _, _, _, _, _, _, _, _, hn, hg, hF, hM, hAS, hG, hSS, hKK, hsz, hP⟩ hS
    · skip
      refine jn_top (v := 2) (congrArg ji_n hk) ?_
      refine lv_tableIn hx hb dL_law_39 (tgt := 186) (by decide) (by decide) rfl rfl ?_
      refine lv_aload_n hx hb dL_law_186 rfl (lv_at hl 2 rfl) ?_
      refine cl_rd (va_runV (As := []) (rest := []) ⟨hx, hb, hml, hown, hts⟩ (cd_lines l dC dI cI u v w nP f0 f1 f2 n g0 g1 g2 st fm vl ) (cwV 0 hts (ub_V tm_117 tm_118 tm_119 tm_1 tm_120) rfl rfl rfl (by decide +kernel) ⟨Nat.le_of_ble_eq_true rfl, Nat.le_of_ble_eq_true rfl⟩) (pv_rd (q0 := 0) (ci := 2) hN (hP.sub [1, 2, 3, 4, 5, 6, 7, 8, 9, 10, 11, 12, 13] rfl) rfl rfl) rfl rfl hl.1 rfl (lv_room (Nat.le_of_ble_eq_true rfl)) dL_law_187 hf0) ?_
      refine lv_aload_n hx hb dL_law_190 rfl (lv_at hl 3 rfl) ?_
      refine cl_wi (wc := wo_M x cI th ((nP : Nat) : Int) ((n : Nat) : Int) (sp_pz z n) m0 m1 m2 k0 k1 k2 sz) (wr := [0, 1, 2, 3, 4, 5, 6, 7, 8, 9, 10, 11, 12, 13].filterMap (fun i => (wl_W o cL cI u v w x gO nP f0 f1 f2 n g0 g1 g2 st fm vl th (sp_pz z n) m0 m1 m2 k0 k1 k2 sz)[i]?)) [14, 15, 16, 17, 18, 19, 20, 21] [0, 1, 2, 3, 4, 5, 6, 7, 8, 9, 10, 11, 12, 13] rfl rfl (by decide) (by decide) (by decide) hP hD hS hA (va_runV (As := []) (rest := [.int (ji_n (nP : Int))]) ⟨hx, hb, hml, hown, hts⟩ (cm_lines l H.size dC dI cI x th (sp_pz z n) nP n m0 m1 m2 k0 k1 k2 sz ) (cwV 0 hts (ub_V tm_410 tm_411 tm_412 tm_5 tm_413) rfl rfl rfl (by decide +kernel) ⟨Nat.le_of_ble_eq_true rfl, Nat.le_of_ble_eq_true rfl⟩) (pv_wr (q0 := 0) (ci := 3) hN (hP.sub [14, 15, 16, 17, 18, 19, 20, 21] rfl) (hD.sub [14, 15, 16, 17, 18, 19, 20, 21] (by decide) rfl) rfl rfl) rfl rfl hl.1 rfl (lv_room (Nat.le_of_ble_eq_true rfl)) dL_law_191 hf0) (fun r9 H locs hPs hj hS => ?_)
      obtain ⟨rfl, hPs⟩ := hPs
      obtain ⟨hP, hD⟩ := hj (wo_M x cI 0 ((nP : Nat) : Int) ((n : Nat) : Int) (sp_pz z n) m0 m1 m2 k0 k1 k2 sz) rfl hPs
      have hP : va_P (dC, dI) vwCl (wl_W o cL cI u v w x gO nP f0 f1 f2 n g0 g1 g2 st fm vl 0 (sp_pz z n) m0 m1 m2 k0 k1 k2 sz) H := hP
      have hD : va_D A9 (wl_W o cL cI u v w x gO nP f0 f1 f2 n g0 g1 g2 st fm vl 0 (sp_pz z n) m0 m1 m2 k0 k1 k2 sz) := hD
      refine lv_icmp_eq hx hb dL_law_194 (tgt := 514) rfl (fun _ => ?_) (fun h => absurd rfl h)
      exact hnext ls hl H locs ⟨nP, K, A, B, n, K', A', B', z, _, _, _, _, _, _, _, _, _, _, _, _, _, _, _, _, _, _, hn, hg, hF, hM, hAS, hG, hSS, hKK, hsz, hP⟩ hS
    · skip
      refine jn_top (v := 3) (congrArg ji_n hk) ?_
      refine lv_tableIn hx hb dL_law_39 (tgt := 199) (by decide) (by decide) rfl rfl ?_
      refine lv_aload_n hx hb dL_law_199 rfl (lv_at hl 2 rfl) ?_
      refine lv_aload_n hx hb dL_law_200 rfl (lv_at hl 4 rfl) ?_
      have hFc := va_free (wc := (o, .inl (cL, 1, .inr (.inl gO))) :: wo_D u v w cI nP f0 f1 f2 n g0 g1 g2 st fm vl) hD hS hA [0, 1, 2, 3, 4, 5, 6, 7, 8, 9, 10, 11, 12, 13] rfl
      have hE2 : ex_K (va_A ((o, .inl (cL, 1, .inr (.inl gO))) :: wo_D u v w cI nP f0 f1 f2 n g0 g1 g2 st fm vl) H.size) s H := ex_narrow (ex_kept hE hS.2.1) hFc
      refine cl_wx (wc := (o, .inl (cL, 1, .inr (.inl gO))) :: wo_D u v w cI nP f0 f1 f2 n g0 g1 g2 st fm vl) (wr := [14, 15, 16, 17, 18, 19, 20, 21].filterMap (fun i => (wl_W o cL cI u v w x gO nP f0 f1 f2 n g0 g1 g2 st fm vl th (sp_pz z n) m0 m1 m2 k0 k1 k2 sz)[i]?)) [0, 1, 2, 3, 4, 5, 6, 7, 8, 9, 10, 11, 12, 13] [14, 15, 16, 17, 18, 19, 20, 21] rfl rfl (by decide) (by decide) (by decide) hP hD hS hA (vx_runSW (As := [.ref (u 0), .ref o]) (rest := []) ⟨hx, hb, hml, hown, hts⟩ (cl_assemble l hlt H.size dC dI cI cL o gO u v w nP f0 f1 f2 n g0 g1 g2 st fm vl K A B hn hg hF) (vx_cwSW 2 hts (ub_S tm_202 tm_203 tm_0 tm_204) rfl rfl rfl (by decide +kernel) ⟨Nat.le_of_ble_eq_true rfl, Nat.le_of_ble_eq_true rfl⟩) (ps_x hN hKL hE2 (hP.sub [0, 1, 2, 3, 4, 5, 6, 7, 8, 9, 10, 11, 12, 13] rfl) (hD.sub [0, 1, 2, 3, 4, 5, 6, 7, 8, 9, 10, 11, 12, 13] (by decide) rfl)) rfl rfl hl.1 rfl (lv_room (Nat.le_of_ble_eq_true rfl)) dL_law_201 hf1) (fun r9 H locs hPs hj hS => ?_)
      rcases hPs with ⟨rfl, htw, hPs⟩ | ⟨rfl, htw, hun, hPs⟩ | ⟨rfl, htw, hun, z1, q0, q1, q2, q3, q4, q5, gQ, hgQ, hLC, hG2, hS2, hPs⟩
      · skip
        obtain ⟨hP, hD⟩ := hj ((o, .inl (cL, 1, .inr (.inl gO))) :: wo_D u v w cI nP f0 f1 f2 n g0 g1 g2 st fm vl) rfl hPs
        have hP := hP.sub (ws' := wl_W o cL cI u v w x gO nP f0 f1 f2 n g0 g1 g2 st fm vl th (sp_pz z n) m0 m1 m2 k0 k1 k2 sz) [8, 9, 10, 11, 12, 13, 14, 15, 16, 17, 18, 19, 20, 21, 0, 1, 2, 3, 4, 5, 6, 7] rfl
        have hD := hD.sub (ws' := wl_W o cL cI u v w x gO nP f0 f1 f2 n g0 g1 g2 st fm vl th (sp_pz z n) m0 m1 m2 k0 k1 k2 sz) [8, 9, 10, 11, 12, 13, 14, 15, 16, 17, 18, 19, 20, 21, 0, 1, 2, 3, 4, 5, 6, 7] (by decide) rfl
        have hP : va_P (dC, dI) vwCl (wl_W o cL cI u v w x gO nP f0 f1 f2 n g0 g1 g2 st fm vl th (sp_pz z n) m0 m1 m2 k0 k1 k2 sz) H := hP
        have hD : va_D A9 (wl_W o cL cI u v w x gO nP f0 f1 f2 n g0 g1 g2 st fm vl th (sp_pz z n) m0 m1 m2 k0 k1 k2 sz) := hD
        have hwr : sp_wr nP K A = 1 := by rcases sp_wr_or hg with h | h | h <;> first | exact h.1 | exact absurd htw h.2.1
        refine lv_istore (lv' := [(5, .int (ji_n 1)), (4, .int (ji_n ((5 * t : Nat) : Int))), (0, .ref b), (1, .ref (u 0)), (2, .ref (x 0)), (3, .ref o)]) hx hb dL_law_204 hl (by decide) rfl (fun ls hl => ?_)
        refine lv_aload_n hx hb dL_law_206 rfl (lv_at hl 4 rfl) ?_
        refine cl_wi (wc := wo_M x cI th ((nP : Nat) : Int) ((n : Nat) : Int) (sp_pz z n) m0 m1 m2 k0 k1 k2 sz) (wr := [0, 1, 2, 3, 4, 5, 6, 7, 8, 9, 10, 11, 12, 13].filterMap (fun i => (wl_W o cL cI u v w x gO nP f0 f1 f2 n g0 g1 g2 st fm vl th (sp_pz z n) m0 m1 m2 k0 k1 k2 sz)[i]?)) [14, 15, 16, 17, 18, 19, 20, 21] [0, 1, 2, 3, 4, 5, 6, 7, 8, 9, 10, 11, 12, 13] rfl rfl (by decide) (by decide) (by decide) hP hD hS hA (va_runV (As := []) (rest := []) ⟨hx, hb, hml, hown, hts⟩ (cm_assemble l H.size dC dI cI x th (sp_pz z n) nP n m0 m1 m2 k0 k1 k2 sz K A B hn hg hM) (cwV 0 hts (ub_V tm_414 tm_415 tm_416 tm_5 tm_417) rfl rfl rfl (by decide +kernel) ⟨Nat.le_of_ble_eq_true rfl, Nat.le_of_ble_eq_true rfl⟩) (pv_wr (q0 := 0) (ci := 3) hN (hP.sub [14, 15, 16, 17, 18, 19, 20, 21] rfl) (hD.sub [14, 15, 16, 17, 18, 19, 20, 21] (by decide) rfl) rfl rfl) rfl rfl hl.1 rfl (lv_room (Nat.le_of_ble_eq_true rfl)) dL_law_207 hf2) (fun r9 H locs hPs hj hS => ?_)
        rcases hPs with ⟨hw1, rfl, hPs⟩ | ⟨hw1, hPs⟩
        · skip
          obtain ⟨hP, hD⟩ := hj (wo_M x cI (sp_wr nP K A) ((nP : Nat) : Int) ((n : Nat) : Int) (sp_pz z n) m0 m1 m2 k0 k1 k2 sz) rfl hPs
          have hP : va_P (dC, dI) vwCl (wl_W o cL cI u v w x gO nP f0 f1 f2 n g0 g1 g2 st fm vl (sp_wr nP K A) (sp_pz z n) m0 m1 m2 k0 k1 k2 sz) H := hP
          have hD : va_D A9 (wl_W o cL cI u v w x gO nP f0 f1 f2 n g0 g1 g2 st fm vl (sp_wr nP K A) (sp_pz z n) m0 m1 m2 k0 k1 k2 sz) := hD
          refine lv_istore (lv' := [(6, .int (ji_n 0)), (5, .int (ji_n 1)), (4, .int (ji_n ((5 * t : Nat) : Int))), (0, .ref b), (1, .ref (u 0)), (2, .ref (x 0)), (3, .ref o)]) hx hb dL_law_210 hl (by decide) rfl (fun ls hl => ?_)
          refine lv_aload_n hx hb dL_law_212 rfl (lv_at hl 5 rfl) ?_
          refine cl_rd (va_runV (As := []) (rest := []) ⟨hx, hb, hml, hown, hts⟩ (cm_thrown l dC dI cI x (sp_wr nP K A) (sp_pz z n) nP n m0 m1 m2 k0 k1 k2 sz) (cwV 0 hts (ub_V tm_392 tm_393 tm_394 tm_5 tm_395) rfl rfl rfl (by decide +kernel) ⟨Nat.le_of_ble_eq_true rfl, Nat.le_of_ble_eq_true rfl⟩) (pv_rd (q0 := 0) (ci := 3) hN (hP.sub [14, 15, 16, 17, 18, 19, 20, 21] rfl) rfl rfl) rfl rfl hl.1 rfl (lv_room (Nat.le_of_ble_eq_true rfl)) dL_law_213 hf2) ?_
          refine lv_iload hx hb dL_law_216 (lv_at hl 1 rfl) ?_
          refine jn_icmp_eq hx hb dL_law_218 (tgt := 223) rfl (by unfold ji_r; omega) (by unfold ji_r; omega) (fun _ => ?_) (fun h => absurd (by omega) h)
          refine lv_iload hx hb dL_law_223 (lv_at hl 1 rfl) ?_
          refine jn_if_ne hx hb dL_law_225 (tgt := 240) rfl (by unfold ji_r; omega) (fun _ => ?_) (fun h => absurd h (by omega))
          refine lv_goto hx hb dL_law_240 (tgt := 514) rfl ?_
          have hl : lv_has ls 7 [(4, .int (ji_n ((5 * t : Nat) : Int))), (0, .ref b), (1, .ref (u 0)), (2, .ref (x 0)), (3, .ref o)] := lv_sub hl [2, 3, 4, 5, 6] rfl
          exact hnext1 ls hl H locs ⟨nP, K, A, B, n, K', A', B', z, _, _, _, _, _, _, _, _, _, _, _, _, _, _, _, _, _, _, hn, hg, hF, hM, hAS, hG, hSS, hKK, hsz, hP⟩ hS
        · skip
          exact absurd hw1 (by omega)
      · skip
        obtain ⟨hP, hD⟩ := hj ((o, .inl (cL, 1, .inr (.inl gO))) :: wo_D u v w cI nP f0 f1 f2 n g0 g1 g2 st fm vl) rfl hPs
        have hP := hP.sub (ws' := wl_W o cL cI u v w x gO nP f0 f1 f2 n g0 g1 g2 st fm vl th (sp_pz z n) m0 m1 m2 k0 k1 k2 sz) [8, 9, 10, 11, 12, 13, 14, 15, 16, 17, 18, 19, 20, 21, 0, 1, 2, 3, 4, 5, 6, 7] rfl
        have hD := hD.sub (ws' := wl_W o cL cI u v w x gO nP f0 f1 f2 n g0 g1 g2 st fm vl th (sp_pz z n) m0 m1 m2 k0 k1 k2 sz) [8, 9, 10, 11, 12, 13, 14, 15, 16, 17, 18, 19, 20, 21, 0, 1, 2, 3, 4, 5, 6, 7] (by decide) rfl
        have hP : va_P (dC, dI) vwCl (wl_W o cL cI u v w x gO nP f0 f1 f2 n g0 g1 g2 st fm vl th (sp_pz z n) m0 m1 m2 k0 k1 k2 sz) H := hP
        have hD : va_D A9 (wl_W o cL cI u v w x gO nP f0 f1 f2 n g0 g1 g2 st fm vl th (sp_pz z n) m0 m1 m2 k0 k1 k2 sz) := hD
        have hwr : sp_wr nP K A = 2 := by rcases sp_wr_or hg with h | h | h <;> first | exact h.1 | exact absurd htw h.2.1 | exact absurd h.2 htw | exact absurd hun h.2.2
        refine lv_istore (lv' := [(5, .int (ji_n 2)), (4, .int (ji_n ((5 * t : Nat) : Int))), (0, .ref b), (1, .ref (u 0)), (2, .ref (x 0)), (3, .ref o)]) hx hb dL_law_204 hl (by decide) rfl (fun ls hl => ?_)
        refine lv_aload_n hx hb dL_law_206 rfl (lv_at hl 4 rfl) ?_
        refine cl_wi (wc := wo_M x cI th ((nP : Nat) : Int) ((n : Nat) : Int) (sp_pz z n) m0 m1 m2 k0 k1 k2 sz) (wr := [0, 1, 2, 3, 4, 5, 6, 7, 8, 9, 10, 11, 12, 13].filterMap (fun i => (wl_W o cL cI u v w x gO nP f0 f1 f2 n g0 g1 g2 st fm vl th (sp_pz z n) m0 m1 m2 k0 k1 k2 sz)[i]?)) [14, 15, 16, 17, 18, 19, 20, 21] [0, 1, 2, 3, 4, 5, 6, 7, 8, 9, 10, 11, 12, 13] rfl rfl (by decide) (by decide) (by decide) hP hD hS hA (va_runV (As := []) (rest := []) ⟨hx, hb, hml, hown, hts⟩ (cm_assemble l H.size dC dI cI x th (sp_pz z n) nP n m0 m1 m2 k0 k1 k2 sz K A B hn hg hM) (cwV 0 hts (ub_V tm_414 tm_415 tm_416 tm_5 tm_417) rfl rfl rfl (by decide +kernel) ⟨Nat.le_of_ble_eq_true rfl, Nat.le_of_ble_eq_true rfl⟩) (pv_wr (q0 := 0) (ci := 3) hN (hP.sub [14, 15, 16, 17, 18, 19, 20, 21] rfl) (hD.sub [14, 15, 16, 17, 18, 19, 20, 21] (by decide) rfl) rfl rfl) rfl rfl hl.1 rfl (lv_room (Nat.le_of_ble_eq_true rfl)) dL_law_207 hf2) (fun r9 H locs hPs hj hS => ?_)
        rcases hPs with ⟨hw1, rfl, hPs⟩ | ⟨hw1, hPs⟩
        · skip
          obtain ⟨hP, hD⟩ := hj (wo_M x cI (sp_wr nP K A) ((nP : Nat) : Int) ((n : Nat) : Int) (sp_pz z n) m0 m1 m2 k0 k1 k2 sz) rfl hPs
          have hP : va_P (dC, dI) vwCl (wl_W o cL cI u v w x gO nP f0 f1 f2 n g0 g1 g2 st fm vl (sp_wr nP K A) (sp_pz z n) m0 m1 m2 k0 k1 k2 sz) H := hP
          have hD : va_D A9 (wl_W o cL cI u v w x gO nP f0 f1 f2 n g0 g1 g2 st fm vl (sp_wr nP K A) (sp_pz z n) m0 m1 m2 k0 k1 k2 sz) := hD
          refine lv_istore (lv' := [(6, .int (ji_n 0)), (5, .int (ji_n 2)), (4, .int (ji_n ((5 * t : Nat) : Int))), (0, .ref b), (1, .ref (u 0)), (2, .ref (x 0)), (3, .ref o)]) hx hb dL_law_210 hl (by decide) rfl (fun ls hl => ?_)
          refine lv_aload_n hx hb dL_law_212 rfl (lv_at hl 5 rfl) ?_
          refine cl_rd (va_runV (As := []) (rest := []) ⟨hx, hb, hml, hown, hts⟩ (cm_thrown l dC dI cI x (sp_wr nP K A) (sp_pz z n) nP n m0 m1 m2 k0 k1 k2 sz) (cwV 0 hts (ub_V tm_392 tm_393 tm_394 tm_5 tm_395) rfl rfl rfl (by decide +kernel) ⟨Nat.le_of_ble_eq_true rfl, Nat.le_of_ble_eq_true rfl⟩) (pv_rd (q0 := 0) (ci := 3) hN (hP.sub [14, 15, 16, 17, 18, 19, 20, 21] rfl) rfl rfl) rfl rfl hl.1 rfl (lv_room (Nat.le_of_ble_eq_true rfl)) dL_law_213 hf2) ?_
          refine lv_iload hx hb dL_law_216 (lv_at hl 1 rfl) ?_
          refine jn_icmp_eq hx hb dL_law_218 (tgt := 223) rfl (by unfold ji_r; omega) (by unfold ji_r; omega) (fun _ => ?_) (fun h => absurd (by omega) h)
          refine lv_iload hx hb dL_law_223 (lv_at hl 1 rfl) ?_
          refine jn_if_ne hx hb dL_law_225 (tgt := 240) rfl (by unfold ji_r; omega) (fun _ => ?_) (fun h => absurd h (by omega))
          refine lv_goto hx hb dL_law_240 (tgt := 514) rfl ?_
          have hl : lv_has ls 7 [(4, .int (ji_n ((5 * t : Nat) : Int))), (0, .ref b), (1, .ref (u 0)), (2, .ref (x 0)), (3, .ref o)] := lv_sub hl [2, 3, 4, 5, 6] rfl
          exact hnext1 ls hl H locs ⟨nP, K, A, B, n, K', A', B', z, _, _, _, _, _, _, _, _, _, _, _, _, _, _, _, _, _, _, hn, hg, hF, hM, hAS, hG, hSS, hKK, hsz, hP⟩ hS
        · skip
          exact absurd hw1 (by omega)
      · skip
        have hwr : sp_wr nP K A = 0 := by rcases sp_wr_or hg with h | h | h <;> first | exact absurd h.2 htw | exact absurd h.2.2 hun | exact h.1
        have hu := sp_tw_uq hg htw
        obtain ⟨hP, hD⟩ := hj ((o, .inl (cL, 1, .inr (.inl gQ))) :: wo_D u v w cI nP f0 f1 f2 nP q0 q1 q2 q3 q4 q5) rfl hPs
        have hP := hP.sub (ws' := (o, .inl (cL, 1, .inr (.inl gQ))) :: (wo_D u v w cI nP f0 f1 f2 nP q0 q1 q2 q3 q4 q5 ++ wo_M x cI th ((nP : Nat) : Int) ((n : Nat) : Int) (sp_pz z n) m0 m1 m2 k0 k1 k2 sz)) [8, 9, 10, 11, 12, 13, 14, 15, 16, 17, 18, 19, 20, 21, 0, 1, 2, 3, 4, 5, 6, 7] rfl
        have hD := hD.sub (ws' := (o, .inl (cL, 1, .inr (.inl gQ))) :: (wo_D u v w cI nP f0 f1 f2 nP q0 q1 q2 q3 q4 q5 ++ wo_M x cI th ((nP : Nat) : Int) ((n : Nat) : Int) (sp_pz z n) m0 m1 m2 k0 k1 k2 sz)) [8, 9, 10, 11, 12, 13, 14, 15, 16, 17, 18, 19, 20, 21, 0, 1, 2, 3, 4, 5, 6, 7] (by decide) rfl
        refine lv_istore (lv' := [(5, .int (ji_n 0)), (4, .int (ji_n ((5 * t : Nat) : Int))), (0, .ref b), (1, .ref (u 0)), (2, .ref (x 0)), (3, .ref o)]) hx hb dL_law_204 hl (by decide) rfl (fun ls hl => ?_)
        refine lv_aload_n hx hb dL_law_206 rfl (lv_at hl 4 rfl) ?_
        refine cl_wi (wc := wo_M x cI th ((nP : Nat) : Int) ((n : Nat) : Int) (sp_pz z n) m0 m1 m2 k0 k1 k2 sz) (wr := [0, 1, 2, 3, 4, 5, 6, 7, 8, 9, 10, 11, 12, 13].filterMap (fun i => ((o, .inl (cL, 1, .inr (.inl gQ))) :: (wo_D u v w cI nP f0 f1 f2 nP q0 q1 q2 q3 q4 q5 ++ wo_M x cI th ((nP : Nat) : Int) ((n : Nat) : Int) (sp_pz z n) m0 m1 m2 k0 k1 k2 sz))[i]?)) [14, 15, 16, 17, 18, 19, 20, 21] [0, 1, 2, 3, 4, 5, 6, 7, 8, 9, 10, 11, 12, 13] rfl rfl (by decide) (by decide) (by decide) hP hD hS hA (va_runV (As := []) (rest := []) ⟨hx, hb, hml, hown, hts⟩ (cm_assemble l H.size dC dI cI x th (sp_pz z n) nP n m0 m1 m2 k0 k1 k2 sz K A B hn hg hM) (cwV 0 hts (ub_V tm_414 tm_415 tm_416 tm_5 tm_417) rfl rfl rfl (by decide +kernel) ⟨Nat.le_of_ble_eq_true rfl, Nat.le_of_ble_eq_true rfl⟩) (pv_wr (q0 := 0) (ci := 3) hN (hP.sub [14, 15, 16, 17, 18, 19, 20, 21] rfl) (hD.sub [14, 15, 16, 17, 18, 19, 20, 21] (by decide) rfl) rfl rfl) rfl rfl hl.1 rfl (lv_room (Nat.le_of_ble_eq_true rfl)) dL_law_207 hf2) (fun r9 H locs hPs hj hS => ?_)
        rcases hPs with ⟨hw1, rfl, hPs⟩ | ⟨hw1, z2, p0, p1, p2, p3, rfl, hLC2, hK2, hsz2, hPs⟩
        · skip
          exact absurd hwr hw1
        · skip
          have hzz := sp_LC_uq hLC hLC2
          have hpz : sp_pz z2 nP = sp_pz z1 nP := (sp_pz_congr hzz nP (Nat.le_refl nP)).symm
          rw [hpz] at hPs ⊢
          obtain ⟨hP, hD⟩ := hj (wo_M x cI 0 ((nP : Nat) : Int) ((nP : Nat) : Int) (sp_pz z1 nP) m0 m1 m2 p0 p1 p2 p3) rfl hPs
          have hP : va_P (dC, dI) vwCl (wl_W o cL cI u v w x gQ nP f0 f1 f2 nP q0 q1 q2 q3 q4 q5 0 (sp_pz z1 nP) m0 m1 m2 p0 p1 p2 p3) H := hP
          have hD : va_D A9 (wl_W o cL cI u v w x gQ nP f0 f1 f2 nP q0 q1 q2 q3 q4 q5 0 (sp_pz z1 nP) m0 m1 m2 p0 p1 p2 p3) := hD
          have hAS2 : sp_AS nP K A B z1 := ⟨hn, hg, hLC.1, hu⟩
          have hpb := sp_AS_p hAS2 (Nat.le_refl nP)
          refine lv_istore (lv' := [(6, .int (ji_n (sp_pz z1 nP))), (5, .int (ji_n 0)), (4, .int (ji_n ((5 * t : Nat) : Int))), (0, .ref b), (1, .ref (u 0)), (2, .ref (x 0)), (3, .ref o)]) hx hb dL_law_210 hl (by decide) rfl (fun ls hl => ?_)
          refine lv_aload_n hx hb dL_law_212 rfl (lv_at hl 5 rfl) ?_
          refine cl_rd (va_runV (As := []) (rest := []) ⟨hx, hb, hml, hown, hts⟩ (cm_thrown l dC dI cI x 0 (sp_pz z1 nP) nP nP m0 m1 m2 p0 p1 p2 p3) (cwV 0 hts (ub_V tm_392 tm_393 tm_394 tm_5 tm_395) rfl rfl rfl (by decide +kernel) ⟨Nat.le_of_ble_eq_true rfl, Nat.le_of_ble_eq_true rfl⟩) (pv_rd (q0 := 0) (ci := 3) hN (hP.sub [14, 15, 16, 17, 18, 19, 20, 21] rfl) rfl rfl) rfl rfl hl.1 rfl (lv_room (Nat.le_of_ble_eq_true rfl)) dL_law_213 hf2) ?_
          refine lv_iload hx hb dL_law_216 (lv_at hl 1 rfl) ?_
          refine jn_icmp_eq hx hb dL_law_218 (tgt := 223) rfl (by unfold ji_r; omega) (by unfold ji_r; omega) (fun _ => ?_) (fun h => absurd (by omega) h)
          refine lv_iload hx hb dL_law_223 (lv_at hl 1 rfl) ?_
          refine jn_if_ne hx hb dL_law_225 (tgt := 240) rfl (by unfold ji_r; omega) (fun h => absurd rfl h) (fun _ => ?_)
          refine lv_aload_n hx hb dL_law_228 rfl (lv_at hl 6 rfl) ?_
          refine jn_iconst hx hb dL_law_229 ?_
          refine va_lald hx hb hKL hP 0 0 rfl rfl (i := ji_n 0) (ji_in (n := 0) (N := 1) (by omega) (by omega)) dL_law_230 ?_
          rw [show (ji_n 0).toNatClampNeg = 0 from by decide, hgQ]
          refine lv_iload hx hb dL_law_231 (lv_at hl 0 rfl) ?_
          refine lv_i2l hx hb dL_law_233 (v := (ji_n (sp_pz z1 nP)).toInt64) rfl ?_
          refine W.lcmp hx hb dL_law_234 ?_
          rw [lg_same]
          refine jn_if_eq hx hb dL_law_235 (tgt := 240) rfl (by unfold ji_r; omega) (fun _ => ?_) (fun h => absurd rfl h)
          refine lv_goto hx hb dL_law_240 (tgt := 514) rfl ?_
          have hl : lv_has ls 7 [(4, .int (ji_n ((5 * t : Nat) : Int))), (0, .ref b), (1, .ref (u 0)), (2, .ref (x 0)), (3, .ref o)] := lv_sub hl [2, 3, 4, 5, 6] rfl
          exact hnext1 ls hl H locs ⟨nP, K, A, B, nP, K, A, B, z1, _, _, _, _, _, _, _, _, _, _, _, _, _, _, _, _, _, _, hn, hg, hF, hM, hAS2, hG2, hS2, hK2, (fun j hj => by rw [hsz2 j hj, hzz j hj]), hP⟩ hS
    · skip
      refine jn_top (v := 4) (congrArg ji_n hk) ?_
      refine lv_tableIn hx hb dL_law_39 (tgt := 243) (by decide) (by decide) rfl rfl ?_
      refine lv_aload_n hx hb dL_law_243 rfl (lv_at hl 2 rfl) ?_
      refine lv_aload_n hx hb dL_law_244 rfl (lv_at hl 1 rfl) ?_
      refine lv_iload hx hb dL_law_245 (lv_at hl 0 rfl) ?_
      refine jn_iconst hx hb dL_law_247 ?_
      refine jn_iadd hx hb dL_law_248 (v := ((5 * t : Nat) : Int) + 1) rfl ?_
      refine js_ld hx hb hX hbl hbA hS (5 * t + 1) (by omega) (by omega) (by omega) e1 dL_law_249 ?_
      refine cl_rd (va_runV (As := [.int (ji_n a1)]) (rest := []) ⟨hx, hb, hml, hown, hts⟩ (cd_at l dC dI cI u v w nP f0 f1 f2 n g0 g1 g2 st fm vl K' A' B' z hG hAS hSS a1 r1) (cwV 1 hts (ub_V tm_121 tm_122 tm_123 tm_1 tm_124) rfl rfl rfl (by decide +kernel) ⟨Nat.le_of_ble_eq_true rfl, Nat.le_of_ble_eq_true rfl⟩) (pv_rd (q0 := 0) (ci := 2) hN (hP.sub [1, 2, 3, 4, 5, 6, 7, 8, 9, 10, 11, 12, 13] rfl) rfl rfl) rfl rfl hl.1 rfl (lv_room (Nat.le_of_ble_eq_true rfl)) dL_law_250 hf0) ?_
      refine lv_aload_n hx hb dL_law_253 rfl (lv_at hl 3 rfl) ?_
      refine lv_aload_n hx hb dL_law_254 rfl (lv_at hl 1 rfl) ?_
      refine lv_iload hx hb dL_law_255 (lv_at hl 0 rfl) ?_
      refine jn_iconst hx hb dL_law_257 ?_
      refine jn_iadd hx hb dL_law_258 (v := ((5 * t : Nat) : Int) + 1) rfl ?_
      refine js_ld hx hb hX hbl hbA hS (5 * t + 1) (by omega) (by omega) (by omega) e1 dL_law_259 ?_
      refine cl_wi (wc := wo_M x cI th ((nP : Nat) : Int) ((n : Nat) : Int) (sp_pz z n) m0 m1 m2 k0 k1 k2 sz) (wr := [0, 1, 2, 3, 4, 5, 6, 7, 8, 9, 10, 11, 12, 13].filterMap (fun i => (wl_W o cL cI u v w x gO nP f0 f1 f2 n g0 g1 g2 st fm vl th (sp_pz z n) m0 m1 m2 k0 k1 k2 sz)[i]?)) [14, 15, 16, 17, 18, 19, 20, 21] [0, 1, 2, 3, 4, 5, 6, 7, 8, 9, 10, 11, 12, 13] rfl rfl (by decide) (by decide) (by decide) hP hD hS hA (va_runV (As := [.int (ji_n a1)]) (rest := [.int (ji_n (sp_ba n K' A' B' z a1))]) ⟨hx, hb, hml, hown, hts⟩ (cm_at l H.size dC dI cI x th (sp_pz z n) nP n m0 m1 m2 k0 k1 k2 sz K' A' B' z hKK hAS hsz rfl a1 r1) (cwV 1 hts (ub_V tm_438 tm_439 tm_440 tm_5 tm_441) rfl rfl rfl (by decide +kernel) ⟨Nat.le_of_ble_eq_true rfl, Nat.le_of_ble_eq_true rfl⟩) (pv_wr (q0 := 0) (ci := 3) hN (hP.sub [14, 15, 16, 17, 18, 19, 20, 21] rfl) (hD.sub [14, 15, 16, 17, 18, 19, 20, 21] (by decide) rfl) rfl rfl) rfl rfl hl.1 rfl (lv_room (Nat.le_of_ble_eq_true rfl)) dL_law_260 hf0) (fun r9 H locs hPs hj hS => ?_)
      obtain ⟨rfl, hPs⟩ := hPs
      obtain ⟨hP, hD⟩ := hj (wo_M x cI 0 ((nP : Nat) : Int) ((n : Nat) : Int) (sp_pz z n) m0 m1 m2 k0 k1 k2 sz) rfl hPs
      have hP : va_P (dC, dI) vwCl (wl_W o cL cI u v w x gO nP f0 f1 f2 n g0 g1 g2 st fm vl 0 (sp_pz z n) m0 m1 m2 k0 k1 k2 sz) H := hP
      have hD : va_D A9 (wl_W o cL cI u v w x gO nP f0 f1 f2 n g0 g1 g2 st fm vl 0 (sp_pz z n) m0 m1 m2 k0 k1 k2 sz) := hD
      refine lv_icmp_eq hx hb dL_law_263 (tgt := 514) rfl (fun _ => ?_) (fun h => absurd rfl h)
      exact hnext ls hl H locs ⟨nP, K, A, B, n, K', A', B', z, _, _, _, _, _, _, _, _, _, _, _, _, _, _, _, _, _, _, hn, hg, hF, hM, hAS, hG, hSS, hKK, hsz, hP⟩ hS
    · skip
      refine jn_top (v := 5) (congrArg ji_n hk) ?_
      refine lv_tableIn hx hb dL_law_39 (tgt := 268) (by decide) (by decide) rfl rfl ?_
      refine lv_aload_n hx hb dL_law_268 rfl (lv_at hl 2 rfl) ?_
      refine lv_aload_n hx hb dL_law_269 rfl (lv_at hl 1 rfl) ?_
      refine lv_iload hx hb dL_law_270 (lv_at hl 0 rfl) ?_
      refine jn_iconst hx hb dL_law_272 ?_
      refine jn_iadd hx hb dL_law_273 (v := ((5 * t : Nat) : Int) + 1) rfl ?_
      refine js_ld hx hb hX hbl hbA hS (5 * t + 1) (by omega) (by omega) (by omega) e1 dL_law_274 ?_
      refine cl_rd (va_runV (As := [.int (ji_n a1)]) (rest := []) ⟨hx, hb, hml, hown, hts⟩ (cd_address l dC dI cI u v w nP f0 f1 f2 n g0 g1 g2 st fm vl K' A' B' z hG hAS hSS a1 r1) (cwV 1 hts (ub_V tm_155 tm_156 tm_157 tm_1 tm_158) rfl rfl rfl (by decide +kernel) ⟨Nat.le_of_ble_eq_true rfl, Nat.le_of_ble_eq_true rfl⟩) (pv_rd (q0 := 0) (ci := 2) hN (hP.sub [1, 2, 3, 4, 5, 6, 7, 8, 9, 10, 11, 12, 13] rfl) rfl rfl) rfl rfl hl.1 rfl (lv_room (Nat.le_of_ble_eq_true rfl)) dL_law_275 hf0) ?_
      refine lv_aload_n hx hb dL_law_278 rfl (lv_at hl 3 rfl) ?_
      refine lv_aload_n hx hb dL_law_279 rfl (lv_at hl 1 rfl) ?_
      refine lv_iload hx hb dL_law_280 (lv_at hl 0 rfl) ?_
      refine jn_iconst hx hb dL_law_282 ?_
      refine jn_iadd hx hb dL_law_283 (v := ((5 * t : Nat) : Int) + 1) rfl ?_
      refine js_ld hx hb hX hbl hbA hS (5 * t + 1) (by omega) (by omega) (by omega) e1 dL_law_284 ?_
      refine cl_wi (wc := wo_M x cI th ((nP : Nat) : Int) ((n : Nat) : Int) (sp_pz z n) m0 m1 m2 k0 k1 k2 sz) (wr := [0, 1, 2, 3, 4, 5, 6, 7, 8, 9, 10, 11, 12, 13].filterMap (fun i => (wl_W o cL cI u v w x gO nP f0 f1 f2 n g0 g1 g2 st fm vl th (sp_pz z n) m0 m1 m2 k0 k1 k2 sz)[i]?)) [14, 15, 16, 17, 18, 19, 20, 21] [0, 1, 2, 3, 4, 5, 6, 7, 8, 9, 10, 11, 12, 13] rfl rfl (by decide) (by decide) (by decide) hP hD hS hA (va_runV (As := [.int (ji_n a1)]) (rest := [.int (ji_n (sp_ad n z a1))]) ⟨hx, hb, hml, hown, hts⟩ (cm_address l H.size dC dI cI x th (sp_pz z n) nP n m0 m1 m2 k0 k1 k2 sz K' A' B' z hKK hAS hsz a1 r1) (cwV 1 hts (ub_V tm_450 tm_451 tm_452 tm_5 tm_453) rfl rfl rfl (by decide +kernel) ⟨Nat.le_of_ble_eq_true rfl, Nat.le_of_ble_eq_true rfl⟩) (pv_wr (q0 := 0) (ci := 3) hN (hP.sub [14, 15, 16, 17, 18, 19, 20, 21] rfl) (hD.sub [14, 15, 16, 17, 18, 19, 20, 21] (by decide) rfl) rfl rfl) rfl rfl hl.1 rfl (lv_room (Nat.le_of_ble_eq_true rfl)) dL_law_285 hf0) (fun r9 H locs hPs hj hS => ?_)
      obtain ⟨rfl, hPs⟩ := hPs
      obtain ⟨hP, hD⟩ := hj (wo_M x cI 0 ((nP : Nat) : Int) ((n : Nat) : Int) (sp_pz z n) m0 m1 m2 k0 k1 k2 sz) rfl hPs
      have hP : va_P (dC, dI) vwCl (wl_W o cL cI u v w x gO nP f0 f1 f2 n g0 g1 g2 st fm vl 0 (sp_pz z n) m0 m1 m2 k0 k1 k2 sz) H := hP
      have hD : va_D A9 (wl_W o cL cI u v w x gO nP f0 f1 f2 n g0 g1 g2 st fm vl 0 (sp_pz z n) m0 m1 m2 k0 k1 k2 sz) := hD
      refine lv_icmp_eq hx hb dL_law_288 (tgt := 514) rfl (fun _ => ?_) (fun h => absurd rfl h)
      exact hnext ls hl H locs ⟨nP, K, A, B, n, K', A', B', z, _, _, _, _, _, _, _, _, _, _, _, _, _, _, _, _, _, _, hn, hg, hF, hM, hAS, hG, hSS, hKK, hsz, hP⟩ hS
    · skip
      refine jn_top (v := 6) (congrArg ji_n hk) ?_
      refine lv_tableIn hx hb dL_law_39 (tgt := 293) (by decide) (by decide) rfl rfl ?_
      refine lv_aload_n hx hb dL_law_293 rfl (lv_at hl 2 rfl) ?_
      refine lv_aload_n hx hb dL_law_294 rfl (lv_at hl 1 rfl) ?_
      refine lv_iload hx hb dL_law_295 (lv_at hl 0 rfl) ?_
      refine jn_iconst hx hb dL_law_297 ?_
      refine jn_iadd hx hb dL_law_298 (v := ((5 * t : Nat) : Int) + 1) rfl ?_
      refine js_ld hx hb hX hbl hbA hS (5 * t + 1) (by omega) (by omega) (by omega) e1 dL_law_299 ?_
      refine cl_rd (va_runV (As := [.int (ji_n a1)]) (rest := []) ⟨hx, hb, hml, hown, hts⟩ (cd_form l dC dI cI u v w nP f0 f1 f2 n g0 g1 g2 st fm vl K' A' B' z hG hAS hSS a1 r1) (cwV 1 hts (ub_V tm_160 tm_161 tm_162 tm_1 tm_163) rfl rfl rfl (by decide +kernel) ⟨Nat.le_of_ble_eq_true rfl, Nat.le_of_ble_eq_true rfl⟩) (pv_rd (q0 := 0) (ci := 2) hN (hP.sub [1, 2, 3, 4, 5, 6, 7, 8, 9, 10, 11, 12, 13] rfl) rfl rfl) rfl rfl hl.1 rfl (lv_room (Nat.le_of_ble_eq_true rfl)) dL_law_300 hf0) ?_
      refine lv_aload_n hx hb dL_law_303 rfl (lv_at hl 3 rfl) ?_
      refine lv_aload_n hx hb dL_law_304 rfl (lv_at hl 1 rfl) ?_
      refine lv_iload hx hb dL_law_305 (lv_at hl 0 rfl) ?_
      refine jn_iconst hx hb dL_law_307 ?_
      refine jn_iadd hx hb dL_law_308 (v := ((5 * t : Nat) : Int) + 1) rfl ?_
      refine js_ld hx hb hX hbl hbA hS (5 * t + 1) (by omega) (by omega) (by omega) e1 dL_law_309 ?_
      refine cl_wi (wc := wo_M x cI th ((nP : Nat) : Int) ((n : Nat) : Int) (sp_pz z n) m0 m1 m2 k0 k1 k2 sz) (wr := [0, 1, 2, 3, 4, 5, 6, 7, 8, 9, 10, 11, 12, 13].filterMap (fun i => (wl_W o cL cI u v w x gO nP f0 f1 f2 n g0 g1 g2 st fm vl th (sp_pz z n) m0 m1 m2 k0 k1 k2 sz)[i]?)) [14, 15, 16, 17, 18, 19, 20, 21] [0, 1, 2, 3, 4, 5, 6, 7, 8, 9, 10, 11, 12, 13] rfl rfl (by decide) (by decide) (by decide) hP hD hS hA (va_runV (As := [.int (ji_n a1)]) (rest := [.int (ji_n (sp_fo n K' z a1))]) ⟨hx, hb, hml, hown, hts⟩ (cm_form l H.size dC dI cI x th (sp_pz z n) nP n m0 m1 m2 k0 k1 k2 sz K' A' B' z hKK hAS hsz a1 r1) (cwV 1 hts (ub_V tm_454 tm_455 tm_456 tm_5 tm_457) rfl rfl rfl (by decide +kernel) ⟨Nat.le_of_ble_eq_true rfl, Nat.le_of_ble_eq_true rfl⟩) (pv_wr (q0 := 0) (ci := 3) hN (hP.sub [14, 15, 16, 17, 18, 19, 20, 21] rfl) (hD.sub [14, 15, 16, 17, 18, 19, 20, 21] (by decide) rfl) rfl rfl) rfl rfl hl.1 rfl (lv_room (Nat.le_of_ble_eq_true rfl)) dL_law_310 hf0) (fun r9 H locs hPs hj hS => ?_)
      obtain ⟨rfl, hPs⟩ := hPs
      obtain ⟨hP, hD⟩ := hj (wo_M x cI 0 ((nP : Nat) : Int) ((n : Nat) : Int) (sp_pz z n) m0 m1 m2 k0 k1 k2 sz) rfl hPs
      have hP : va_P (dC, dI) vwCl (wl_W o cL cI u v w x gO nP f0 f1 f2 n g0 g1 g2 st fm vl 0 (sp_pz z n) m0 m1 m2 k0 k1 k2 sz) H := hP
      have hD : va_D A9 (wl_W o cL cI u v w x gO nP f0 f1 f2 n g0 g1 g2 st fm vl 0 (sp_pz z n) m0 m1 m2 k0 k1 k2 sz) := hD
      refine lv_icmp_eq hx hb dL_law_313 (tgt := 514) rfl (fun _ => ?_) (fun h => absurd rfl h)
      exact hnext ls hl H locs ⟨nP, K, A, B, n, K', A', B', z, _, _, _, _, _, _, _, _, _, _, _, _, _, _, _, _, _, _, hn, hg, hF, hM, hAS, hG, hSS, hKK, hsz, hP⟩ hS
    · skip
      refine jn_top (v := 7) (congrArg ji_n hk) ?_
      refine lv_tableIn hx hb dL_law_39 (tgt := 318) (by decide) (by decide) rfl rfl ?_
      refine lv_aload_n hx hb dL_law_318 rfl (lv_at hl 2 rfl) ?_
      refine cl_rd (va_runV (As := []) (rest := []) ⟨hx, hb, hml, hown, hts⟩ (cd_longs l dC dI cI u v w nP f0 f1 f2 n g0 g1 g2 st fm vl K' A' B' z hG hAS hSS) (cwV 0 hts (ub_V tm_164 tm_165 tm_166 tm_1 tm_167) rfl rfl rfl (by decide +kernel) ⟨Nat.le_of_ble_eq_true rfl, Nat.le_of_ble_eq_true rfl⟩) (pv_rd (q0 := 0) (ci := 2) hN (hP.sub [1, 2, 3, 4, 5, 6, 7, 8, 9, 10, 11, 12, 13] rfl) rfl rfl) rfl rfl hl.1 rfl (lv_room (Nat.le_of_ble_eq_true rfl)) dL_law_319 hf0) ?_
      refine lv_aload_n hx hb dL_law_322 rfl (lv_at hl 3 rfl) ?_
      refine cl_wi (wc := wo_M x cI th ((nP : Nat) : Int) ((n : Nat) : Int) (sp_pz z n) m0 m1 m2 k0 k1 k2 sz) (wr := [0, 1, 2, 3, 4, 5, 6, 7, 8, 9, 10, 11, 12, 13].filterMap (fun i => (wl_W o cL cI u v w x gO nP f0 f1 f2 n g0 g1 g2 st fm vl th (sp_pz z n) m0 m1 m2 k0 k1 k2 sz)[i]?)) [14, 15, 16, 17, 18, 19, 20, 21] [0, 1, 2, 3, 4, 5, 6, 7, 8, 9, 10, 11, 12, 13] rfl rfl (by decide) (by decide) (by decide) hP hD hS hA (va_runV (As := []) (rest := [.int (ji_n (sp_lc K' z n))]) ⟨hx, hb, hml, hown, hts⟩ (cm_longs l H.size dC dI cI x th (sp_pz z n) nP n m0 m1 m2 k0 k1 k2 sz K' A' B' z hKK hAS hsz) (cwV 0 hts (ub_V tm_458 tm_459 tm_460 tm_5 tm_461) rfl rfl rfl (by decide +kernel) ⟨Nat.le_of_ble_eq_true rfl, Nat.le_of_ble_eq_true rfl⟩) (pv_wr (q0 := 0) (ci := 3) hN (hP.sub [14, 15, 16, 17, 18, 19, 20, 21] rfl) (hD.sub [14, 15, 16, 17, 18, 19, 20, 21] (by decide) rfl) rfl rfl) rfl rfl hl.1 rfl (lv_room (Nat.le_of_ble_eq_true rfl)) dL_law_323 hf0) (fun r9 H locs hPs hj hS => ?_)
      obtain ⟨rfl, hPs⟩ := hPs
      obtain ⟨hP, hD⟩ := hj (wo_M x cI 0 ((nP : Nat) : Int) ((n : Nat) : Int) (sp_pz z n) m0 m1 m2 k0 k1 k2 sz) rfl hPs
      have hP : va_P (dC, dI) vwCl (wl_W o cL cI u v w x gO nP f0 f1 f2 n g0 g1 g2 st fm vl 0 (sp_pz z n) m0 m1 m2 k0 k1 k2 sz) H := hP
      have hD : va_D A9 (wl_W o cL cI u v w x gO nP f0 f1 f2 n g0 g1 g2 st fm vl 0 (sp_pz z n) m0 m1 m2 k0 k1 k2 sz) := hD
      refine lv_icmp_eq hx hb dL_law_326 (tgt := 514) rfl (fun _ => ?_) (fun h => absurd rfl h)
      exact hnext ls hl H locs ⟨nP, K, A, B, n, K', A', B', z, _, _, _, _, _, _, _, _, _, _, _, _, _, _, _, _, _, _, hn, hg, hF, hM, hAS, hG, hSS, hKK, hsz, hP⟩ hS
    · skip
      refine jn_top (v := 8) (congrArg ji_n hk) ?_
      refine lv_tableIn hx hb dL_law_39 (tgt := 331) (by decide) (by decide) rfl rfl ?_
      refine lv_aload_n hx hb dL_law_331 rfl (lv_at hl 2 rfl) ?_
      refine lv_aload_n hx hb dL_law_332 rfl (lv_at hl 1 rfl) ?_
      refine lv_iload hx hb dL_law_333 (lv_at hl 0 rfl) ?_
      refine jn_iconst hx hb dL_law_335 ?_
      refine jn_iadd hx hb dL_law_336 (v := ((5 * t : Nat) : Int) + 1) rfl ?_
      refine js_ld hx hb hX hbl hbA hS (5 * t + 1) (by omega) (by omega) (by omega) e1 dL_law_337 ?_
      refine cl_rd (va_runV (As := [.int (ji_n a1)]) (rest := []) ⟨hx, hb, hml, hown, hts⟩ (cd_value l dC dI cI u v w nP f0 f1 f2 n g0 g1 g2 st fm vl K' A' B' z hG hAS hSS a1 r1) (cwV 1 hts (ub_V tm_172 tm_173 tm_174 tm_1 tm_175) rfl rfl rfl (by decide +kernel) ⟨Nat.le_of_ble_eq_true rfl, Nat.le_of_ble_eq_true rfl⟩) (pv_rd (q0 := 0) (ci := 2) hN (hP.sub [1, 2, 3, 4, 5, 6, 7, 8, 9, 10, 11, 12, 13] rfl) rfl rfl) rfl rfl hl.1 rfl (lv_room (Nat.le_of_ble_eq_true rfl)) dL_law_338 hf0) ?_
      refine lv_aload_n hx hb dL_law_341 rfl (lv_at hl 3 rfl) ?_
      refine lv_aload_n hx hb dL_law_342 rfl (lv_at hl 1 rfl) ?_
      refine lv_iload hx hb dL_law_343 (lv_at hl 0 rfl) ?_
      refine jn_iconst hx hb dL_law_345 ?_
      refine jn_iadd hx hb dL_law_346 (v := ((5 * t : Nat) : Int) + 1) rfl ?_
      refine js_ld hx hb hX hbl hbA hS (5 * t + 1) (by omega) (by omega) (by omega) e1 dL_law_347 ?_
      refine cl_wi (wc := wo_M x cI th ((nP : Nat) : Int) ((n : Nat) : Int) (sp_pz z n) m0 m1 m2 k0 k1 k2 sz) (wr := [0, 1, 2, 3, 4, 5, 6, 7, 8, 9, 10, 11, 12, 13].filterMap (fun i => (wl_W o cL cI u v w x gO nP f0 f1 f2 n g0 g1 g2 st fm vl th (sp_pz z n) m0 m1 m2 k0 k1 k2 sz)[i]?)) [14, 15, 16, 17, 18, 19, 20, 21] [0, 1, 2, 3, 4, 5, 6, 7, 8, 9, 10, 11, 12, 13] rfl rfl (by decide) (by decide) (by decide) hP hD hS hA (va_runV (As := [.int (ji_n a1)]) (rest := [.int (ji_n (sp_la K' A' z n a1))]) ⟨hx, hb, hml, hown, hts⟩ (cm_value l H.size dC dI cI x th (sp_pz z n) nP n m0 m1 m2 k0 k1 k2 sz K' A' B' z hKK hAS hsz a1 r1) (cwV 1 hts (ub_V tm_462 tm_463 tm_464 tm_5 tm_465) rfl rfl rfl (by decide +kernel) ⟨Nat.le_of_ble_eq_true rfl, Nat.le_of_ble_eq_true rfl⟩) (pv_wr (q0 := 0) (ci := 3) hN (hP.sub [14, 15, 16, 17, 18, 19, 20, 21] rfl) (hD.sub [14, 15, 16, 17, 18, 19, 20, 21] (by decide) rfl) rfl rfl) rfl rfl hl.1 rfl (lv_room (Nat.le_of_ble_eq_true rfl)) dL_law_348 hf0) (fun r9 H locs hPs hj hS => ?_)
      obtain ⟨rfl, hPs⟩ := hPs
      obtain ⟨hP, hD⟩ := hj (wo_M x cI 0 ((nP : Nat) : Int) ((n : Nat) : Int) (sp_pz z n) m0 m1 m2 k0 k1 k2 sz) rfl hPs
      have hP : va_P (dC, dI) vwCl (wl_W o cL cI u v w x gO nP f0 f1 f2 n g0 g1 g2 st fm vl 0 (sp_pz z n) m0 m1 m2 k0 k1 k2 sz) H := hP
      have hD : va_D A9 (wl_W o cL cI u v w x gO nP f0 f1 f2 n g0 g1 g2 st fm vl 0 (sp_pz z n) m0 m1 m2 k0 k1 k2 sz) := hD
      refine lv_icmp_eq hx hb dL_law_351 (tgt := 514) rfl (fun _ => ?_) (fun h => absurd rfl h)
      exact hnext ls hl H locs ⟨nP, K, A, B, n, K', A', B', z, _, _, _, _, _, _, _, _, _, _, _, _, _, _, _, _, _, _, hn, hg, hF, hM, hAS, hG, hSS, hKK, hsz, hP⟩ hS
    · skip
      refine jn_top (v := 9) (congrArg ji_n hk) ?_
      refine lv_tableIn hx hb dL_law_39 (tgt := 356) (by decide) (by decide) rfl rfl ?_
      refine lv_aload_n hx hb dL_law_356 rfl (lv_at hl 2 rfl) ?_
      refine lv_aload_n hx hb dL_law_357 rfl (lv_at hl 1 rfl) ?_
      refine lv_iload hx hb dL_law_358 (lv_at hl 0 rfl) ?_
      refine jn_iconst hx hb dL_law_360 ?_
      refine jn_iadd hx hb dL_law_361 (v := ((5 * t : Nat) : Int) + 1) rfl ?_
      refine js_ld hx hb hX hbl hbA hS (5 * t + 1) (by omega) (by omega) (by omega) e1 dL_law_362 ?_
      refine lv_aload_n hx hb dL_law_363 rfl (lv_at hl 1 rfl) ?_
      refine lv_iload hx hb dL_law_364 (lv_at hl 0 rfl) ?_
      refine jn_iconst hx hb dL_law_366 ?_
      refine jn_iadd hx hb dL_law_367 (v := ((5 * t : Nat) : Int) + 2) rfl ?_
      refine js_ld hx hb hX hbl hbA hS (5 * t + 2) (by omega) (by omega) (by omega) e2 dL_law_368 ?_
      refine jn_if_eq hx hb dL_law_369 (tgt := 376) rfl r2 (fun h2 => ?_) (fun h2 => ?_)
      · skip
        refine jn_iconst hx hb dL_law_376 ?_
        refine lv_aload_n hx hb dL_law_377 rfl (lv_at hl 4 rfl) ?_
        have hFc := va_free (wc := (o, .inl (cL, 1, .inr (.inl gO))) :: wo_D u v w cI nP f0 f1 f2 n g0 g1 g2 st fm vl) hD hS hA [0, 1, 2, 3, 4, 5, 6, 7, 8, 9, 10, 11, 12, 13] rfl
        have hE2 : ex_K (va_A ((o, .inl (cL, 1, .inr (.inl gO))) :: wo_D u v w cI nP f0 f1 f2 n g0 g1 g2 st fm vl) H.size) s H := ex_narrow (ex_kept hE hS.2.1) hFc
        refine cl_wx (wc := (o, .inl (cL, 1, .inr (.inl gO))) :: wo_D u v w cI nP f0 f1 f2 n g0 g1 g2 st fm vl) (wr := [14, 15, 16, 17, 18, 19, 20, 21].filterMap (fun i => (wl_W o cL cI u v w x gO nP f0 f1 f2 n g0 g1 g2 st fm vl th (sp_pz z n) m0 m1 m2 k0 k1 k2 sz)[i]?)) [0, 1, 2, 3, 4, 5, 6, 7, 8, 9, 10, 11, 12, 13] [14, 15, 16, 17, 18, 19, 20, 21] rfl rfl (by decide) (by decide) (by decide) hP hD hS hA (vx_runSW (As := [.ref (u 0), .int (ji_n a1), .int (ji_n 0), .ref o]) (rest := []) ⟨hx, hb, hml, hown, hts⟩ (cl_follow l hlt H.size dC dI cI cL o gO u v w nP f0 f1 f2 n g0 g1 g2 st fm vl K' A' B' z hG hAS hSS a1 0 r1 (by omega)) (vx_cwSW 4 hts (ub_S tm_328 tm_329 tm_0 tm_330) rfl rfl rfl (by decide +kernel) ⟨Nat.le_of_ble_eq_true rfl, Nat.le_of_ble_eq_true rfl⟩) (ps_x hN hKL hE2 (hP.sub [0, 1, 2, 3, 4, 5, 6, 7, 8, 9, 10, 11, 12, 13] rfl) (hD.sub [0, 1, 2, 3, 4, 5, 6, 7, 8, 9, 10, 11, 12, 13] (by decide) rfl)) rfl rfl hl.1 rfl (lv_room (Nat.le_of_ble_eq_true rfl)) dL_law_378 hf1) (fun r9 H locs hPs hj hS => ?_)
        have hez := sp_ez_or (sp_os n K' A' B' z a1)
        rcases hPs with ⟨rfl, hos, hPs⟩ | ⟨rfl, hos, gQ, hgQ, hPs⟩
        · skip
          obtain ⟨hP, hD⟩ := hj ((o, .inl (cL, 1, .inr (.inl gO))) :: wo_D u v w cI nP f0 f1 f2 n g0 g1 g2 st fm vl) rfl hPs
          have hP := hP.sub (ws' := wl_W o cL cI u v w x gO nP f0 f1 f2 n g0 g1 g2 st fm vl th (sp_pz z n) m0 m1 m2 k0 k1 k2 sz) [8, 9, 10, 11, 12, 13, 14, 15, 16, 17, 18, 19, 20, 21, 0, 1, 2, 3, 4, 5, 6, 7] rfl
          have hD := hD.sub (ws' := wl_W o cL cI u v w x gO nP f0 f1 f2 n g0 g1 g2 st fm vl th (sp_pz z n) m0 m1 m2 k0 k1 k2 sz) [8, 9, 10, 11, 12, 13, 14, 15, 16, 17, 18, 19, 20, 21, 0, 1, 2, 3, 4, 5, 6, 7] (by decide) rfl
          have hP : va_P (dC, dI) vwCl (wl_W o cL cI u v w x gO nP f0 f1 f2 n g0 g1 g2 st fm vl th (sp_pz z n) m0 m1 m2 k0 k1 k2 sz) H := hP
          have hD : va_D A9 (wl_W o cL cI u v w x gO nP f0 f1 f2 n g0 g1 g2 st fm vl th (sp_pz z n) m0 m1 m2 k0 k1 k2 sz) := hD
          refine lv_istore (lv' := [(5, .int (ji_n 1)), (4, .int (ji_n ((5 * t : Nat) : Int))), (0, .ref b), (1, .ref (u 0)), (2, .ref (x 0)), (3, .ref o)]) hx hb dL_law_381 hl (by decide) rfl (fun ls hl => ?_)
          refine lv_aload_n hx hb dL_law_383 rfl (lv_at hl 4 rfl) ?_
          refine lv_aload_n hx hb dL_law_384 rfl (lv_at hl 2 rfl) ?_
          refine lv_iload hx hb dL_law_385 (lv_at hl 1 rfl) ?_
          refine jn_iconst hx hb dL_law_387 ?_
          refine jn_iadd hx hb dL_law_388 (v := ((5 * t : Nat) : Int) + 1) rfl ?_
          refine js_ld hx hb hX hbl hbA hS (5 * t + 1) (by omega) (by omega) (by omega) e1 dL_law_389 ?_
          refine lv_aload_n hx hb dL_law_390 rfl (lv_at hl 2 rfl) ?_
          refine lv_iload hx hb dL_law_391 (lv_at hl 1 rfl) ?_
          refine jn_iconst hx hb dL_law_393 ?_
          refine jn_iadd hx hb dL_law_394 (v := ((5 * t : Nat) : Int) + 2) rfl ?_
          refine js_ld hx hb hX hbl hbA hS (5 * t + 2) (by omega) (by omega) (by omega) e2 dL_law_395 ?_
          refine jn_if_eq hx hb dL_law_396 (tgt := 403) rfl r2 (fun _ => ?_) (fun h => absurd h2 h)
          refine jn_iconst hx hb dL_law_403 ?_
          refine cl_wi (wc := wo_M x cI th ((nP : Nat) : Int) ((n : Nat) : Int) (sp_pz z n) m0 m1 m2 k0 k1 k2 sz) (wr := [0, 1, 2, 3, 4, 5, 6, 7, 8, 9, 10, 11, 12, 13].filterMap (fun i => (wl_W o cL cI u v w x gO nP f0 f1 f2 n g0 g1 g2 st fm vl th (sp_pz z n) m0 m1 m2 k0 k1 k2 sz)[i]?)) [14, 15, 16, 17, 18, 19, 20, 21] [0, 1, 2, 3, 4, 5, 6, 7, 8, 9, 10, 11, 12, 13] rfl rfl (by decide) (by decide) (by decide) hP hD hS hA (va_runV (As := [.int (ji_n a1), .int (ji_n 0)]) (rest := []) ⟨hx, hb, hml, hown, hts⟩ (cm_follow l H.size dC dI cI x th (sp_pz z n) nP n m0 m1 m2 k0 k1 k2 sz K' A' B' z hKK hAS hsz rfl a1 0 r1 (by omega)) (cwV 2 hts (ub_V tm_466 tm_467 tm_468 tm_5 tm_469) rfl rfl rfl (by decide +kernel) ⟨Nat.le_of_ble_eq_true rfl, Nat.le_of_ble_eq_true rfl⟩) (pv_wr (q0 := 0) (ci := 3) hN (hP.sub [14, 15, 16, 17, 18, 19, 20, 21] rfl) (hD.sub [14, 15, 16, 17, 18, 19, 20, 21] (by decide) rfl) rfl rfl) rfl rfl hl.1 rfl (lv_room (Nat.le_of_ble_eq_true rfl)) dL_law_404 hf2) (fun r9 H locs hPs hj hS => ?_)
          obtain ⟨rfl, hPs⟩ := hPs
          obtain ⟨hP, hD⟩ := hj (wo_M x cI (sp_ez (sp_os n K' A' B' z a1)) ((nP : Nat) : Int) ((n : Nat) : Int) (sp_pz z n) m0 m1 m2 k0 k1 k2 sz) rfl hPs
          have hP : va_P (dC, dI) vwCl (wl_W o cL cI u v w x gO nP f0 f1 f2 n g0 g1 g2 st fm vl (sp_ez (sp_os n K' A' B' z a1)) (sp_pz z n) m0 m1 m2 k0 k1 k2 sz) H := hP
          have hD : va_D A9 (wl_W o cL cI u v w x gO nP f0 f1 f2 n g0 g1 g2 st fm vl (sp_ez (sp_os n K' A' B' z a1)) (sp_pz z n) m0 m1 m2 k0 k1 k2 sz) := hD
          refine lv_istore (lv' := [(6, .int (ji_n (sp_fw n K' A' B' z a1 0))), (5, .int (ji_n 1)), (4, .int (ji_n ((5 * t : Nat) : Int))), (0, .ref b), (1, .ref (u 0)), (2, .ref (x 0)), (3, .ref o)]) hx hb dL_law_407 hl (by decide) rfl (fun ls hl => ?_)
          refine lv_aload_n hx hb dL_law_409 rfl (lv_at hl 5 rfl) ?_
          refine cl_rd (va_runV (As := []) (rest := []) ⟨hx, hb, hml, hown, hts⟩ (cm_thrown l dC dI cI x (sp_ez (sp_os n K' A' B' z a1)) (sp_pz z n) nP n m0 m1 m2 k0 k1 k2 sz) (cwV 0 hts (ub_V tm_392 tm_393 tm_394 tm_5 tm_395) rfl rfl rfl (by decide +kernel) ⟨Nat.le_of_ble_eq_true rfl, Nat.le_of_ble_eq_true rfl⟩) (pv_rd (q0 := 0) (ci := 3) hN (hP.sub [14, 15, 16, 17, 18, 19, 20, 21] rfl) rfl rfl) rfl rfl hl.1 rfl (lv_room (Nat.le_of_ble_eq_true rfl)) dL_law_410 hf2) ?_
          refine lv_iload hx hb dL_law_413 (lv_at hl 1 rfl) ?_
          refine jn_icmp_eq hx hb dL_law_415 (tgt := 420) rfl (by unfold ji_r; omega) (by unfold ji_r; omega) (fun _ => ?_) (fun h => absurd (by omega) h)
          refine lv_iload hx hb dL_law_420 (lv_at hl 1 rfl) ?_
          refine jn_if_ne hx hb dL_law_422 (tgt := 437) rfl (by unfold ji_r; omega) (fun _ => ?_) (fun h => absurd h (by omega))
          refine lv_goto hx hb dL_law_437 (tgt := 514) rfl ?_
          have hl : lv_has ls 7 [(4, .int (ji_n ((5 * t : Nat) : Int))), (0, .ref b), (1, .ref (u 0)), (2, .ref (x 0)), (3, .ref o)] := lv_sub hl [2, 3, 4, 5, 6] rfl
          exact hnext1 ls hl H locs ⟨nP, K, A, B, n, K', A', B', z, _, _, _, _, _, _, _, _, _, _, _, _, _, _, _, _, _, _, hn, hg, hF, hM, hAS, hG, hSS, hKK, hsz, hP⟩ hS
        · skip
          obtain ⟨hP, hD⟩ := hj ((o, .inl (cL, 1, .inr (.inl gQ))) :: wo_D u v w cI nP f0 f1 f2 n g0 g1 g2 st fm vl) rfl hPs
          have hP := hP.sub (ws' := wl_W o cL cI u v w x gQ nP f0 f1 f2 n g0 g1 g2 st fm vl th (sp_pz z n) m0 m1 m2 k0 k1 k2 sz) [8, 9, 10, 11, 12, 13, 14, 15, 16, 17, 18, 19, 20, 21, 0, 1, 2, 3, 4, 5, 6, 7] rfl
          have hD := hD.sub (ws' := wl_W o cL cI u v w x gQ nP f0 f1 f2 n g0 g1 g2 st fm vl th (sp_pz z n) m0 m1 m2 k0 k1 k2 sz) [8, 9, 10, 11, 12, 13, 14, 15, 16, 17, 18, 19, 20, 21, 0, 1, 2, 3, 4, 5, 6, 7] (by decide) rfl
          have hP : va_P (dC, dI) vwCl (wl_W o cL cI u v w x gQ nP f0 f1 f2 n g0 g1 g2 st fm vl th (sp_pz z n) m0 m1 m2 k0 k1 k2 sz) H := hP
          have hD : va_D A9 (wl_W o cL cI u v w x gQ nP f0 f1 f2 n g0 g1 g2 st fm vl th (sp_pz z n) m0 m1 m2 k0 k1 k2 sz) := hD
          refine lv_istore (lv' := [(5, .int (ji_n 0)), (4, .int (ji_n ((5 * t : Nat) : Int))), (0, .ref b), (1, .ref (u 0)), (2, .ref (x 0)), (3, .ref o)]) hx hb dL_law_381 hl (by decide) rfl (fun ls hl => ?_)
          refine lv_aload_n hx hb dL_law_383 rfl (lv_at hl 4 rfl) ?_
          refine lv_aload_n hx hb dL_law_384 rfl (lv_at hl 2 rfl) ?_
          refine lv_iload hx hb dL_law_385 (lv_at hl 1 rfl) ?_
          refine jn_iconst hx hb dL_law_387 ?_
          refine jn_iadd hx hb dL_law_388 (v := ((5 * t : Nat) : Int) + 1) rfl ?_
          refine js_ld hx hb hX hbl hbA hS (5 * t + 1) (by omega) (by omega) (by omega) e1 dL_law_389 ?_
          refine lv_aload_n hx hb dL_law_390 rfl (lv_at hl 2 rfl) ?_
          refine lv_iload hx hb dL_law_391 (lv_at hl 1 rfl) ?_
          refine jn_iconst hx hb dL_law_393 ?_
          refine jn_iadd hx hb dL_law_394 (v := ((5 * t : Nat) : Int) + 2) rfl ?_
          refine js_ld hx hb hX hbl hbA hS (5 * t + 2) (by omega) (by omega) (by omega) e2 dL_law_395 ?_
          refine jn_if_eq hx hb dL_law_396 (tgt := 403) rfl r2 (fun _ => ?_) (fun h => absurd h2 h)
          refine jn_iconst hx hb dL_law_403 ?_
          refine cl_wi (wc := wo_M x cI th ((nP : Nat) : Int) ((n : Nat) : Int) (sp_pz z n) m0 m1 m2 k0 k1 k2 sz) (wr := [0, 1, 2, 3, 4, 5, 6, 7, 8, 9, 10, 11, 12, 13].filterMap (fun i => (wl_W o cL cI u v w x gQ nP f0 f1 f2 n g0 g1 g2 st fm vl th (sp_pz z n) m0 m1 m2 k0 k1 k2 sz)[i]?)) [14, 15, 16, 17, 18, 19, 20, 21] [0, 1, 2, 3, 4, 5, 6, 7, 8, 9, 10, 11, 12, 13] rfl rfl (by decide) (by decide) (by decide) hP hD hS hA (va_runV (As := [.int (ji_n a1), .int (ji_n 0)]) (rest := []) ⟨hx, hb, hml, hown, hts⟩ (cm_follow l H.size dC dI cI x th (sp_pz z n) nP n m0 m1 m2 k0 k1 k2 sz K' A' B' z hKK hAS hsz rfl a1 0 r1 (by omega)) (cwV 2 hts (ub_V tm_466 tm_467 tm_468 tm_5 tm_469) rfl rfl rfl (by decide +kernel) ⟨Nat.le_of_ble_eq_true rfl, Nat.le_of_ble_eq_true rfl⟩) (pv_wr (q0 := 0) (ci := 3) hN (hP.sub [14, 15, 16, 17, 18, 19, 20, 21] rfl) (hD.sub [14, 15, 16, 17, 18, 19, 20, 21] (by decide) rfl) rfl rfl) rfl rfl hl.1 rfl (lv_room (Nat.le_of_ble_eq_true rfl)) dL_law_404 hf2) (fun r9 H locs hPs hj hS => ?_)
          obtain ⟨rfl, hPs⟩ := hPs
          obtain ⟨hP, hD⟩ := hj (wo_M x cI (sp_ez (sp_os n K' A' B' z a1)) ((nP : Nat) : Int) ((n : Nat) : Int) (sp_pz z n) m0 m1 m2 k0 k1 k2 sz) rfl hPs
          have hP : va_P (dC, dI) vwCl (wl_W o cL cI u v w x gQ nP f0 f1 f2 n g0 g1 g2 st fm vl (sp_ez (sp_os n K' A' B' z a1)) (sp_pz z n) m0 m1 m2 k0 k1 k2 sz) H := hP
          have hD : va_D A9 (wl_W o cL cI u v w x gQ nP f0 f1 f2 n g0 g1 g2 st fm vl (sp_ez (sp_os n K' A' B' z a1)) (sp_pz z n) m0 m1 m2 k0 k1 k2 sz) := hD
          have hfw : sp_fw n K' A' B' z a1 0 = sp_nx n K' A' B' z a1 0 := if_neg hos
          rw [hfw]
          refine lv_istore (lv' := [(6, .int (ji_n (sp_nx n K' A' B' z a1 0))), (5, .int (ji_n 0)), (4, .int (ji_n ((5 * t : Nat) : Int))), (0, .ref b), (1, .ref (u 0)), (2, .ref (x 0)), (3, .ref o)]) hx hb dL_law_407 hl (by decide) rfl (fun ls hl => ?_)
          refine lv_aload_n hx hb dL_law_409 rfl (lv_at hl 5 rfl) ?_
          refine cl_rd (va_runV (As := []) (rest := []) ⟨hx, hb, hml, hown, hts⟩ (cm_thrown l dC dI cI x (sp_ez (sp_os n K' A' B' z a1)) (sp_pz z n) nP n m0 m1 m2 k0 k1 k2 sz) (cwV 0 hts (ub_V tm_392 tm_393 tm_394 tm_5 tm_395) rfl rfl rfl (by decide +kernel) ⟨Nat.le_of_ble_eq_true rfl, Nat.le_of_ble_eq_true rfl⟩) (pv_rd (q0 := 0) (ci := 3) hN (hP.sub [14, 15, 16, 17, 18, 19, 20, 21] rfl) rfl rfl) rfl rfl hl.1 rfl (lv_room (Nat.le_of_ble_eq_true rfl)) dL_law_410 hf2) ?_
          refine lv_iload hx hb dL_law_413 (lv_at hl 1 rfl) ?_
          refine jn_icmp_eq hx hb dL_law_415 (tgt := 420) rfl (by unfold ji_r; omega) (by unfold ji_r; omega) (fun _ => ?_) (fun h => absurd (by omega) h)
          refine lv_iload hx hb dL_law_420 (lv_at hl 1 rfl) ?_
          refine jn_if_ne hx hb dL_law_422 (tgt := 437) rfl (by unfold ji_r; omega) (fun h => absurd rfl h) (fun _ => ?_)
          refine lv_aload_n hx hb dL_law_425 rfl (lv_at hl 6 rfl) ?_
          refine jn_iconst hx hb dL_law_426 ?_
          refine va_lald hx hb hKL hP 0 0 rfl rfl (i := ji_n 0) (ji_in (n := 0) (N := 1) (by omega) (by omega)) dL_law_427 ?_
          rw [show (ji_n 0).toNatClampNeg = 0 from by decide, hgQ]
          refine lv_iload hx hb dL_law_428 (lv_at hl 0 rfl) ?_
          refine lv_i2l hx hb dL_law_430 (v := (ji_n (sp_nx n K' A' B' z a1 0)).toInt64) rfl ?_
          refine W.lcmp hx hb dL_law_431 ?_
          rw [lg_same]
          refine jn_if_eq hx hb dL_law_432 (tgt := 437) rfl (by unfold ji_r; omega) (fun _ => ?_) (fun h => absurd rfl h)
          refine lv_goto hx hb dL_law_437 (tgt := 514) rfl ?_
          have hl : lv_has ls 7 [(4, .int (ji_n ((5 * t : Nat) : Int))), (0, .ref b), (1, .ref (u 0)), (2, .ref (x 0)), (3, .ref o)] := lv_sub hl [2, 3, 4, 5, 6] rfl
          exact hnext1 ls hl H locs ⟨nP, K, A, B, n, K', A', B', z, _, _, _, _, _, _, _, _, _, _, _, _, _, _, _, _, _, _, hn, hg, hF, hM, hAS, hG, hSS, hKK, hsz, hP⟩ hS
      · skip
        refine jn_iconst hx hb dL_law_372 ?_
        refine lv_goto hx hb dL_law_373 (tgt := 377) rfl ?_
        refine lv_aload_n hx hb dL_law_377 rfl (lv_at hl 4 rfl) ?_
        have hFc := va_free (wc := (o, .inl (cL, 1, .inr (.inl gO))) :: wo_D u v w cI nP f0 f1 f2 n g0 g1 g2 st fm vl) hD hS hA [0, 1, 2, 3, 4, 5, 6, 7, 8, 9, 10, 11, 12, 13] rfl
        have hE2 : ex_K (va_A ((o, .inl (cL, 1, .inr (.inl gO))) :: wo_D u v w cI nP f0 f1 f2 n g0 g1 g2 st fm vl) H.size) s H := ex_narrow (ex_kept hE hS.2.1) hFc
        refine cl_wx (wc := (o, .inl (cL, 1, .inr (.inl gO))) :: wo_D u v w cI nP f0 f1 f2 n g0 g1 g2 st fm vl) (wr := [14, 15, 16, 17, 18, 19, 20, 21].filterMap (fun i => (wl_W o cL cI u v w x gO nP f0 f1 f2 n g0 g1 g2 st fm vl th (sp_pz z n) m0 m1 m2 k0 k1 k2 sz)[i]?)) [0, 1, 2, 3, 4, 5, 6, 7, 8, 9, 10, 11, 12, 13] [14, 15, 16, 17, 18, 19, 20, 21] rfl rfl (by decide) (by decide) (by decide) hP hD hS hA (vx_runSW (As := [.ref (u 0), .int (ji_n a1), .int (ji_n 1), .ref o]) (rest := []) ⟨hx, hb, hml, hown, hts⟩ (cl_follow l hlt H.size dC dI cI cL o gO u v w nP f0 f1 f2 n g0 g1 g2 st fm vl K' A' B' z hG hAS hSS a1 1 r1 (by omega)) (vx_cwSW 4 hts (ub_S tm_328 tm_329 tm_0 tm_330) rfl rfl rfl (by decide +kernel) ⟨Nat.le_of_ble_eq_true rfl, Nat.le_of_ble_eq_true rfl⟩) (ps_x hN hKL hE2 (hP.sub [0, 1, 2, 3, 4, 5, 6, 7, 8, 9, 10, 11, 12, 13] rfl) (hD.sub [0, 1, 2, 3, 4, 5, 6, 7, 8, 9, 10, 11, 12, 13] (by decide) rfl)) rfl rfl hl.1 rfl (lv_room (Nat.le_of_ble_eq_true rfl)) dL_law_378 hf1) (fun r9 H locs hPs hj hS => ?_)
        have hez := sp_ez_or (sp_os n K' A' B' z a1)
        rcases hPs with ⟨rfl, hos, hPs⟩ | ⟨rfl, hos, gQ, hgQ, hPs⟩
        · skip
          obtain ⟨hP, hD⟩ := hj ((o, .inl (cL, 1, .inr (.inl gO))) :: wo_D u v w cI nP f0 f1 f2 n g0 g1 g2 st fm vl) rfl hPs
          have hP := hP.sub (ws' := wl_W o cL cI u v w x gO nP f0 f1 f2 n g0 g1 g2 st fm vl th (sp_pz z n) m0 m1 m2 k0 k1 k2 sz) [8, 9, 10, 11, 12, 13, 14, 15, 16, 17, 18, 19, 20, 21, 0, 1, 2, 3, 4, 5, 6, 7] rfl
          have hD := hD.sub (ws' := wl_W o cL cI u v w x gO nP f0 f1 f2 n g0 g1 g2 st fm vl th (sp_pz z n) m0 m1 m2 k0 k1 k2 sz) [8, 9, 10, 11, 12, 13, 14, 15, 16, 17, 18, 19, 20, 21, 0, 1, 2, 3, 4, 5, 6, 7] (by decide) rfl
          have hP : va_P (dC, dI) vwCl (wl_W o cL cI u v w x gO nP f0 f1 f2 n g0 g1 g2 st fm vl th (sp_pz z n) m0 m1 m2 k0 k1 k2 sz) H := hP
          have hD : va_D A9 (wl_W o cL cI u v w x gO nP f0 f1 f2 n g0 g1 g2 st fm vl th (sp_pz z n) m0 m1 m2 k0 k1 k2 sz) := hD
          refine lv_istore (lv' := [(5, .int (ji_n 1)), (4, .int (ji_n ((5 * t : Nat) : Int))), (0, .ref b), (1, .ref (u 0)), (2, .ref (x 0)), (3, .ref o)]) hx hb dL_law_381 hl (by decide) rfl (fun ls hl => ?_)
          refine lv_aload_n hx hb dL_law_383 rfl (lv_at hl 4 rfl) ?_
          refine lv_aload_n hx hb dL_law_384 rfl (lv_at hl 2 rfl) ?_
          refine lv_iload hx hb dL_law_385 (lv_at hl 1 rfl) ?_
          refine jn_iconst hx hb dL_law_387 ?_
          refine jn_iadd hx hb dL_law_388 (v := ((5 * t : Nat) : Int) + 1) rfl ?_
          refine js_ld hx hb hX hbl hbA hS (5 * t + 1) (by omega) (by omega) (by omega) e1 dL_law_389 ?_
          refine lv_aload_n hx hb dL_law_390 rfl (lv_at hl 2 rfl) ?_
          refine lv_iload hx hb dL_law_391 (lv_at hl 1 rfl) ?_
          refine jn_iconst hx hb dL_law_393 ?_
          refine jn_iadd hx hb dL_law_394 (v := ((5 * t : Nat) : Int) + 2) rfl ?_
          refine js_ld hx hb hX hbl hbA hS (5 * t + 2) (by omega) (by omega) (by omega) e2 dL_law_395 ?_
          refine jn_if_eq hx hb dL_law_396 (tgt := 403) rfl r2 (fun h => absurd h h2) (fun _ => ?_)
          refine jn_iconst hx hb dL_law_399 ?_
          refine lv_goto hx hb dL_law_400 (tgt := 404) rfl ?_
          refine cl_wi (wc := wo_M x cI th ((nP : Nat) : Int) ((n : Nat) : Int) (sp_pz z n) m0 m1 m2 k0 k1 k2 sz) (wr := [0, 1, 2, 3, 4, 5, 6, 7, 8, 9, 10, 11, 12, 13].filterMap (fun i => (wl_W o cL cI u v w x gO nP f0 f1 f2 n g0 g1 g2 st fm vl th (sp_pz z n) m0 m1 m2 k0 k1 k2 sz)[i]?)) [14, 15, 16, 17, 18, 19, 20, 21] [0, 1, 2, 3, 4, 5, 6, 7, 8, 9, 10, 11, 12, 13] rfl rfl (by decide) (by decide) (by decide) hP hD hS hA (va_runV (As := [.int (ji_n a1), .int (ji_n 1)]) (rest := []) ⟨hx, hb, hml, hown, hts⟩ (cm_follow l H.size dC dI cI x th (sp_pz z n) nP n m0 m1 m2 k0 k1 k2 sz K' A' B' z hKK hAS hsz rfl a1 1 r1 (by omega)) (cwV 2 hts (ub_V tm_466 tm_467 tm_468 tm_5 tm_469) rfl rfl rfl (by decide +kernel) ⟨Nat.le_of_ble_eq_true rfl, Nat.le_of_ble_eq_true rfl⟩) (pv_wr (q0 := 0) (ci := 3) hN (hP.sub [14, 15, 16, 17, 18, 19, 20, 21] rfl) (hD.sub [14, 15, 16, 17, 18, 19, 20, 21] (by decide) rfl) rfl rfl) rfl rfl hl.1 rfl (lv_room (Nat.le_of_ble_eq_true rfl)) dL_law_404 hf2) (fun r9 H locs hPs hj hS => ?_)
          obtain ⟨rfl, hPs⟩ := hPs
          obtain ⟨hP, hD⟩ := hj (wo_M x cI (sp_ez (sp_os n K' A' B' z a1)) ((nP : Nat) : Int) ((n : Nat) : Int) (sp_pz z n) m0 m1 m2 k0 k1 k2 sz) rfl hPs
          have hP : va_P (dC, dI) vwCl (wl_W o cL cI u v w x gO nP f0 f1 f2 n g0 g1 g2 st fm vl (sp_ez (sp_os n K' A' B' z a1)) (sp_pz z n) m0 m1 m2 k0 k1 k2 sz) H := hP
          have hD : va_D A9 (wl_W o cL cI u v w x gO nP f0 f1 f2 n g0 g1 g2 st fm vl (sp_ez (sp_os n K' A' B' z a1)) (sp_pz z n) m0 m1 m2 k0 k1 k2 sz) := hD
          refine lv_istore (lv' := [(6, .int (ji_n (sp_fw n K' A' B' z a1 1))), (5, .int (ji_n 1)), (4, .int (ji_n ((5 * t : Nat) : Int))), (0, .ref b), (1, .ref (u 0)), (2, .ref (x 0)), (3, .ref o)]) hx hb dL_law_407 hl (by decide) rfl (fun ls hl => ?_)
          refine lv_aload_n hx hb dL_law_409 rfl (lv_at hl 5 rfl) ?_
          refine cl_rd (va_runV (As := []) (rest := []) ⟨hx, hb, hml, hown, hts⟩ (cm_thrown l dC dI cI x (sp_ez (sp_os n K' A' B' z a1)) (sp_pz z n) nP n m0 m1 m2 k0 k1 k2 sz) (cwV 0 hts (ub_V tm_392 tm_393 tm_394 tm_5 tm_395) rfl rfl rfl (by decide +kernel) ⟨Nat.le_of_ble_eq_true rfl, Nat.le_of_ble_eq_true rfl⟩) (pv_rd (q0 := 0) (ci := 3) hN (hP.sub [14, 15, 16, 17, 18, 19, 20, 21] rfl) rfl rfl) rfl rfl hl.1 rfl (lv_room (Nat.le_of_ble_eq_true rfl)) dL_law_410 hf2) ?_
          refine lv_iload hx hb dL_law_413 (lv_at hl 1 rfl) ?_
          refine jn_icmp_eq hx hb dL_law_415 (tgt := 420) rfl (by unfold ji_r; omega) (by unfold ji_r; omega) (fun _ => ?_) (fun h => absurd (by omega) h)
          refine lv_iload hx hb dL_law_420 (lv_at hl 1 rfl) ?_
          refine jn_if_ne hx hb dL_law_422 (tgt := 437) rfl (by unfold ji_r; omega) (fun _ => ?_) (fun h => absurd h (by omega))
          refine lv_goto hx hb dL_law_437 (tgt := 514) rfl ?_
          have hl : lv_has ls 7 [(4, .int (ji_n ((5 * t : Nat) : Int))), (0, .ref b), (1, .ref (u 0)), (2, .ref (x 0)), (3, .ref o)] := lv_sub hl [2, 3, 4, 5, 6] rfl
          exact hnext1 ls hl H locs ⟨nP, K, A, B, n, K', A', B', z, _, _, _, _, _, _, _, _, _, _, _, _, _, _, _, _, _, _, hn, hg, hF, hM, hAS, hG, hSS, hKK, hsz, hP⟩ hS
        · skip
          obtain ⟨hP, hD⟩ := hj ((o, .inl (cL, 1, .inr (.inl gQ))) :: wo_D u v w cI nP f0 f1 f2 n g0 g1 g2 st fm vl) rfl hPs
          have hP := hP.sub (ws' := wl_W o cL cI u v w x gQ nP f0 f1 f2 n g0 g1 g2 st fm vl th (sp_pz z n) m0 m1 m2 k0 k1 k2 sz) [8, 9, 10, 11, 12, 13, 14, 15, 16, 17, 18, 19, 20, 21, 0, 1, 2, 3, 4, 5, 6, 7] rfl
          have hD := hD.sub (ws' := wl_W o cL cI u v w x gQ nP f0 f1 f2 n g0 g1 g2 st fm vl th (sp_pz z n) m0 m1 m2 k0 k1 k2 sz) [8, 9, 10, 11, 12, 13, 14, 15, 16, 17, 18, 19, 20, 21, 0, 1, 2, 3, 4, 5, 6, 7] (by decide) rfl
          have hP : va_P (dC, dI) vwCl (wl_W o cL cI u v w x gQ nP f0 f1 f2 n g0 g1 g2 st fm vl th (sp_pz z n) m0 m1 m2 k0 k1 k2 sz) H := hP
          have hD : va_D A9 (wl_W o cL cI u v w x gQ nP f0 f1 f2 n g0 g1 g2 st fm vl th (sp_pz z n) m0 m1 m2 k0 k1 k2 sz) := hD
          refine lv_istore (lv' := [(5, .int (ji_n 0)), (4, .int (ji_n ((5 * t : Nat) : Int))), (0, .ref b), (1, .ref (u 0)), (2, .ref (x 0)), (3, .ref o)]) hx hb dL_law_381 hl (by decide) rfl (fun ls hl => ?_)
          refine lv_aload_n hx hb dL_law_383 rfl (lv_at hl 4 rfl) ?_
          refine lv_aload_n hx hb dL_law_384 rfl (lv_at hl 2 rfl) ?_
          refine lv_iload hx hb dL_law_385 (lv_at hl 1 rfl) ?_
          refine jn_iconst hx hb dL_law_387 ?_
          refine jn_iadd hx hb dL_law_388 (v := ((5 * t : Nat) : Int) + 1) rfl ?_
          refine js_ld hx hb hX hbl hbA hS (5 * t + 1) (by omega) (by omega) (by omega) e1 dL_law_389 ?_
          refine lv_aload_n hx hb dL_law_390 rfl (lv_at hl 2 rfl) ?_
          refine lv_iload hx hb dL_law_391 (lv_at hl 1 rfl) ?_
          refine jn_iconst hx hb dL_law_393 ?_
          refine jn_iadd hx hb dL_law_394 (v := ((5 * t : Nat) : Int) + 2) rfl ?_
          refine js_ld hx hb hX hbl hbA hS (5 * t + 2) (by omega) (by omega) (by omega) e2 dL_law_395 ?_
          refine jn_if_eq hx hb dL_law_396 (tgt := 403) rfl r2 (fun h => absurd h h2) (fun _ => ?_)
          refine jn_iconst hx hb dL_law_399 ?_
          refine lv_goto hx hb dL_law_400 (tgt := 404) rfl ?_
          refine cl_wi (wc := wo_M x cI th ((nP : Nat) : Int) ((n : Nat) : Int) (sp_pz z n) m0 m1 m2 k0 k1 k2 sz) (wr := [0, 1, 2, 3, 4, 5, 6, 7, 8, 9, 10, 11, 12, 13].filterMap (fun i => (wl_W o cL cI u v w x gQ nP f0 f1 f2 n g0 g1 g2 st fm vl th (sp_pz z n) m0 m1 m2 k0 k1 k2 sz)[i]?)) [14, 15, 16, 17, 18, 19, 20, 21] [0, 1, 2, 3, 4, 5, 6, 7, 8, 9, 10, 11, 12, 13] rfl rfl (by decide) (by decide) (by decide) hP hD hS hA (va_runV (As := [.int (ji_n a1), .int (ji_n 1)]) (rest := []) ⟨hx, hb, hml, hown, hts⟩ (cm_follow l H.size dC dI cI x th (sp_pz z n) nP n m0 m1 m2 k0 k1 k2 sz K' A' B' z hKK hAS hsz rfl a1 1 r1 (by omega)) (cwV 2 hts (ub_V tm_466 tm_467 tm_468 tm_5 tm_469) rfl rfl rfl (by decide +kernel) ⟨Nat.le_of_ble_eq_true rfl, Nat.le_of_ble_eq_true rfl⟩) (pv_wr (q0 := 0) (ci := 3) hN (hP.sub [14, 15, 16, 17, 18, 19, 20, 21] rfl) (hD.sub [14, 15, 16, 17, 18, 19, 20, 21] (by decide) rfl) rfl rfl) rfl rfl hl.1 rfl (lv_room (Nat.le_of_ble_eq_true rfl)) dL_law_404 hf2) (fun r9 H locs hPs hj hS => ?_)
          obtain ⟨rfl, hPs⟩ := hPs
          obtain ⟨hP, hD⟩ := hj (wo_M x cI (sp_ez (sp_os n K' A' B' z a1)) ((nP : Nat) : Int) ((n : Nat) : Int) (sp_pz z n) m0 m1 m2 k0 k1 k2 sz) rfl hPs
          have hP : va_P (dC, dI) vwCl (wl_W o cL cI u v w x gQ nP f0 f1 f2 n g0 g1 g2 st fm vl (sp_ez (sp_os n K' A' B' z a1)) (sp_pz z n) m0 m1 m2 k0 k1 k2 sz) H := hP
          have hD : va_D A9 (wl_W o cL cI u v w x gQ nP f0 f1 f2 n g0 g1 g2 st fm vl (sp_ez (sp_os n K' A' B' z a1)) (sp_pz z n) m0 m1 m2 k0 k1 k2 sz) := hD
          have hfw : sp_fw n K' A' B' z a1 1 = sp_nx n K' A' B' z a1 1 := if_neg hos
          rw [hfw]
          refine lv_istore (lv' := [(6, .int (ji_n (sp_nx n K' A' B' z a1 1))), (5, .int (ji_n 0)), (4, .int (ji_n ((5 * t : Nat) : Int))), (0, .ref b), (1, .ref (u 0)), (2, .ref (x 0)), (3, .ref o)]) hx hb dL_law_407 hl (by decide) rfl (fun ls hl => ?_)
          refine lv_aload_n hx hb dL_law_409 rfl (lv_at hl 5 rfl) ?_
          refine cl_rd (va_runV (As := []) (rest := []) ⟨hx, hb, hml, hown, hts⟩ (cm_thrown l dC dI cI x (sp_ez (sp_os n K' A' B' z a1)) (sp_pz z n) nP n m0 m1 m2 k0 k1 k2 sz) (cwV 0 hts (ub_V tm_392 tm_393 tm_394 tm_5 tm_395) rfl rfl rfl (by decide +kernel) ⟨Nat.le_of_ble_eq_true rfl, Nat.le_of_ble_eq_true rfl⟩) (pv_rd (q0 := 0) (ci := 3) hN (hP.sub [14, 15, 16, 17, 18, 19, 20, 21] rfl) rfl rfl) rfl rfl hl.1 rfl (lv_room (Nat.le_of_ble_eq_true rfl)) dL_law_410 hf2) ?_
          refine lv_iload hx hb dL_law_413 (lv_at hl 1 rfl) ?_
          refine jn_icmp_eq hx hb dL_law_415 (tgt := 420) rfl (by unfold ji_r; omega) (by unfold ji_r; omega) (fun _ => ?_) (fun h => absurd (by omega) h)
          refine lv_iload hx hb dL_law_420 (lv_at hl 1 rfl) ?_
          refine jn_if_ne hx hb dL_law_422 (tgt := 437) rfl (by unfold ji_r; omega) (fun h => absurd rfl h) (fun _ => ?_)
          refine lv_aload_n hx hb dL_law_425 rfl (lv_at hl 6 rfl) ?_
          refine jn_iconst hx hb dL_law_426 ?_
          refine va_lald hx hb hKL hP 0 0 rfl rfl (i := ji_n 0) (ji_in (n := 0) (N := 1) (by omega) (by omega)) dL_law_427 ?_
          rw [show (ji_n 0).toNatClampNeg = 0 from by decide, hgQ]
          refine lv_iload hx hb dL_law_428 (lv_at hl 0 rfl) ?_
          refine lv_i2l hx hb dL_law_430 (v := (ji_n (sp_nx n K' A' B' z a1 1)).toInt64) rfl ?_
          refine W.lcmp hx hb dL_law_431 ?_
          rw [lg_same]
          refine jn_if_eq hx hb dL_law_432 (tgt := 437) rfl (by unfold ji_r; omega) (fun _ => ?_) (fun h => absurd rfl h)
          refine lv_goto hx hb dL_law_437 (tgt := 514) rfl ?_
          have hl : lv_has ls 7 [(4, .int (ji_n ((5 * t : Nat) : Int))), (0, .ref b), (1, .ref (u 0)), (2, .ref (x 0)), (3, .ref o)] := lv_sub hl [2, 3, 4, 5, 6] rfl
          exact hnext1 ls hl H locs ⟨nP, K, A, B, n, K', A', B', z, _, _, _, _, _, _, _, _, _, _, _, _, _, _, _, _, _, _, hn, hg, hF, hM, hAS, hG, hSS, hKK, hsz, hP⟩ hS
    · skip
      refine jn_top (v := 10) (congrArg ji_n hk) ?_
      refine lv_tableIn hx hb dL_law_39 (tgt := 440) (by decide) (by decide) rfl rfl ?_
      refine lv_aload_n hx hb dL_law_440 rfl (lv_at hl 2 rfl) ?_
      refine lv_aload_n hx hb dL_law_441 rfl (lv_at hl 1 rfl) ?_
      refine lv_iload hx hb dL_law_442 (lv_at hl 0 rfl) ?_
      refine jn_iconst hx hb dL_law_444 ?_
      refine jn_iadd hx hb dL_law_445 (v := ((5 * t : Nat) : Int) + 1) rfl ?_
      refine js_ld hx hb hX hbl hbA hS (5 * t + 1) (by omega) (by omega) (by omega) e1 dL_law_446 ?_
      refine cl_rd (va_runV (As := [.int (ji_n a1)]) (rest := []) ⟨hx, hb, hml, hown, hts⟩ (cd_jumps l dC dI cI u v w nP f0 f1 f2 n g0 g1 g2 st fm vl K' A' B' z hG hAS hSS a1 r1) (cwV 1 hts (ub_V tm_176 tm_177 tm_178 tm_1 tm_179) rfl rfl rfl (by decide +kernel) ⟨Nat.le_of_ble_eq_true rfl, Nat.le_of_ble_eq_true rfl⟩) (pv_rd (q0 := 0) (ci := 2) hN (hP.sub [1, 2, 3, 4, 5, 6, 7, 8, 9, 10, 11, 12, 13] rfl) rfl rfl) rfl rfl hl.1 rfl (lv_room (Nat.le_of_ble_eq_true rfl)) dL_law_447 hf0) ?_
      refine lv_aload_n hx hb dL_law_450 rfl (lv_at hl 3 rfl) ?_
      refine lv_aload_n hx hb dL_law_451 rfl (lv_at hl 1 rfl) ?_
      refine lv_iload hx hb dL_law_452 (lv_at hl 0 rfl) ?_
      refine jn_iconst hx hb dL_law_454 ?_
      refine jn_iadd hx hb dL_law_455 (v := ((5 * t : Nat) : Int) + 1) rfl ?_
      refine js_ld hx hb hX hbl hbA hS (5 * t + 1) (by omega) (by omega) (by omega) e1 dL_law_456 ?_
      refine cl_wi (wc := wo_M x cI th ((nP : Nat) : Int) ((n : Nat) : Int) (sp_pz z n) m0 m1 m2 k0 k1 k2 sz) (wr := [0, 1, 2, 3, 4, 5, 6, 7, 8, 9, 10, 11, 12, 13].filterMap (fun i => (wl_W o cL cI u v w x gO nP f0 f1 f2 n g0 g1 g2 st fm vl th (sp_pz z n) m0 m1 m2 k0 k1 k2 sz)[i]?)) [14, 15, 16, 17, 18, 19, 20, 21] [0, 1, 2, 3, 4, 5, 6, 7, 8, 9, 10, 11, 12, 13] rfl rfl (by decide) (by decide) (by decide) hP hD hS hA (va_runV (As := [.int (ji_n a1)]) (rest := [.int (ji_n (sp_ju (sp_os n K' A' B' z a1)))]) ⟨hx, hb, hml, hown, hts⟩ (cm_jumps l H.size dC dI cI x th (sp_pz z n) nP n m0 m1 m2 k0 k1 k2 sz K' A' B' z hKK hAS hsz rfl a1 r1) (cwV 1 hts (ub_V tm_478 tm_479 tm_480 tm_5 tm_481) rfl rfl rfl (by decide +kernel) ⟨Nat.le_of_ble_eq_true rfl, Nat.le_of_ble_eq_true rfl⟩) (pv_wr (q0 := 0) (ci := 3) hN (hP.sub [14, 15, 16, 17, 18, 19, 20, 21] rfl) (hD.sub [14, 15, 16, 17, 18, 19, 20, 21] (by decide) rfl) rfl rfl) rfl rfl hl.1 rfl (lv_room (Nat.le_of_ble_eq_true rfl)) dL_law_457 hf0) (fun r9 H locs hPs hj hS => ?_)
      obtain ⟨rfl, hPs⟩ := hPs
      obtain ⟨hP, hD⟩ := hj (wo_M x cI 0 ((nP : Nat) : Int) ((n : Nat) : Int) (sp_pz z n) m0 m1 m2 k0 k1 k2 sz) rfl hPs
      have hP : va_P (dC, dI) vwCl (wl_W o cL cI u v w x gO nP f0 f1 f2 n g0 g1 g2 st fm vl 0 (sp_pz z n) m0 m1 m2 k0 k1 k2 sz) H := hP
      have hD : va_D A9 (wl_W o cL cI u v w x gO nP f0 f1 f2 n g0 g1 g2 st fm vl 0 (sp_pz z n) m0 m1 m2 k0 k1 k2 sz) := hD
      refine lv_icmp_eq hx hb dL_law_460 (tgt := 514) rfl (fun _ => ?_) (fun h => absurd rfl h)
      exact hnext ls hl H locs ⟨nP, K, A, B, n, K', A', B', z, _, _, _, _, _, _, _, _, _, _, _, _, _, _, _, _, _, _, hn, hg, hF, hM, hAS, hG, hSS, hKK, hsz, hP⟩ hS
    · skip
      refine jn_top (v := 11) (congrArg ji_n hk) ?_
      refine lv_tableIn hx hb dL_law_39 (tgt := 465) (by decide) (by decide) rfl rfl ?_
      refine lv_aload_n hx hb dL_law_465 rfl (lv_at hl 2 rfl) ?_
      refine lv_aload_n hx hb dL_law_466 rfl (lv_at hl 1 rfl) ?_
      refine lv_iload hx hb dL_law_467 (lv_at hl 0 rfl) ?_
      refine jn_iconst hx hb dL_law_469 ?_
      refine jn_iadd hx hb dL_law_470 (v := ((5 * t : Nat) : Int) + 1) rfl ?_
      refine js_ld hx hb hX hbl hbA hS (5 * t + 1) (by omega) (by omega) (by omega) e1 dL_law_471 ?_
      refine lv_aload_n hx hb dL_law_472 rfl (lv_at hl 1 rfl) ?_
      refine lv_iload hx hb dL_law_473 (lv_at hl 0 rfl) ?_
      refine jn_iconst hx hb dL_law_475 ?_
      refine jn_iadd hx hb dL_law_476 (v := ((5 * t : Nat) : Int) + 2) rfl ?_
      refine js_ld hx hb hX hbl hbA hS (5 * t + 2) (by omega) (by omega) (by omega) e2 dL_law_477 ?_
      refine lv_aload_n hx hb dL_law_478 rfl (lv_at hl 1 rfl) ?_
      refine lv_iload hx hb dL_law_479 (lv_at hl 0 rfl) ?_
      refine jn_iconst hx hb dL_law_481 ?_
      refine jn_iadd hx hb dL_law_482 (v := ((5 * t : Nat) : Int) + 3) rfl ?_
      refine js_ld hx hb hX hbl hbA hS (5 * t + 3) (by omega) (by omega) (by omega) e3 dL_law_483 ?_
      refine cl_rd (va_runV (As := [.int (ji_n a1), .int (ji_n a2), .int (ji_n a3)]) (rest := []) ⟨hx, hb, hml, hown, hts⟩ (cd_trace l dC dI cI u v w nP f0 f1 f2 n g0 g1 g2 st fm vl K' A' B' z hG hAS hSS a1 a3 (ji_n a2) r1 r3) (cwV 3 hts (ub_V tm_190 tm_191 tm_192 tm_1 tm_193) rfl rfl rfl (by decide +kernel) ⟨Nat.le_of_ble_eq_true rfl, Nat.le_of_ble_eq_true rfl⟩) (pv_rd (q0 := 0) (ci := 2) hN (hP.sub [1, 2, 3, 4, 5, 6, 7, 8, 9, 10, 11, 12, 13] rfl) rfl rfl) rfl rfl hl.1 rfl (lv_room (Nat.le_of_ble_eq_true rfl)) dL_law_484 hf0) ?_
      refine lv_aload_n hx hb dL_law_487 rfl (lv_at hl 3 rfl) ?_
      refine lv_aload_n hx hb dL_law_488 rfl (lv_at hl 1 rfl) ?_
      refine lv_iload hx hb dL_law_489 (lv_at hl 0 rfl) ?_
      refine jn_iconst hx hb dL_law_491 ?_
      refine jn_iadd hx hb dL_law_492 (v := ((5 * t : Nat) : Int) + 1) rfl ?_
      refine js_ld hx hb hX hbl hbA hS (5 * t + 1) (by omega) (by omega) (by omega) e1 dL_law_493 ?_
      refine lv_aload_n hx hb dL_law_494 rfl (lv_at hl 1 rfl) ?_
      refine lv_iload hx hb dL_law_495 (lv_at hl 0 rfl) ?_
      refine jn_iconst hx hb dL_law_497 ?_
      refine jn_iadd hx hb dL_law_498 (v := ((5 * t : Nat) : Int) + 2) rfl ?_
      refine js_ld hx hb hX hbl hbA hS (5 * t + 2) (by omega) (by omega) (by omega) e2 dL_law_499 ?_
      refine lv_aload_n hx hb dL_law_500 rfl (lv_at hl 1 rfl) ?_
      refine lv_iload hx hb dL_law_501 (lv_at hl 0 rfl) ?_
      refine jn_iconst hx hb dL_law_503 ?_
      refine jn_iadd hx hb dL_law_504 (v := ((5 * t : Nat) : Int) + 3) rfl ?_
      refine js_ld hx hb hX hbl hbA hS (5 * t + 3) (by omega) (by omega) (by omega) e3 dL_law_505 ?_
      refine cl_wi (wc := wo_M x cI th ((nP : Nat) : Int) ((n : Nat) : Int) (sp_pz z n) m0 m1 m2 k0 k1 k2 sz) (wr := [0, 1, 2, 3, 4, 5, 6, 7, 8, 9, 10, 11, 12, 13].filterMap (fun i => (wl_W o cL cI u v w x gO nP f0 f1 f2 n g0 g1 g2 st fm vl th (sp_pz z n) m0 m1 m2 k0 k1 k2 sz)[i]?)) [14, 15, 16, 17, 18, 19, 20, 21] [0, 1, 2, 3, 4, 5, 6, 7, 8, 9, 10, 11, 12, 13] rfl rfl (by decide) (by decide) (by decide) hP hD hS hA (va_runV (As := [.int (ji_n a1), .int (ji_n a2), .int (ji_n a3)]) (rest := [.int (ji_n (sp_tc n K' A' B' z a1 (ji_n a2) a3))]) ⟨hx, hb, hml, hown, hts⟩ (cm_trace l H.size dC dI cI x th (sp_pz z n) nP n m0 m1 m2 k0 k1 k2 sz K' A' B' z hKK hAS hsz rfl a1 a3 (ji_n a2) r1 r3) (cwV 3 hts (ub_V tm_482 tm_483 tm_484 tm_5 tm_485) rfl rfl rfl (by decide +kernel) ⟨Nat.le_of_ble_eq_true rfl, Nat.le_of_ble_eq_true rfl⟩) (pv_wr (q0 := 0) (ci := 3) hN (hP.sub [14, 15, 16, 17, 18, 19, 20, 21] rfl) (hD.sub [14, 15, 16, 17, 18, 19, 20, 21] (by decide) rfl) rfl rfl) rfl rfl hl.1 rfl (lv_room (Nat.le_of_ble_eq_true rfl)) dL_law_506 hf0) (fun r9 H locs hPs hj hS => ?_)
      obtain ⟨rfl, hPs⟩ := hPs
      obtain ⟨hP, hD⟩ := hj (wo_M x cI 0 ((nP : Nat) : Int) ((n : Nat) : Int) (sp_pz z n) m0 m1 m2 k0 k1 k2 sz) rfl hPs
      have hP : va_P (dC, dI) vwCl (wl_W o cL cI u v w x gO nP f0 f1 f2 n g0 g1 g2 st fm vl 0 (sp_pz z n) m0 m1 m2 k0 k1 k2 sz) H := hP
      have hD : va_D A9 (wl_W o cL cI u v w x gO nP f0 f1 f2 n g0 g1 g2 st fm vl 0 (sp_pz z n) m0 m1 m2 k0 k1 k2 sz) := hD
      refine lv_icmp_eq hx hb dL_law_509 (tgt := 514) rfl (fun _ => ?_) (fun h => absurd rfl h)
      exact hnext ls hl H locs ⟨nP, K, A, B, n, K', A', B', z, _, _, _, _, _, _, _, _, _, _, _, _, _, _, _, _, _, _, hn, hg, hF, hM, hAS, hG, hSS, hKK, hsz, hP⟩ hS
    · skip
      refine lv_tableOut hx hb dL_law_39 (tgt := 514) (by rw [ji_toInt (by unfold ji_r; omega)]; omega) rfl ?_
      exact hnext ls hl H locs ⟨nP, K, A, B, n, K', A', B', z, _, _, _, _, _, _, _, _, _, _, _, _, _, _, _, _, _, _, hn, hg, hF, hM, hAS, hG, hSS, hKK, hsz, hP⟩ hS
