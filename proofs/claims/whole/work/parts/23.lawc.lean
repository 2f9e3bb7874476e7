/-- what goes on behind a call: the turn's end, with any state that is in order -/
def lw_C (p : Program) (l : Launch) (e : Env) (s : State) (m : MethodId) (below : List Frame) (meth : Method) (c : Code) (b : Nat) (dC : Nat → ClassId) (dI : Nat → Nat → Nat) (cA : ClassId) (h0 a1 a2 a3 a4 a5 a6 a7 a8 a9 g0 b1 b2 b3 b4 b5 b6 b7 b8 b9 N i : Nat) : Prop := ∀ (T X : Nat) (nw : Int32) (fv tn tw th tk kt kn xt xn : Nat → Int32) (H : Heap) (locs : List Loc) (ls : Array Slot), iG N T X tn tw th tk kt xt → va_P (dC, dI) vwCl ((wX cA h0 a1 a2 a3 a4 a5 a6 a7 a8 a9 N T X nw fv tn tw th tk kt kn xt xn) ++ (wM cA g0 b1 b2 b3 b4 b5 b6 b7 b8 b9 N T X nw fv tn tw th tk kt kn xt xn)) H → va_D (fun q : Nat => s.heap.size ≤ q) ((wX cA h0 a1 a2 a3 a4 a5 a6 a7 a8 a9 N T X nw fv tn tw th tk kt kn xt xn) ++ (wM cA g0 b1 b2 b3 b4 b5 b6 b7 b8 b9 N T X nw fv tn tw th tk kt kn xt xn)) → va_S (fun q : Nat => s.heap.size ≤ q) s.heap H locs → lv_has ls 4 [(3, .int (nI i)), (0, .ref b), (1, .ref h0), (2, .ref g0)] → W p l e room_1 s m #[Value.ref b] below meth c H locs 20 9595 (lw_Z below #[Value.ref b] s) (F0 m 380 ls [])
set_option maxHeartbeats 4000000 in
set_option maxRecDepth 100000 in
/-- the law's case 0: key -/
theorem law_c0 {p : Program} {e : Env} {s : State} {m : MethodId} {below : List Frame} {meth : Method} {c : Code} (l : Launch) {b L : Nat} {xs : Nat → Int32} (hL : L ≤ 3073) (C0 : lw_At p s m meth c b L xs) (dC : Nat → ClassId) (dI : Nat → Nat → Nat) (cA : ClassId) (hK : va_K (dC, dI) vwCl [(cA, .int)] s) (h0 a1 a2 a3 a4 a5 a6 a7 a8 a9 g0 b1 b2 b3 b4 b5 b6 b7 b8 b9 N i : Nat) (hi : i + 6 ≤ L) (hC : lw_C p l e s m below meth c b dC dI cA h0 a1 a2 a3 a4 a5 a6 a7 a8 a9 g0 b1 b2 b3 b4 b5 b6 b7 b8 b9 N i) (T X : Nat) (nw : Int32) (fv tn tw th tk kt kn xt xn : Nat → Int32) (H : Heap) (locs : List Loc) (ls : Array Slot) (hG : iG N T X tn tw th tk kt xt) (hP : va_P (dC, dI) vwCl ((wX cA h0 a1 a2 a3 a4 a5 a6 a7 a8 a9 N T X nw fv tn tw th tk kt kn xt xn) ++ (wM cA g0 b1 b2 b3 b4 b5 b6 b7 b8 b9 N T X nw fv tn tw th tk kt kn xt xn)) H) (hD : va_D (fun q : Nat => s.heap.size ≤ q) ((wX cA h0 a1 a2 a3 a4 a5 a6 a7 a8 a9 N T X nw fv tn tw th tk kt kn xt xn) ++ (wM cA g0 b1 b2 b3 b4 b5 b6 b7 b8 b9 N T X nw fv tn tw th tk kt kn xt xn))) (hS : va_S (fun q : Nat => s.heap.size ≤ q) s.heap H locs) (hl : lv_has ls 4 [(3, .int (nI i)), (0, .ref b), (1, .ref h0), (2, .ref g0)]) : W p l e room_1 s m #[Value.ref b] below meth c H locs 20 9595 (lw_Z below #[Value.ref b] s) (F0 m 88 ls []) := by
  obtain ⟨hx, hb, hr, hml, hown0, hts, hX, hbl, hlocks, hgv⟩ := id C0
  have hown : s.vm.findClass RL = some m.cls := hown0
  have hA : ∀ q : Nat, s.heap.size ≤ q → (fun q : Nat => s.heap.size ≤ q) q := fun _ h => h
  have hbA : ¬ (fun q : Nat => s.heap.size ≤ q) b := Nat.not_le.mpr hbl
  obtain ⟨hN, hT, hX32, htr, hgx⟩ := id hG
  refine lv_aload_n hx hb dL_law_88 rfl (lv_at hl 2 rfl) ?_
  refine lv_aload_n hx hb dL_law_89 rfl (lv_at hl 1 rfl) ?_
  refine lv_iload_n hx hb dL_law_90 rfl (lv_at hl 0 rfl) ?_
  refine lv_iconst (v := (nI 1)) hx hb dL_law_91 (by decide) ?_
  refine lv_iadd hx hb dL_law_92 ?_
  refine tp_i (y := nI (i + 1)) (nI_add i 1) ?_
  refine va_sld hx hb hX hbl hbA hS (vp_in_nI (n := i + 1) (by omega) (by omega)) dL_law_93 ?_
  refine tp_i (y := (xs (i + 1))) (by rw [nI_clamp (by omega)]) ?_
  refine lv_aload_n hx hb dL_law_94 rfl (lv_at hl 1 rfl) ?_
  refine lv_iload_n hx hb dL_law_95 rfl (lv_at hl 0 rfl) ?_
  refine lv_iconst (v := (nI 2)) hx hb dL_law_96 (by decide) ?_
  refine lv_iadd hx hb dL_law_97 ?_
  refine tp_i (y := nI (i + 2)) (nI_add i 2) ?_
  refine va_sld hx hb hX hbl hbA hS (vp_in_nI (n := i + 2) (by omega) (by omega)) dL_law_98 ?_
  refine tp_i (y := (xs (i + 2))) (by rw [nI_clamp (by omega)]) ?_
  refine lv_aload_n hx hb dL_law_99 rfl (lv_at hl 1 rfl) ?_
  refine lv_iload_n hx hb dL_law_100 rfl (lv_at hl 0 rfl) ?_
  refine lv_iconst (v := (nI 3)) hx hb dL_law_101 (by decide) ?_
  refine lv_iadd hx hb dL_law_102 ?_
  refine tp_i (y := nI (i + 3)) (nI_add i 3) ?_
  refine va_sld hx hb hX hbl hbA hS (vp_in_nI (n := i + 3) (by omega) (by omega)) dL_law_103 ?_
  refine tp_i (y := (xs (i + 3))) (by rw [nI_clamp (by omega)]) ?_
  refine lv_aload_n hx hb dL_law_104 rfl (lv_at hl 1 rfl) ?_
  refine lv_iload_n hx hb dL_law_105 rfl (lv_at hl 0 rfl) ?_
  refine lv_iconst (v := (nI 4)) hx hb dL_law_106 (by decide) ?_
  refine lv_iadd hx hb dL_law_107 ?_
  refine tp_i (y := nI (i + 4)) (nI_add i 4) ?_
  refine va_sld hx hb hX hbl hbA hS (vp_in_nI (n := i + 4) (by omega) (by omega)) dL_law_108 ?_
  refine tp_i (y := (xs (i + 4))) (by rw [nI_clamp (by omega)]) ?_
  have hPc := hP.sub (ws' := (wX cA h0 a1 a2 a3 a4 a5 a6 a7 a8 a9 N T X nw fv tn tw th tk kt kn xt xn)) [0, 1, 2, 3, 4, 5, 6, 7, 8, 9] rfl
  have hDc := hD.sub (ws' := (wX cA h0 a1 a2 a3 a4 a5 a6 a7 a8 a9 N T X nw fv tn tw th tk kt kn xt xn)) [0, 1, 2, 3, 4, 5, 6, 7, 8, 9] (by decide) rfl
  have hFc := va_free (wc := (wX cA h0 a1 a2 a3 a4 a5 a6 a7 a8 a9 N T X nw fv tn tw th tk kt kn xt xn)) hD hS hA [0, 1, 2, 3, 4, 5, 6, 7, 8, 9] rfl
  refine va_calli (va_runV (C := RX0) (As := [.int (xs (i + 1)), .int (xs (i + 2)), .int (xs (i + 3)), .int (xs (i + 4))]) (rest := []) ⟨hx, hb, hml, hown, hts⟩ (cx_key l dC dI cA h0 a1 a2 a3 a4 a5 a6 a7 a8 a9 N T X nw fv tn tw th tk kt kn xt xn H.size (xs (i + 1)) (xs (i + 2)) (xs (i + 3)) (xs (i + 4)) hX32) (cwV 4 hts gL_law_X0_key rfl rfl rfl (by decide +kernel) ⟨Nat.le_of_ble_eq_true rfl, Nat.le_of_ble_eq_true rfl⟩) ⟨fun a U g mk q => by obtain ⟨q0, q1, qP, qK, qD⟩ := q; exact ⟨q0, q1, qP, va_K.moved (u := U) (U := U.calling g mk a) (Vm.Alike.refl U.vm) qK, qD⟩, va_recv hK hPc (ci := 0) (q0 := 0) rfl rfl, fun U hU hW => ⟨rfl, by rw [hU], by rw [hU]; exact hPc, va_K.moved hW.alike hK, hDc.weaken (fun _ _ _ _ => trivial)⟩⟩ rfl rfl hl.1 rfl (lv_room (Nat.le_of_ble_eq_true rfl)) dL_law_109 ⟨Nat.le_of_ble_eq_true rfl, Nat.le_of_ble_eq_true rfl⟩) hS (fun q _ h => hFc q h) hFc (fun r1 u1 t9 H1 locs ht9 hvm h_r1 hB hz1 hk1 hS => ?_)
  obtain ⟨hP1, hK1, hD1⟩ := hB
  rw [ht9] at hP1
  obtain ⟨hP2, hD2⟩ := va_join (wr := (wM cA g0 b1 b2 b3 b4 b5 b6 b7 b8 b9 N T X nw fv tn tw th tk kt kn xt xn)) (w1 := (wX cA h0 a1 a2 a3 a4 a5 a6 a7 a8 a9 N T u1.1 nw fv tn tw th tk kt kn u1.2.1 u1.2.2)) hP hD [0, 1, 2, 3, 4, 5, 6, 7, 8, 9] [10, 11, 12, 13, 14, 15, 16, 17, 18, 19] rfl rfl (by decide) (by decide) hk1 hFc hP1 hD1
  clear hP hD hP1 hD1 hPc hDc hFc hk1 hz1 ht9 hvm hK1
  generalize H1 = H at hP2 hS ⊢
  have hP : va_P (dC, dI) vwCl ((wM cA g0 b1 b2 b3 b4 b5 b6 b7 b8 b9 N T X nw fv tn tw th tk kt kn xt xn) ++ (wX cA h0 a1 a2 a3 a4 a5 a6 a7 a8 a9 N T u1.1 nw fv tn tw th tk kt kn u1.2.1 u1.2.2)) H := hP2
  have hD : va_D (fun q : Nat => s.heap.size ≤ q) ((wM cA g0 b1 b2 b3 b4 b5 b6 b7 b8 b9 N T X nw fv tn tw th tk kt kn xt xn) ++ (wX cA h0 a1 a2 a3 a4 a5 a6 a7 a8 a9 N T u1.1 nw fv tn tw th tk kt kn u1.2.1 u1.2.2)) := hD2
  clear hP2 hD2
  refine lv_aload_n hx hb dL_law_112 rfl (lv_at hl 3 rfl) ?_
  refine lv_aload_n hx hb dL_law_113 rfl (lv_at hl 1 rfl) ?_
  refine lv_iload_n hx hb dL_law_114 rfl (lv_at hl 0 rfl) ?_
  refine lv_iconst (v := (nI 1)) hx hb dL_law_115 (by decide) ?_
  refine lv_iadd hx hb dL_law_116 ?_
  refine tp_i (y := nI (i + 1)) (nI_add i 1) ?_
  refine va_sld hx hb hX hbl hbA hS (vp_in_nI (n := i + 1) (by omega) (by omega)) dL_law_117 ?_
  refine tp_i (y := (xs (i + 1))) (by rw [nI_clamp (by omega)]) ?_
  refine lv_aload_n hx hb dL_law_118 rfl (lv_at hl 1 rfl) ?_
  refine lv_iload_n hx hb dL_law_119 rfl (lv_at hl 0 rfl) ?_
  refine lv_iconst (v := (nI 2)) hx hb dL_law_120 (by decide) ?_
  refine lv_iadd hx hb dL_law_121 ?_
  refine tp_i (y := nI (i + 2)) (nI_add i 2) ?_
  refine va_sld hx hb hX hbl hbA hS (vp_in_nI (n := i + 2) (by omega) (by omega)) dL_law_122 ?_
  refine tp_i (y := (xs (i + 2))) (by rw [nI_clamp (by omega)]) ?_
  refine lv_aload_n hx hb dL_law_123 rfl (lv_at hl 1 rfl) ?_
  refine lv_iload_n hx hb dL_law_124 rfl (lv_at hl 0 rfl) ?_
  refine lv_iconst (v := (nI 3)) hx hb dL_law_125 (by decide) ?_
  refine lv_iadd hx hb dL_law_126 ?_
  refine tp_i (y := nI (i + 3)) (nI_add i 3) ?_
  refine va_sld hx hb hX hbl hbA hS (vp_in_nI (n := i + 3) (by omega) (by omega)) dL_law_127 ?_
  refine tp_i (y := (xs (i + 3))) (by rw [nI_clamp (by omega)]) ?_
  refine lv_aload_n hx hb dL_law_128 rfl (lv_at hl 1 rfl) ?_
  refine lv_iload_n hx hb dL_law_129 rfl (lv_at hl 0 rfl) ?_
  refine lv_iconst (v := (nI 4)) hx hb dL_law_130 (by decide) ?_
  refine lv_iadd hx hb dL_law_131 ?_
  refine tp_i (y := nI (i + 4)) (nI_add i 4) ?_
  refine va_sld hx hb hX hbl hbA hS (vp_in_nI (n := i + 4) (by omega) (by omega)) dL_law_132 ?_
  refine tp_i (y := (xs (i + 4))) (by rw [nI_clamp (by omega)]) ?_
  have hPc := hP.sub (ws' := (wM cA g0 b1 b2 b3 b4 b5 b6 b7 b8 b9 N T X nw fv tn tw th tk kt kn xt xn)) [0, 1, 2, 3, 4, 5, 6, 7, 8, 9] rfl
  have hDc := hD.sub (ws' := (wM cA g0 b1 b2 b3 b4 b5 b6 b7 b8 b9 N T X nw fv tn tw th tk kt kn xt xn)) [0, 1, 2, 3, 4, 5, 6, 7, 8, 9] (by decide) rfl
  have hFc := va_free (wc := (wM cA g0 b1 b2 b3 b4 b5 b6 b7 b8 b9 N T X nw fv tn tw th tk kt kn xt xn)) hD hS hA [0, 1, 2, 3, 4, 5, 6, 7, 8, 9] rfl
  refine va_calli (va_runV (C := RX1) (As := [.int (xs (i + 1)), .int (xs (i + 2)), .int (xs (i + 3)), .int (xs (i + 4))]) (rest := [.int r1]) ⟨hx, hb, hml, hown, hts⟩ (cm_key l dC dI cA g0 b1 b2 b3 b4 b5 b6 b7 b8 b9 N T X nw fv tn tw th tk kt kn xt xn H.size (xs (i + 1)) (xs (i + 2)) (xs (i + 3)) (xs (i + 4)) hX32) (cwV 4 hts gL_law_X1_key rfl rfl rfl (by decide +kernel) ⟨Nat.le_of_ble_eq_true rfl, Nat.le_of_ble_eq_true rfl⟩) ⟨fun a U g mk q => by obtain ⟨q0, q1, qP, qK, qD⟩ := q; exact ⟨q0, q1, qP, va_K.moved (u := U) (U := U.calling g mk a) (Vm.Alike.refl U.vm) qK, qD⟩, va_recv hK hPc (ci := 1) (q0 := 0) rfl rfl, fun U hU hW => ⟨rfl, by rw [hU], by rw [hU]; exact hPc, va_K.moved hW.alike hK, hDc.weaken (fun _ _ _ _ => trivial)⟩⟩ rfl rfl hl.1 rfl (lv_room (Nat.le_of_ble_eq_true rfl)) dL_law_133 ⟨Nat.le_of_ble_eq_true rfl, Nat.le_of_ble_eq_true rfl⟩) hS (fun q _ h => hFc q h) hFc (fun r2 u2 t9 H1 locs ht9 hvm h_r2 hB hz1 hk1 hS => ?_)
  obtain ⟨hP1, hK1, hD1⟩ := hB
  rw [ht9] at hP1
  obtain ⟨hP2, hD2⟩ := va_join (wr := (wX cA h0 a1 a2 a3 a4 a5 a6 a7 a8 a9 N T u1.1 nw fv tn tw th tk kt kn u1.2.1 u1.2.2)) (w1 := (wM cA g0 b1 b2 b3 b4 b5 b6 b7 b8 b9 N T u2.1 nw fv tn tw th tk kt kn u2.2.1 u2.2.2)) hP hD [0, 1, 2, 3, 4, 5, 6, 7, 8, 9] [10, 11, 12, 13, 14, 15, 16, 17, 18, 19] rfl rfl (by decide) (by decide) hk1 hFc hP1 hD1
  clear hP hD hP1 hD1 hPc hDc hFc hk1 hz1 ht9 hvm hK1
  generalize H1 = H at hP2 hS ⊢
  have hP : va_P (dC, dI) vwCl ((wX cA h0 a1 a2 a3 a4 a5 a6 a7 a8 a9 N T u1.1 nw fv tn tw th tk kt kn u1.2.1 u1.2.2) ++ (wM cA g0 b1 b2 b3 b4 b5 b6 b7 b8 b9 N T u2.1 nw fv tn tw th tk kt kn u2.2.1 u2.2.2)) H := hP2
  have hD : va_D (fun q : Nat => s.heap.size ≤ q) ((wX cA h0 a1 a2 a3 a4 a5 a6 a7 a8 a9 N T u1.1 nw fv tn tw th tk kt kn u1.2.1 u1.2.2) ++ (wM cA g0 b1 b2 b3 b4 b5 b6 b7 b8 b9 N T u2.1 nw fv tn tw th tk kt kn u2.2.1 u2.2.2)) := hD2
  clear hP2 hD2
  obtain ⟨hr12, hu⟩ := same2 h_r1 h_r2
  subst hu
  refine lv_icmp_eq (tgt := 380) hx hb dL_law_136 (by decide) (fun c1 => ?_) (fun c1 => ?_)
  · skip
    have c1 := c1
    exact hC T u1.1 nw fv tn tw th tk kt kn u1.2.1 u1.2.2 H locs ls (iG_key hG h_r1) hP hD hS hl
  · skip
    have c1 := c1
    exact absurd hr12 c1
set_option maxHeartbeats 4000000 in
set_option maxRecDepth 100000 in
/-- the law's case 1: track -/
theorem law_c1 {p : Program} {e : Env} {s : State} {m : MethodId} {below : List Frame} {meth : Method} {c : Code} (l : Launch) {b L : Nat} {xs : Nat → Int32} (hL : L ≤ 3073) (C0 : lw_At p s m meth c b L xs) (dC : Nat → ClassId) (dI : Nat → Nat → Nat) (cA : ClassId) (hK : va_K (dC, dI) vwCl [(cA, .int)] s) (h0 a1 a2 a3 a4 a5 a6 a7 a8 a9 g0 b1 b2 b3 b4 b5 b6 b7 b8 b9 N i : Nat) (hi : i + 6 ≤ L) (hC : lw_C p l e s m below meth c b dC dI cA h0 a1 a2 a3 a4 a5 a6 a7 a8 a9 g0 b1 b2 b3 b4 b5 b6 b7 b8 b9 N i) (T X : Nat) (nw : Int32) (fv tn tw th tk kt kn xt xn : Nat → Int32) (H : Heap) (locs : List Loc) (ls : Array Slot) (hG : iG N T X tn tw th tk kt xt) (hP : va_P (dC, dI) vwCl ((wX cA h0 a1 a2 a3 a4 a5 a6 a7 a8 a9 N T X nw fv tn tw th tk kt kn xt xn) ++ (wM cA g0 b1 b2 b3 b4 b5 b6 b7 b8 b9 N T X nw fv tn tw th tk kt kn xt xn)) H) (hD : va_D (fun q : Nat => s.heap.size ≤ q) ((wX cA h0 a1 a2 a3 a4 a5 a6 a7 a8 a9 N T X nw fv tn tw th tk kt kn xt xn) ++ (wM cA g0 b1 b2 b3 b4 b5 b6 b7 b8 b9 N T X nw fv tn tw th tk kt kn xt xn))) (hS : va_S (fun q : Nat => s.heap.size ≤ q) s.heap H locs) (hl : lv_has ls 4 [(3, .int (nI i)), (0, .ref b), (1, .ref h0), (2, .ref g0)]) : W p l e room_1 s m #[Value.ref b] below meth c H locs 20 9595 (lw_Z below #[Value.ref b] s) (F0 m 141 ls []) := by
  obtain ⟨hx, hb, hr, hml, hown0, hts, hX, hbl, hlocks, hgv⟩ := id C0
  have hown : s.vm.findClass RL = some m.cls := hown0
  have hA : ∀ q : Nat, s.heap.size ≤ q → (fun q : Nat => s.heap.size ≤ q) q := fun _ h => h
  have hbA : ¬ (fun q : Nat => s.heap.size ≤ q) b := Nat.not_le.mpr hbl
  obtain ⟨hN, hT, hX32, htr, hgx⟩ := id hG
  refine lv_aload_n hx hb dL_law_141 rfl (lv_at hl 2 rfl) ?_
  refine lv_aload_n hx hb dL_law_142 rfl (lv_at hl 1 rfl) ?_
  refine lv_iload_n hx hb dL_law_143 rfl (lv_at hl 0 rfl) ?_
  refine lv_iconst (v := (nI 1)) hx hb dL_law_144 (by decide) ?_
  refine lv_iadd hx hb dL_law_145 ?_
  refine tp_i (y := nI (i + 1)) (nI_add i 1) ?_
  refine va_sld hx hb hX hbl hbA hS (vp_in_nI (n := i + 1) (by omega) (by omega)) dL_law_146 ?_
  refine tp_i (y := (xs (i + 1))) (by rw [nI_clamp (by omega)]) ?_
  refine lv_aload_n hx hb dL_law_147 rfl (lv_at hl 1 rfl) ?_
  refine lv_iload_n hx hb dL_law_148 rfl (lv_at hl 0 rfl) ?_
  refine lv_iconst (v := (nI 2)) hx hb dL_law_149 (by decide) ?_
  refine lv_iadd hx hb dL_law_150 ?_
  refine tp_i (y := nI (i + 2)) (nI_add i 2) ?_
  refine va_sld hx hb hX hbl hbA hS (vp_in_nI (n := i + 2) (by omega) (by omega)) dL_law_151 ?_
  refine tp_i (y := (xs (i + 2))) (by rw [nI_clamp (by omega)]) ?_
  refine lv_aload_n hx hb dL_law_152 rfl (lv_at hl 1 rfl) ?_
  refine lv_iload_n hx hb dL_law_153 rfl (lv_at hl 0 rfl) ?_
  refine lv_iconst (v := (nI 3)) hx hb dL_law_154 (by decide) ?_
  refine lv_iadd hx hb dL_law_155 ?_
  refine tp_i (y := nI (i + 3)) (nI_add i 3) ?_
  refine va_sld hx hb hX hbl hbA hS (vp_in_nI (n := i + 3) (by omega) (by omega)) dL_law_156 ?_
  refine tp_i (y := (xs (i + 3))) (by rw [nI_clamp (by omega)]) ?_
  have hPc := hP.sub (ws' := (wX cA h0 a1 a2 a3 a4 a5 a6 a7 a8 a9 N T X nw fv tn tw th tk kt kn xt xn)) [0, 1, 2, 3, 4, 5, 6, 7, 8, 9] rfl
  have hDc := hD.sub (ws' := (wX cA h0 a1 a2 a3 a4 a5 a6 a7 a8 a9 N T X nw fv tn tw th tk kt kn xt xn)) [0, 1, 2, 3, 4, 5, 6, 7, 8, 9] (by decide) rfl
  have hFc := va_free (wc := (wX cA h0 a1 a2 a3 a4 a5 a6 a7 a8 a9 N T X nw fv tn tw th tk kt kn xt xn)) hD hS hA [0, 1, 2, 3, 4, 5, 6, 7, 8, 9] rfl
  refine va_calli (va_runV (C := RX0) (As := [.int (xs (i + 1)), .int (xs (i + 2)), .int (xs (i + 3))]) (rest := []) ⟨hx, hb, hml, hown, hts⟩ (cx_track l dC dI cA h0 a1 a2 a3 a4 a5 a6 a7 a8 a9 N T X nw fv tn tw th tk kt kn xt xn H.size (xs (i + 1)) (xs (i + 2)) (xs (i + 3)) hN.2 hT hX32) (cwV 3 hts gL_law_X0_track rfl rfl rfl (by decide +kernel) ⟨Nat.le_of_ble_eq_true rfl, Nat.le_of_ble_eq_true rfl⟩) ⟨fun a U g mk q => by obtain ⟨q0, q1, qP, qK, qD⟩ := q; exact ⟨q0, q1, qP, va_K.moved (u := U) (U := U.calling g mk a) (Vm.Alike.refl U.vm) qK, qD⟩, va_recv hK hPc (ci := 0) (q0 := 0) rfl rfl, fun U hU hW => ⟨rfl, by rw [hU], by rw [hU]; exact hPc, va_K.moved hW.alike hK, hDc.weaken (fun _ _ _ _ => trivial)⟩⟩ rfl rfl hl.1 rfl (lv_room (Nat.le_of_ble_eq_true rfl)) dL_law_157 ⟨Nat.le_of_ble_eq_true rfl, Nat.le_of_ble_eq_true rfl⟩) hS (fun q _ h => hFc q h) hFc (fun r1 u1 t9 H1 locs ht9 hvm h_r1 hB hz1 hk1 hS => ?_)
  obtain ⟨hP1, hK1, hD1⟩ := hB
  rw [ht9] at hP1
  obtain ⟨hP2, hD2⟩ := va_join (wr := (wM cA g0 b1 b2 b3 b4 b5 b6 b7 b8 b9 N T X nw fv tn tw th tk kt kn xt xn)) (w1 := (wX cA h0 a1 a2 a3 a4 a5 a6 a7 a8 a9 N u1.1 0 nw fv u1.2.1 u1.2.2.1 u1.2.2.2.1 u1.2.2.2.2.1 u1.2.2.2.2.2.1 u1.2.2.2.2.2.2 xt xn)) hP hD [0, 1, 2, 3, 4, 5, 6, 7, 8, 9] [10, 11, 12, 13, 14, 15, 16, 17, 18, 19] rfl rfl (by decide) (by decide) hk1 hFc hP1 hD1
  clear hP hD hP1 hD1 hPc hDc hFc hk1 hz1 ht9 hvm hK1
  generalize H1 = H at hP2 hS ⊢
  have hP : va_P (dC, dI) vwCl ((wM cA g0 b1 b2 b3 b4 b5 b6 b7 b8 b9 N T X nw fv tn tw th tk kt kn xt xn) ++ (wX cA h0 a1 a2 a3 a4 a5 a6 a7 a8 a9 N u1.1 0 nw fv u1.2.1 u1.2.2.1 u1.2.2.2.1 u1.2.2.2.2.1 u1.2.2.2.2.2.1 u1.2.2.2.2.2.2 xt xn)) H := hP2
  have hD : va_D (fun q : Nat => s.heap.size ≤ q) ((wM cA g0 b1 b2 b3 b4 b5 b6 b7 b8 b9 N T X nw fv tn tw th tk kt kn xt xn) ++ (wX cA h0 a1 a2 a3 a4 a5 a6 a7 a8 a9 N u1.1 0 nw fv u1.2.1 u1.2.2.1 u1.2.2.2.1 u1.2.2.2.2.1 u1.2.2.2.2.2.1 u1.2.2.2.2.2.2 xt xn)) := hD2
  clear hP2 hD2
  refine lv_aload_n hx hb dL_law_160 rfl (lv_at hl 3 rfl) ?_
  refine lv_aload_n hx hb dL_law_161 rfl (lv_at hl 1 rfl) ?_
  refine lv_iload_n hx hb dL_law_162 rfl (lv_at hl 0 rfl) ?_
  refine lv_iconst (v := (nI 1)) hx hb dL_law_163 (by decide) ?_
  refine lv_iadd hx hb dL_law_164 ?_
  refine tp_i (y := nI (i + 1)) (nI_add i 1) ?_
  refine va_sld hx hb hX hbl hbA hS (vp_in_nI (n := i + 1) (by omega) (by omega)) dL_law_165 ?_
  refine tp_i (y := (xs (i + 1))) (by rw [nI_clamp (by omega)]) ?_
  refine lv_aload_n hx hb dL_law_166 rfl (lv_at hl 1 rfl) ?_
  refine lv_iload_n hx hb dL_law_167 rfl (lv_at hl 0 rfl) ?_
  refine lv_iconst (v := (nI 2)) hx hb dL_law_168 (by decide) ?_
  refine lv_iadd hx hb dL_law_169 ?_
  refine tp_i (y := nI (i + 2)) (nI_add i 2) ?_
  refine va_sld hx hb hX hbl hbA hS (vp_in_nI (n := i + 2) (by omega) (by omega)) dL_law_170 ?_
  refine tp_i (y := (xs (i + 2))) (by rw [nI_clamp (by omega)]) ?_
  refine lv_aload_n hx hb dL_law_171 rfl (lv_at hl 1 rfl) ?_
  refine lv_iload_n hx hb dL_law_172 rfl (lv_at hl 0 rfl) ?_
  refine lv_iconst (v := (nI 3)) hx hb dL_law_173 (by decide) ?_
  refine lv_iadd hx hb dL_law_174 ?_
  refine tp_i (y := nI (i + 3)) (nI_add i 3) ?_
  refine va_sld hx hb hX hbl hbA hS (vp_in_nI (n := i + 3) (by omega) (by omega)) dL_law_175 ?_
  refine tp_i (y := (xs (i + 3))) (by rw [nI_clamp (by omega)]) ?_
  have hPc := hP.sub (ws' := (wM cA g0 b1 b2 b3 b4 b5 b6 b7 b8 b9 N T X nw fv tn tw th tk kt kn xt xn)) [0, 1, 2, 3, 4, 5, 6, 7, 8, 9] rfl
  have hDc := hD.sub (ws' := (wM cA g0 b1 b2 b3 b4 b5 b6 b7 b8 b9 N T X nw fv tn tw th tk kt kn xt xn)) [0, 1, 2, 3, 4, 5, 6, 7, 8, 9] (by decide) rfl
  have hFc := va_free (wc := (wM cA g0 b1 b2 b3 b4 b5 b6 b7 b8 b9 N T X nw fv tn tw th tk kt kn xt xn)) hD hS hA [0, 1, 2, 3, 4, 5, 6, 7, 8, 9] rfl
  refine va_calli (va_runV (C := RX1) (As := [.int (xs (i + 1)), .int (xs (i + 2)), .int (xs (i + 3))]) (rest := [.int r1]) ⟨hx, hb, hml, hown, hts⟩ (cm_track l dC dI cA g0 b1 b2 b3 b4 b5 b6 b7 b8 b9 N T X nw fv tn tw th tk kt kn xt xn H.size (xs (i + 1)) (xs (i + 2)) (xs (i + 3)) hN.2 hT hX32) (cwV 3 hts gL_law_X1_track rfl rfl rfl (by decide +kernel) ⟨Nat.le_of_ble_eq_true rfl, Nat.le_of_ble_eq_true rfl⟩) ⟨fun a U g mk q => by obtain ⟨q0, q1, qP, qK, qD⟩ := q; exact ⟨q0, q1, qP, va_K.moved (u := U) (U := U.calling g mk a) (Vm.Alike.refl U.vm) qK, qD⟩, va_recv hK hPc (ci := 1) (q0 := 0) rfl rfl, fun U hU hW => ⟨rfl, by rw [hU], by rw [hU]; exact hPc, va_K.moved hW.alike hK, hDc.weaken (fun _ _ _ _ => trivial)⟩⟩ rfl rfl hl.1 rfl (lv_room (Nat.le_of_ble_eq_true rfl)) dL_law_176 ⟨Nat.le_of_ble_eq_true rfl, Nat.le_of_ble_eq_true rfl⟩) hS (fun q _ h => hFc q h) hFc (fun r2 u2 t9 H1 locs ht9 hvm h_r2 hB hz1 hk1 hS => ?_)
  obtain ⟨hP1, hK1, hD1⟩ := hB
  rw [ht9] at hP1
  obtain ⟨hP2, hD2⟩ := va_join (wr := (wX cA h0 a1 a2 a3 a4 a5 a6 a7 a8 a9 N u1.1 0 nw fv u1.2.1 u1.2.2.1 u1.2.2.2.1 u1.2.2.2.2.1 u1.2.2.2.2.2.1 u1.2.2.2.2.2.2 xt xn)) (w1 := (wM cA g0 b1 b2 b3 b4 b5 b6 b7 b8 b9 N u2.1 0 nw fv u2.2.1 u2.2.2.1 u2.2.2.2.1 u2.2.2.2.2.1 u2.2.2.2.2.2.1 u2.2.2.2.2.2.2 xt xn)) hP hD [0, 1, 2, 3, 4, 5, 6, 7, 8, 9] [10, 11, 12, 13, 14, 15, 16, 17, 18, 19] rfl rfl (by decide) (by decide) hk1 hFc hP1 hD1
  clear hP hD hP1 hD1 hPc hDc hFc hk1 hz1 ht9 hvm hK1
  generalize H1 = H at hP2 hS ⊢
  have hP : va_P (dC, dI) vwCl ((wX cA h0 a1 a2 a3 a4 a5 a6 a7 a8 a9 N u1.1 0 nw fv u1.2.1 u1.2.2.1 u1.2.2.2.1 u1.2.2.2.2.1 u1.2.2.2.2.2.1 u1.2.2.2.2.2.2 xt xn) ++ (wM cA g0 b1 b2 b3 b4 b5 b6 b7 b8 b9 N u2.1 0 nw fv u2.2.1 u2.2.2.1 u2.2.2.2.1 u2.2.2.2.2.1 u2.2.2.2.2.2.1 u2.2.2.2.2.2.2 xt xn)) H := hP2
  have hD : va_D (fun q : Nat => s.heap.size ≤ q) ((wX cA h0 a1 a2 a3 a4 a5 a6 a7 a8 a9 N u1.1 0 nw fv u1.2.1 u1.2.2.1 u1.2.2.2.1 u1.2.2.2.2.1 u1.2.2.2.2.2.1 u1.2.2.2.2.2.2 xt xn) ++ (wM cA g0 b1 b2 b3 b4 b5 b6 b7 b8 b9 N u2.1 0 nw fv u2.2.1 u2.2.2.1 u2.2.2.2.1 u2.2.2.2.2.1 u2.2.2.2.2.2.1 u2.2.2.2.2.2.2 xt xn)) := hD2
  clear hP2 hD2
  obtain ⟨hr12, hu⟩ := same2 h_r1 h_r2
  subst hu
  refine lv_icmp_eq (tgt := 380) hx hb dL_law_179 (by decide) (fun c1 => ?_) (fun c1 => ?_)
  · skip
    have c1 := c1
    exact hC u1.1 0 nw fv u1.2.1 u1.2.2.1 u1.2.2.2.1 u1.2.2.2.2.1 u1.2.2.2.2.2.1 u1.2.2.2.2.2.2 xt xn H locs ls (iG_track hG h_r1) hP hD hS hl
  · skip
    have c1 := c1
    exact absurd hr12 c1
set_option maxHeartbeats 4000000 in
set_option maxRecDepth 100000 in
/-- the law's case 2: set -/
theorem law_c2 {p : Program} {e : Env} {s : State} {m : MethodId} {below : List Frame} {meth : Method} {c : Code} (l : Launch) {b L : Nat} {xs : Nat → Int32} (hL : L ≤ 3073) (C0 : lw_At p s m meth c b L xs) (dC : Nat → ClassId) (dI : Nat → Nat → Nat) (cA : ClassId) (hK : va_K (dC, dI) vwCl [(cA, .int)] s) (h0 a1 a2 a3 a4 a5 a6 a7 a8 a9 g0 b1 b2 b3 b4 b5 b6 b7 b8 b9 N i : Nat) (hi : i + 6 ≤ L) (hC : lw_C p l e s m below meth c b dC dI cA h0 a1 a2 a3 a4 a5 a6 a7 a8 a9 g0 b1 b2 b3 b4 b5 b6 b7 b8 b9 N i) (T X : Nat) (nw : Int32) (fv tn tw th tk kt kn xt xn : Nat → Int32) (H : Heap) (locs : List Loc) (ls : Array Slot) (hG : iG N T X tn tw th tk kt xt) (hP : va_P (dC, dI) vwCl ((wX cA h0 a1 a2 a3 a4 a5 a6 a7 a8 a9 N T X nw fv tn tw th tk kt kn xt xn) ++ (wM cA g0 b1 b2 b3 b4 b5 b6 b7 b8 b9 N T X nw fv tn tw th tk kt kn xt xn)) H) (hD : va_D (fun q : Nat => s.heap.size ≤ q) ((wX cA h0 a1 a2 a3 a4 a5 a6 a7 a8 a9 N T X nw fv tn tw th tk kt kn xt xn) ++ (wM cA g0 b1 b2 b3 b4 b5 b6 b7 b8 b9 N T X nw fv tn tw th tk kt kn xt xn))) (hS : va_S (fun q : Nat => s.heap.size ≤ q) s.heap H locs) (hl : lv_has ls 4 [(3, .int (nI i)), (0, .ref b), (1, .ref h0), (2, .ref g0)]) : W p l e room_1 s m #[Value.ref b] below meth c H locs 20 9595 (lw_Z below #[Value.ref b] s) (F0 m 184 ls []) := by
  obtain ⟨hx, hb, hr, hml, hown0, hts, hX, hbl, hlocks, hgv⟩ := id C0
  have hown : s.vm.findClass RL = some m.cls := hown0
  have hA : ∀ q : Nat, s.heap.size ≤ q → (fun q : Nat => s.heap.size ≤ q) q := fun _ h => h
  have hbA : ¬ (fun q : Nat => s.heap.size ≤ q) b := Nat.not_le.mpr hbl
  obtain ⟨hN, hT, hX32, htr, hgx⟩ := id hG
  refine lv_aload_n hx hb dL_law_184 rfl (lv_at hl 2 rfl) ?_
  refine lv_aload_n hx hb dL_law_185 rfl (lv_at hl 1 rfl) ?_
  refine lv_iload_n hx hb dL_law_186 rfl (lv_at hl 0 rfl) ?_
  refine lv_iconst (v := (nI 1)) hx hb dL_law_187 (by decide) ?_
  refine lv_iadd hx hb dL_law_188 ?_
  refine tp_i (y := nI (i + 1)) (nI_add i 1) ?_
  refine va_sld hx hb hX hbl hbA hS (vp_in_nI (n := i + 1) (by omega) (by omega)) dL_law_189 ?_
  refine tp_i (y := (xs (i + 1))) (by rw [nI_clamp (by omega)]) ?_
  refine lv_aload_n hx hb dL_law_190 rfl (lv_at hl 1 rfl) ?_
  refine lv_iload_n hx hb dL_law_191 rfl (lv_at hl 0 rfl) ?_
  refine lv_iconst (v := (nI 2)) hx hb dL_law_192 (by decide) ?_
  refine lv_iadd hx hb dL_law_193 ?_
  refine tp_i (y := nI (i + 2)) (nI_add i 2) ?_
  refine va_sld hx hb hX hbl hbA hS (vp_in_nI (n := i + 2) (by omega) (by omega)) dL_law_194 ?_
  refine tp_i (y := (xs (i + 2))) (by rw [nI_clamp (by omega)]) ?_
  refine lv_aload_n hx hb dL_law_195 rfl (lv_at hl 1 rfl) ?_
  refine lv_iload_n hx hb dL_law_196 rfl (lv_at hl 0 rfl) ?_
  refine lv_iconst (v := (nI 3)) hx hb dL_law_197 (by decide) ?_
  refine lv_iadd hx hb dL_law_198 ?_
  refine tp_i (y := nI (i + 3)) (nI_add i 3) ?_
  refine va_sld hx hb hX hbl hbA hS (vp_in_nI (n := i + 3) (by omega) (by omega)) dL_law_199 ?_
  refine tp_i (y := (xs (i + 3))) (by rw [nI_clamp (by omega)]) ?_
  refine lv_aload_n hx hb dL_law_200 rfl (lv_at hl 1 rfl) ?_
  refine lv_iload_n hx hb dL_law_201 rfl (lv_at hl 0 rfl) ?_
  refine lv_iconst (v := (nI 4)) hx hb dL_law_202 (by decide) ?_
  refine lv_iadd hx hb dL_law_203 ?_
  refine tp_i (y := nI (i + 4)) (nI_add i 4) ?_
  refine va_sld hx hb hX hbl hbA hS (vp_in_nI (n := i + 4) (by omega) (by omega)) dL_law_204 ?_
  refine tp_i (y := (xs (i + 4))) (by rw [nI_clamp (by omega)]) ?_
  refine lv_aload_n hx hb dL_law_205 rfl (lv_at hl 1 rfl) ?_
  refine lv_iload_n hx hb dL_law_206 rfl (lv_at hl 0 rfl) ?_
  refine lv_iconst (v := (nI 5)) hx hb dL_law_207 (by decide) ?_
  refine lv_iadd hx hb dL_law_208 ?_
  refine tp_i (y := nI (i + 5)) (nI_add i 5) ?_
  refine va_sld hx hb hX hbl hbA hS (vp_in_nI (n := i + 5) (by omega) (by omega)) dL_law_209 ?_
  refine tp_i (y := (xs (i + 5))) (by rw [nI_clamp (by omega)]) ?_
  have hPc := hP.sub (ws' := (wX cA h0 a1 a2 a3 a4 a5 a6 a7 a8 a9 N T X nw fv tn tw th tk kt kn xt xn)) [0, 1, 2, 3, 4, 5, 6, 7, 8, 9] rfl
  have hDc := hD.sub (ws' := (wX cA h0 a1 a2 a3 a4 a5 a6 a7 a8 a9 N T X nw fv tn tw th tk kt kn xt xn)) [0, 1, 2, 3, 4, 5, 6, 7, 8, 9] (by decide) rfl
  have hFc := va_free (wc := (wX cA h0 a1 a2 a3 a4 a5 a6 a7 a8 a9 N T X nw fv tn tw th tk kt kn xt xn)) hD hS hA [0, 1, 2, 3, 4, 5, 6, 7, 8, 9] rfl
  refine va_calli (va_runV (C := RX0) (As := [.int (xs (i + 1)), .int (xs (i + 2)), .int (xs (i + 3)), .int (xs (i + 4)), .int (xs (i + 5))]) (rest := []) ⟨hx, hb, hml, hown, hts⟩ (cx_set l dC dI cA h0 a1 a2 a3 a4 a5 a6 a7 a8 a9 N T X nw fv tn tw th tk kt kn xt xn H.size (xs (i + 1)) (xs (i + 2)) (xs (i + 3)) (xs (i + 4)) (xs (i + 5)) hN.2) (cwV 5 hts gL_law_X0_set rfl rfl rfl (by decide +kernel) ⟨Nat.le_of_ble_eq_true rfl, Nat.le_of_ble_eq_true rfl⟩) ⟨fun a U g mk q => by obtain ⟨q0, q1, qP, qK, qD⟩ := q; exact ⟨q0, q1, qP, va_K.moved (u := U) (U := U.calling g mk a) (Vm.Alike.refl U.vm) qK, qD⟩, va_recv hK hPc (ci := 0) (q0 := 0) rfl rfl, fun U hU hW => ⟨rfl, by rw [hU], by rw [hU]; exact hPc, va_K.moved hW.alike hK, hDc.weaken (fun _ _ _ _ => trivial)⟩⟩ rfl rfl hl.1 rfl (lv_room (Nat.le_of_ble_eq_true rfl)) dL_law_210 ⟨Nat.le_of_ble_eq_true rfl, Nat.le_of_ble_eq_true rfl⟩) hS (fun q _ h => hFc q h) hFc (fun r1 u1 t9 H1 locs ht9 hvm h_r1 hB hz1 hk1 hS => ?_)
  obtain ⟨hP1, hK1, hD1⟩ := hB
  rw [ht9] at hP1
  obtain ⟨hP2, hD2⟩ := va_join (wr := (wM cA g0 b1 b2 b3 b4 b5 b6 b7 b8 b9 N T X nw fv tn tw th tk kt kn xt xn)) (w1 := (wX cA h0 a1 a2 a3 a4 a5 a6 a7 a8 a9 N T X nw u1 tn tw th tk kt kn xt xn)) hP hD [0, 1, 2, 3, 4, 5, 6, 7, 8, 9] [10, 11, 12, 13, 14, 15, 16, 17, 18, 19] rfl rfl (by decide) (by decide) hk1 hFc hP1 hD1
  clear hP hD hP1 hD1 hPc hDc hFc hk1 hz1 ht9 hvm hK1
  generalize H1 = H at hP2 hS ⊢
  have hP : va_P (dC, dI) vwCl ((wM cA g0 b1 b2 b3 b4 b5 b6 b7 b8 b9 N T X nw fv tn tw th tk kt kn xt xn) ++ (wX cA h0 a1 a2 a3 a4 a5 a6 a7 a8 a9 N T X nw u1 tn tw th tk kt kn xt xn)) H := hP2
  have hD : va_D (fun q : Nat => s.heap.size ≤ q) ((wM cA g0 b1 b2 b3 b4 b5 b6 b7 b8 b9 N T X nw fv tn tw th tk kt kn xt xn) ++ (wX cA h0 a1 a2 a3 a4 a5 a6 a7 a8 a9 N T X nw u1 tn tw th tk kt kn xt xn)) := hD2
  clear hP2 hD2
  refine lv_aload_n hx hb dL_law_213 rfl (lv_at hl 3 rfl) ?_
  refine lv_aload_n hx hb dL_law_214 rfl (lv_at hl 1 rfl) ?_
  refine lv_iload_n hx hb dL_law_215 rfl (lv_at hl 0 rfl) ?_
  refine lv_iconst (v := (nI 1)) hx hb dL_law_216 (by decide) ?_
  refine lv_iadd hx hb dL_law_217 ?_
  refine tp_i (y := nI (i + 1)) (nI_add i 1) ?_
  refine va_sld hx hb hX hbl hbA hS (vp_in_nI (n := i + 1) (by omega) (by omega)) dL_law_218 ?_
  refine tp_i (y := (xs (i + 1))) (by rw [nI_clamp (by omega)]) ?_
  refine lv_aload_n hx hb dL_law_219 rfl (lv_at hl 1 rfl) ?_
  refine lv_iload_n hx hb dL_law_220 rfl (lv_at hl 0 rfl) ?_
  refine lv_iconst (v := (nI 2)) hx hb dL_law_221 (by decide) ?_
  refine lv_iadd hx hb dL_law_222 ?_
  refine tp_i (y := nI (i + 2)) (nI_add i 2) ?_
  refine va_sld hx hb hX hbl hbA hS (vp_in_nI (n := i + 2) (by omega) (by omega)) dL_law_223 ?_
  refine tp_i (y := (xs (i + 2))) (by rw [nI_clamp (by omega)]) ?_
  refine lv_aload_n hx hb dL_law_224 rfl (lv_at hl 1 rfl) ?_
  refine lv_iload_n hx hb dL_law_225 rfl (lv_at hl 0 rfl) ?_
  refine lv_iconst (v := (nI 3)) hx hb dL_law_226 (by decide) ?_
  refine lv_iadd hx hb dL_law_227 ?_
  refine tp_i (y := nI (i + 3)) (nI_add i 3) ?_
  refine va_sld hx hb hX hbl hbA hS (vp_in_nI (n := i + 3) (by omega) (by omega)) dL_law_228 ?_
  refine tp_i (y := (xs (i + 3))) (by rw [nI_clamp (by omega)]) ?_
  refine lv_aload_n hx hb dL_law_229 rfl (lv_at hl 1 rfl) ?_
  refine lv_iload_n hx hb dL_law_230 rfl (lv_at hl 0 rfl) ?_
  refine lv_iconst (v := (nI 4)) hx hb dL_law_231 (by decide) ?_
  refine lv_iadd hx hb dL_law_232 ?_
  refine tp_i (y := nI (i + 4)) (nI_add i 4) ?_
  refine va_sld hx hb hX hbl hbA hS (vp_in_nI (n := i + 4) (by omega) (by omega)) dL_law_233 ?_
  refine tp_i (y := (xs (i + 4))) (by rw [nI_clamp (by omega)]) ?_
  refine lv_aload_n hx hb dL_law_234 rfl (lv_at hl 1 rfl) ?_
  refine lv_iload_n hx hb dL_law_235 rfl (lv_at hl 0 rfl) ?_
  refine lv_iconst (v := (nI 5)) hx hb dL_law_236 (by decide) ?_
  refine lv_iadd hx hb dL_law_237 ?_
  refine tp_i (y := nI (i + 5)) (nI_add i 5) ?_
  refine va_sld hx hb hX hbl hbA hS (vp_in_nI (n := i + 5) (by omega) (by omega)) dL_law_238 ?_
  refine tp_i (y := (xs (i + 5))) (by rw [nI_clamp (by omega)]) ?_
  have hPc := hP.sub (ws' := (wM cA g0 b1 b2 b3 b4 b5 b6 b7 b8 b9 N T X nw fv tn tw th tk kt kn xt xn)) [0, 1, 2, 3, 4, 5, 6, 7, 8, 9] rfl
  have hDc := hD.sub (ws' := (wM cA g0 b1 b2 b3 b4 b5 b6 b7 b8 b9 N T X nw fv tn tw th tk kt kn xt xn)) [0, 1, 2, 3, 4, 5, 6, 7, 8, 9] (by decide) rfl
  have hFc := va_free (wc := (wM cA g0 b1 b2 b3 b4 b5 b6 b7 b8 b9 N T X nw fv tn tw th tk kt kn xt xn)) hD hS hA [0, 1, 2, 3, 4, 5, 6, 7, 8, 9] rfl
  refine va_calli (va_runV (C := RX1) (As := [.int (xs (i + 1)), .int (xs (i + 2)), .int (xs (i + 3)), .int (xs (i + 4)), .int (xs (i + 5))]) (rest := [.int r1]) ⟨hx, hb, hml, hown, hts⟩ (cm_set l dC dI cA g0 b1 b2 b3 b4 b5 b6 b7 b8 b9 N T X nw fv tn tw th tk kt kn xt xn H.size (xs (i + 1)) (xs (i + 2)) (xs (i + 3)) (xs (i + 4)) (xs (i + 5)) hN.2) (cwV 5 hts gL_law_X1_set rfl rfl rfl (by decide +kernel) ⟨Nat.le_of_ble_eq_true rfl, Nat.le_of_ble_eq_true rfl⟩) ⟨fun a U g mk q => by obtain ⟨q0, q1, qP, qK, qD⟩ := q; exact ⟨q0, q1, qP, va_K.moved (u := U) (U := U.calling g mk a) (Vm.Alike.refl U.vm) qK, qD⟩, va_recv hK hPc (ci := 1) (q0 := 0) rfl rfl, fun U hU hW => ⟨rfl, by rw [hU], by rw [hU]; exact hPc, va_K.moved hW.alike hK, hDc.weaken (fun _ _ _ _ => trivial)⟩⟩ rfl rfl hl.1 rfl (lv_room (Nat.le_of_ble_eq_true rfl)) dL_law_239 ⟨Nat.le_of_ble_eq_true rfl, Nat.le_of_ble_eq_true rfl⟩) hS (fun q _ h => hFc q h) hFc (fun r2 u2 t9 H1 locs ht9 hvm h_r2 hB hz1 hk1 hS => ?_)
  obtain ⟨hP1, hK1, hD1⟩ := hB
  rw [ht9] at hP1
  obtain ⟨hP2, hD2⟩ := va_join (wr := (wX cA h0 a1 a2 a3 a4 a5 a6 a7 a8 a9 N T X nw u1 tn tw th tk kt kn xt xn)) (w1 := (wM cA g0 b1 b2 b3 b4 b5 b6 b7 b8 b9 N T X nw u2 tn tw th tk kt kn xt xn)) hP hD [0, 1, 2, 3, 4, 5, 6, 7, 8, 9] [10, 11, 12, 13, 14, 15, 16, 17, 18, 19] rfl rfl (by decide) (by decide) hk1 hFc hP1 hD1
  clear hP hD hP1 hD1 hPc hDc hFc hk1 hz1 ht9 hvm hK1
  generalize H1 = H at hP2 hS ⊢
  have hP : va_P (dC, dI) vwCl ((wX cA h0 a1 a2 a3 a4 a5 a6 a7 a8 a9 N T X nw u1 tn tw th tk kt kn xt xn) ++ (wM cA g0 b1 b2 b3 b4 b5 b6 b7 b8 b9 N T X nw u2 tn tw th tk kt kn xt xn)) H := hP2
  have hD : va_D (fun q : Nat => s.heap.size ≤ q) ((wX cA h0 a1 a2 a3 a4 a5 a6 a7 a8 a9 N T X nw u1 tn tw th tk kt kn xt xn) ++ (wM cA g0 b1 b2 b3 b4 b5 b6 b7 b8 b9 N T X nw u2 tn tw th tk kt kn xt xn)) := hD2
  clear hP2 hD2
  obtain ⟨hr12, hu⟩ := same2 h_r1 h_r2
  subst hu
  refine lv_icmp_eq (tgt := 380) hx hb dL_law_242 (by decide) (fun c1 => ?_) (fun c1 => ?_)
  · skip
    have c1 := c1
    exact hC T X nw u1 tn tw th tk kt kn xt xn H locs ls hG hP hD hS hl
  · skip
    have c1 := c1
    exact absurd hr12 c1
set_option maxHeartbeats 4000000 in
set_option maxRecDepth 100000 in
/-- the law's case 3: time -/
theorem law_c3 {p : Program} {e : Env} {s : State} {m : MethodId} {below : List Frame} {meth : Method} {c : Code} (l : Launch) {b L : Nat} {xs : Nat → Int32} (hL : L ≤ 3073) (C0 : lw_At p s m meth c b L xs) (dC : Nat → ClassId) (dI : Nat → Nat → Nat) (cA : ClassId) (hK : va_K (dC, dI) vwCl [(cA, .int)] s) (h0 a1 a2 a3 a4 a5 a6 a7 a8 a9 g0 b1 b2 b3 b4 b5 b6 b7 b8 b9 N i : Nat) (hi : i + 6 ≤ L) (hC : lw_C p l e s m below meth c b dC dI cA h0 a1 a2 a3 a4 a5 a6 a7 a8 a9 g0 b1 b2 b3 b4 b5 b6 b7 b8 b9 N i) (T X : Nat) (nw : Int32) (fv tn tw th tk kt kn xt xn : Nat → Int32) (H : Heap) (locs : List Loc) (ls : Array Slot) (hG : iG N T X tn tw th tk kt xt) (hP : va_P (dC, dI) vwCl ((wX cA h0 a1 a2 a3 a4 a5 a6 a7 a8 a9 N T X nw fv tn tw th tk kt kn xt xn) ++ (wM cA g0 b1 b2 b3 b4 b5 b6 b7 b8 b9 N T X nw fv tn tw th tk kt kn xt xn)) H) (hD : va_D (fun q : Nat => s.heap.size ≤ q) ((wX cA h0 a1 a2 a3 a4 a5 a6 a7 a8 a9 N T X nw fv tn tw th tk kt kn xt xn) ++ (wM cA g0 b1 b2 b3 b4 b5 b6 b7 b8 b9 N T X nw fv tn tw th tk kt kn xt xn))) (hS : va_S (fun q : Nat => s.heap.size ≤ q) s.heap H locs) (hl : lv_has ls 4 [(3, .int (nI i)), (0, .ref b), (1, .ref h0), (2, .ref g0)]) : W p l e room_1 s m #[Value.ref b] below meth c H locs 20 9595 (lw_Z below #[Value.ref b] s) (F0 m 247 ls []) := by
  obtain ⟨hx, hb, hr, hml, hown0, hts, hX, hbl, hlocks, hgv⟩ := id C0
  have hown : s.vm.findClass RL = some m.cls := hown0
  have hA : ∀ q : Nat, s.heap.size ≤ q → (fun q : Nat => s.heap.size ≤ q) q := fun _ h => h
  have hbA : ¬ (fun q : Nat => s.heap.size ≤ q) b := Nat.not_le.mpr hbl
  obtain ⟨hN, hT, hX32, htr, hgx⟩ := id hG
  refine lv_aload_n hx hb dL_law_247 rfl (lv_at hl 2 rfl) ?_
  refine lv_aload_n hx hb dL_law_248 rfl (lv_at hl 1 rfl) ?_
  refine lv_iload_n hx hb dL_law_249 rfl (lv_at hl 0 rfl) ?_
  refine lv_iconst (v := (nI 1)) hx hb dL_law_250 (by decide) ?_
  refine lv_iadd hx hb dL_law_251 ?_
  refine tp_i (y := nI (i + 1)) (nI_add i 1) ?_
  refine va_sld hx hb hX hbl hbA hS (vp_in_nI (n := i + 1) (by omega) (by omega)) dL_law_252 ?_
  refine tp_i (y := (xs (i + 1))) (by rw [nI_clamp (by omega)]) ?_
  have hPc := hP.sub (ws' := (wX cA h0 a1 a2 a3 a4 a5 a6 a7 a8 a9 N T X nw fv tn tw th tk kt kn xt xn)) [0, 1, 2, 3, 4, 5, 6, 7, 8, 9] rfl
  have hDc := hD.sub (ws' := (wX cA h0 a1 a2 a3 a4 a5 a6 a7 a8 a9 N T X nw fv tn tw th tk kt kn xt xn)) [0, 1, 2, 3, 4, 5, 6, 7, 8, 9] (by decide) rfl
  have hFc := va_free (wc := (wX cA h0 a1 a2 a3 a4 a5 a6 a7 a8 a9 N T X nw fv tn tw th tk kt kn xt xn)) hD hS hA [0, 1, 2, 3, 4, 5, 6, 7, 8, 9] rfl
  refine va_calli (va_runV (C := RX0) (As := [.int (xs (i + 1))]) (rest := []) ⟨hx, hb, hml, hown, hts⟩ (cx_time l dC dI cA h0 a1 a2 a3 a4 a5 a6 a7 a8 a9 N T X nw fv tn tw th tk kt kn xt xn H.size (xs (i + 1)) hT hN.2 (fun j hj => (htr j hj).1)) (cwV 1 hts gL_law_X0_time rfl rfl rfl (by decide +kernel) ⟨Nat.le_of_ble_eq_true rfl, Nat.le_of_ble_eq_true rfl⟩) ⟨fun a U g mk q => by obtain ⟨q0, q1, qP, qK, qD⟩ := q; exact ⟨q0, q1, qP, va_K.moved (u := U) (U := U.calling g mk a) (Vm.Alike.refl U.vm) qK, qD⟩, va_recv hK hPc (ci := 0) (q0 := 0) rfl rfl, fun U hU hW => ⟨rfl, by rw [hU], by rw [hU]; exact hPc, va_K.moved hW.alike hK, hDc.weaken (fun _ _ _ _ => trivial)⟩⟩ rfl rfl hl.1 rfl (lv_room (Nat.le_of_ble_eq_true rfl)) dL_law_253 ⟨Nat.le_of_ble_eq_true rfl, Nat.le_of_ble_eq_true rfl⟩) hS (fun q _ h => hFc q h) hFc (fun r1 u1 t9 H1 locs ht9 hvm h_r1 hB hz1 hk1 hS => ?_)
  obtain ⟨hP1, hK1, hD1⟩ := hB
  rw [ht9] at hP1
  obtain ⟨hP2, hD2⟩ := va_join (wr := (wM cA g0 b1 b2 b3 b4 b5 b6 b7 b8 b9 N T X nw fv tn tw th tk kt kn xt xn)) (w1 := (wX cA h0 a1 a2 a3 a4 a5 a6 a7 a8 a9 N T X u1.1 u1.2 tn tw th tk kt kn xt xn)) hP hD [0, 1, 2, 3, 4, 5, 6, 7, 8, 9] [10, 11, 12, 13, 14, 15, 16, 17, 18, 19] rfl rfl (by decide) (by decide) hk1 hFc hP1 hD1
  clear hP hD hP1 hD1 hPc hDc hFc hk1 hz1 ht9 hvm hK1
  generalize H1 = H at hP2 hS ⊢
  have hP : va_P (dC, dI) vwCl ((wM cA g0 b1 b2 b3 b4 b5 b6 b7 b8 b9 N T X nw fv tn tw th tk kt kn xt xn) ++ (wX cA h0 a1 a2 a3 a4 a5 a6 a7 a8 a9 N T X u1.1 u1.2 tn tw th tk kt kn xt xn)) H := hP2
  have hD : va_D (fun q : Nat => s.heap.size ≤ q) ((wM cA g0 b1 b2 b3 b4 b5 b6 b7 b8 b9 N T X nw fv tn tw th tk kt kn xt xn) ++ (wX cA h0 a1 a2 a3 a4 a5 a6 a7 a8 a9 N T X u1.1 u1.2 tn tw th tk kt kn xt xn)) := hD2
  clear hP2 hD2
  refine lv_aload_n hx hb dL_law_256 rfl (lv_at hl 3 rfl) ?_
  refine lv_aload_n hx hb dL_law_257 rfl (lv_at hl 1 rfl) ?_
  refine lv_iload_n hx hb dL_law_258 rfl (lv_at hl 0 rfl) ?_
  refine lv_iconst (v := (nI 1)) hx hb dL_law_259 (by decide) ?_
  refine lv_iadd hx hb dL_law_260 ?_
  refine tp_i (y := nI (i + 1)) (nI_add i 1) ?_
  refine va_sld hx hb hX hbl hbA hS (vp_in_nI (n := i + 1) (by omega) (by omega)) dL_law_261 ?_
  refine tp_i (y := (xs (i + 1))) (by rw [nI_clamp (by omega)]) ?_
  have hPc := hP.sub (ws' := (wM cA g0 b1 b2 b3 b4 b5 b6 b7 b8 b9 N T X nw fv tn tw th tk kt kn xt xn)) [0, 1, 2, 3, 4, 5, 6, 7, 8, 9] rfl
  have hDc := hD.sub (ws' := (wM cA g0 b1 b2 b3 b4 b5 b6 b7 b8 b9 N T X nw fv tn tw th tk kt kn xt xn)) [0, 1, 2, 3, 4, 5, 6, 7, 8, 9] (by decide) rfl
  have hFc := va_free (wc := (wM cA g0 b1 b2 b3 b4 b5 b6 b7 b8 b9 N T X nw fv tn tw th tk kt kn xt xn)) hD hS hA [0, 1, 2, 3, 4, 5, 6, 7, 8, 9] rfl
  refine va_calli (va_runV (C := RX1) (As := [.int (xs (i + 1))]) (rest := [.int r1]) ⟨hx, hb, hml, hown, hts⟩ (cm_time l dC dI cA g0 b1 b2 b3 b4 b5 b6 b7 b8 b9 N T X nw fv tn tw th tk kt kn xt xn H.size (xs (i + 1)) hT hN.2 htr) (cwV 1 hts gL_law_X1_time rfl rfl rfl (by decide +kernel) ⟨Nat.le_of_ble_eq_true rfl, Nat.le_of_ble_eq_true rfl⟩) ⟨fun a U g mk q => by obtain ⟨q0, q1, qP, qK, qD⟩ := q; exact ⟨q0, q1, qP, va_K.moved (u := U) (U := U.calling g mk a) (Vm.Alike.refl U.vm) qK, qD⟩, va_recv hK hPc (ci := 1) (q0 := 0) rfl rfl, fun U hU hW => ⟨rfl, by rw [hU], by rw [hU]; exact hPc, va_K.moved hW.alike hK, hDc.weaken (fun _ _ _ _ => trivial)⟩⟩ rfl rfl hl.1 rfl (lv_room (Nat.le_of_ble_eq_true rfl)) dL_law_262 ⟨Nat.le_of_ble_eq_true rfl, Nat.le_of_ble_eq_true rfl⟩) hS (fun q _ h => hFc q h) hFc (fun r2 u2 t9 H1 locs ht9 hvm h_r2 hB hz1 hk1 hS => ?_)
  obtain ⟨hP1, hK1, hD1⟩ := hB
  rw [ht9] at hP1
  obtain ⟨hP2, hD2⟩ := va_join (wr := (wX cA h0 a1 a2 a3 a4 a5 a6 a7 a8 a9 N T X u1.1 u1.2 tn tw th tk kt kn xt xn)) (w1 := (wM cA g0 b1 b2 b3 b4 b5 b6 b7 b8 b9 N T X u2.1 u2.2 tn tw th tk kt kn xt xn)) hP hD [0, 1, 2, 3, 4, 5, 6, 7, 8, 9] [10, 11, 12, 13, 14, 15, 16, 17, 18, 19] rfl rfl (by decide) (by decide) hk1 hFc hP1 hD1
  clear hP hD hP1 hD1 hPc hDc hFc hk1 hz1 ht9 hvm hK1
  generalize H1 = H at hP2 hS ⊢
  have hP : va_P (dC, dI) vwCl ((wX cA h0 a1 a2 a3 a4 a5 a6 a7 a8 a9 N T X u1.1 u1.2 tn tw th tk kt kn xt xn) ++ (wM cA g0 b1 b2 b3 b4 b5 b6 b7 b8 b9 N T X u2.1 u2.2 tn tw th tk kt kn xt xn)) H := hP2
  have hD : va_D (fun q : Nat => s.heap.size ≤ q) ((wX cA h0 a1 a2 a3 a4 a5 a6 a7 a8 a9 N T X u1.1 u1.2 tn tw th tk kt kn xt xn) ++ (wM cA g0 b1 b2 b3 b4 b5 b6 b7 b8 b9 N T X u2.1 u2.2 tn tw th tk kt kn xt xn)) := hD2
  clear hP2 hD2
  obtain ⟨hr12, hu⟩ := same2 h_r1 h_r2
  subst hu
  refine lv_icmp_eq (tgt := 380) hx hb dL_law_265 (by decide) (fun c1 => ?_) (fun c1 => ?_)
  · skip
    have c1 := c1
    exact hC T X u1.1 u1.2 tn tw th tk kt kn xt xn H locs ls hG hP hD hS hl
  · skip
    have c1 := c1
    exact absurd hr12 c1
set_option maxHeartbeats 4000000 in
set_option maxRecDepth 100000 in
/-- the law's case 4: value -/
theorem law_c4 {p : Program} {e : Env} {s : State} {m : MethodId} {below : List Frame} {meth : Method} {c : Code} (l : Launch) {b L : Nat} {xs : Nat → Int32} (hL : L ≤ 3073) (C0 : lw_At p s m meth c b L xs) (dC : Nat → ClassId) (dI : Nat → Nat → Nat) (cA : ClassId) (hK : va_K (dC, dI) vwCl [(cA, .int)] s) (h0 a1 a2 a3 a4 a5 a6 a7 a8 a9 g0 b1 b2 b3 b4 b5 b6 b7 b8 b9 N i : Nat) (hi : i + 6 ≤ L) (hC : lw_C p l e s m below meth c b dC dI cA h0 a1 a2 a3 a4 a5 a6 a7 a8 a9 g0 b1 b2 b3 b4 b5 b6 b7 b8 b9 N i) (T X : Nat) (nw : Int32) (fv tn tw th tk kt kn xt xn : Nat → Int32) (H : Heap) (locs : List Loc) (ls : Array Slot) (hG : iG N T X tn tw th tk kt xt) (hP : va_P (dC, dI) vwCl ((wX cA h0 a1 a2 a3 a4 a5 a6 a7 a8 a9 N T X nw fv tn tw th tk kt kn xt xn) ++ (wM cA g0 b1 b2 b3 b4 b5 b6 b7 b8 b9 N T X nw fv tn tw th tk kt kn xt xn)) H) (hD : va_D (fun q : Nat => s.heap.size ≤ q) ((wX cA h0 a1 a2 a3 a4 a5 a6 a7 a8 a9 N T X nw fv tn tw th tk kt kn xt xn) ++ (wM cA g0 b1 b2 b3 b4 b5 b6 b7 b8 b9 N T X nw fv tn tw th tk kt kn xt xn))) (hS : va_S (fun q : Nat => s.heap.size ≤ q) s.heap H locs) (hl : lv_has ls 4 [(3, .int (nI i)), (0, .ref b), (1, .ref h0), (2, .ref g0)]) : W p l e room_1 s m #[Value.ref b] below meth c H locs 20 9595 (lw_Z below #[Value.ref b] s) (F0 m 270 ls []) := by
  obtain ⟨hx, hb, hr, hml, hown0, hts, hX, hbl, hlocks, hgv⟩ := id C0
  have hown : s.vm.findClass RL = some m.cls := hown0
  have hA : ∀ q : Nat, s.heap.size ≤ q → (fun q : Nat => s.heap.size ≤ q) q := fun _ h => h
  have hbA : ¬ (fun q : Nat => s.heap.size ≤ q) b := Nat.not_le.mpr hbl
  obtain ⟨hN, hT, hX32, htr, hgx⟩ := id hG
  refine lv_aload_n hx hb dL_law_270 rfl (lv_at hl 2 rfl) ?_
  refine lv_aload_n hx hb dL_law_271 rfl (lv_at hl 1 rfl) ?_
  refine lv_iload_n hx hb dL_law_272 rfl (lv_at hl 0 rfl) ?_
  refine lv_iconst (v := (nI 1)) hx hb dL_law_273 (by decide) ?_
  refine lv_iadd hx hb dL_law_274 ?_
  refine tp_i (y := nI (i + 1)) (nI_add i 1) ?_
  refine va_sld hx hb hX hbl hbA hS (vp_in_nI (n := i + 1) (by omega) (by omega)) dL_law_275 ?_
  refine tp_i (y := (xs (i + 1))) (by rw [nI_clamp (by omega)]) ?_
  refine lv_aload_n hx hb dL_law_276 rfl (lv_at hl 1 rfl) ?_
  refine lv_iload_n hx hb dL_law_277 rfl (lv_at hl 0 rfl) ?_
  refine lv_iconst (v := (nI 2)) hx hb dL_law_278 (by decide) ?_
  refine lv_iadd hx hb dL_law_279 ?_
  refine tp_i (y := nI (i + 2)) (nI_add i 2) ?_
  refine va_sld hx hb hX hbl hbA hS (vp_in_nI (n := i + 2) (by omega) (by omega)) dL_law_280 ?_
  refine tp_i (y := (xs (i + 2))) (by rw [nI_clamp (by omega)]) ?_
  refine lv_aload_n hx hb dL_law_281 rfl (lv_at hl 1 rfl) ?_
  refine lv_iload_n hx hb dL_law_282 rfl (lv_at hl 0 rfl) ?_
  refine lv_iconst (v := (nI 3)) hx hb dL_law_283 (by decide) ?_
  refine lv_iadd hx hb dL_law_284 ?_
  refine tp_i (y := nI (i + 3)) (nI_add i 3) ?_
  refine va_sld hx hb hX hbl hbA hS (vp_in_nI (n := i + 3) (by omega) (by omega)) dL_law_285 ?_
  refine tp_i (y := (xs (i + 3))) (by rw [nI_clamp (by omega)]) ?_
  have hPc := hP.sub (ws' := (wX cA h0 a1 a2 a3 a4 a5 a6 a7 a8 a9 N T X nw fv tn tw th tk kt kn xt xn)) [0, 1, 2, 3, 4, 5, 6, 7, 8, 9] rfl
  refine vp_callSi (W.runV (C := RX0) (As := [.int (xs (i + 1)), .int (xs (i + 2)), .int (xs (i + 3))]) (rest := []) ⟨hx, hb, hml, hown, hts⟩ (cx_value l dC dI cA h0 a1 a2 a3 a4 a5 a6 a7 a8 a9 N T X nw fv tn tw th tk kt kn xt xn (xs (i + 1)) (xs (i + 2)) (xs (i + 3)) hN.2) (cwV 3 hts gL_law_X0_value rfl rfl rfl (by decide +kernel) ⟨Nat.le_of_ble_eq_true rfl, Nat.le_of_ble_eq_true rfl⟩) ⟨fun a U g mk q => ⟨q.1, q.2.1, va_K.moved (u := U) (U := U.calling g mk a) (Vm.Alike.refl U.vm) q.2.2⟩, va_recv hK hPc (ci := 0) (q0 := 0) rfl rfl, fun U hU hW => ⟨rfl, by rw [hU]; exact hPc, va_K.moved hW.alike hK⟩⟩ rfl rfl hl.1 rfl (lv_room (Nat.le_of_ble_eq_true rfl)) dL_law_286 ⟨Nat.le_of_ble_eq_true rfl, Nat.le_of_ble_eq_true rfl⟩) (fun r1 h_r1 => ?_)
  clear hPc
  refine lv_aload_n hx hb dL_law_289 rfl (lv_at hl 3 rfl) ?_
  refine lv_aload_n hx hb dL_law_290 rfl (lv_at hl 1 rfl) ?_
  refine lv_iload_n hx hb dL_law_291 rfl (lv_at hl 0 rfl) ?_
  refine lv_iconst (v := (nI 1)) hx hb dL_law_292 (by decide) ?_
  refine lv_iadd hx hb dL_law_293 ?_
  refine tp_i (y := nI (i + 1)) (nI_add i 1) ?_
  refine va_sld hx hb hX hbl hbA hS (vp_in_nI (n := i + 1) (by omega) (by omega)) dL_law_294 ?_
  refine tp_i (y := (xs (i + 1))) (by rw [nI_clamp (by omega)]) ?_
  refine lv_aload_n hx hb dL_law_295 rfl (lv_at hl 1 rfl) ?_
  refine lv_iload_n hx hb dL_law_296 rfl (lv_at hl 0 rfl) ?_
  refine lv_iconst (v := (nI 2)) hx hb dL_law_297 (by decide) ?_
  refine lv_iadd hx hb dL_law_298 ?_
  refine tp_i (y := nI (i + 2)) (nI_add i 2) ?_
  refine va_sld hx hb hX hbl hbA hS (vp_in_nI (n := i + 2) (by omega) (by omega)) dL_law_299 ?_
  refine tp_i (y := (xs (i + 2))) (by rw [nI_clamp (by omega)]) ?_
  refine lv_aload_n hx hb dL_law_300 rfl (lv_at hl 1 rfl) ?_
  refine lv_iload_n hx hb dL_law_301 rfl (lv_at hl 0 rfl) ?_
  refine lv_iconst (v := (nI 3)) hx hb dL_law_302 (by decide) ?_
  refine lv_iadd hx hb dL_law_303 ?_
  refine tp_i (y := nI (i + 3)) (nI_add i 3) ?_
  refine va_sld hx hb hX hbl hbA hS (vp_in_nI (n := i + 3) (by omega) (by omega)) dL_law_304 ?_
  refine tp_i (y := (xs (i + 3))) (by rw [nI_clamp (by omega)]) ?_
  have hPc := hP.sub (ws' := (wM cA g0 b1 b2 b3 b4 b5 b6 b7 b8 b9 N T X nw fv tn tw th tk kt kn xt xn)) [10, 11, 12, 13, 14, 15, 16, 17, 18, 19] rfl
  have hDc := hD.sub (ws' := (wM cA g0 b1 b2 b3 b4 b5 b6 b7 b8 b9 N T X nw fv tn tw th tk kt kn xt xn)) [10, 11, 12, 13, 14, 15, 16, 17, 18, 19] (by decide) rfl
  have hFc := va_free (wc := (wM cA g0 b1 b2 b3 b4 b5 b6 b7 b8 b9 N T X nw fv tn tw th tk kt kn xt xn)) hD hS hA [10, 11, 12, 13, 14, 15, 16, 17, 18, 19] rfl
  refine va_calli (va_runV (C := RX1) (As := [.int (xs (i + 1)), .int (xs (i + 2)), .int (xs (i + 3))]) (rest := [.int r1]) ⟨hx, hb, hml, hown, hts⟩ (cm_value l dC dI cA g0 b1 b2 b3 b4 b5 b6 b7 b8 b9 N T X nw fv tn tw th tk kt kn xt xn H.size (xs (i + 1)) (xs (i + 2)) (xs (i + 3)) hN.2) (cwV 3 hts gL_law_X1_value rfl rfl rfl (by decide +kernel) ⟨Nat.le_of_ble_eq_true rfl, Nat.le_of_ble_eq_true rfl⟩) ⟨fun a U g mk q => by obtain ⟨q0, q1, qP, qK, qD⟩ := q; exact ⟨q0, q1, qP, va_K.moved (u := U) (U := U.calling g mk a) (Vm.Alike.refl U.vm) qK, qD⟩, va_recv hK hPc (ci := 1) (q0 := 0) rfl rfl, fun U hU hW => ⟨rfl, by rw [hU], by rw [hU]; exact hPc, va_K.moved hW.alike hK, hDc.weaken (fun _ _ _ _ => trivial)⟩⟩ rfl rfl hl.1 rfl (lv_room (Nat.le_of_ble_eq_true rfl)) dL_law_305 ⟨Nat.le_of_ble_eq_true rfl, Nat.le_of_ble_eq_true rfl⟩) hS (fun q _ h => hFc q h) hFc (fun r2 u2 t9 H1 locs ht9 hvm h_r2 hB hz1 hk1 hS => ?_)
  obtain ⟨hP1, hK1, hD1⟩ := hB
  rw [ht9] at hP1
  obtain ⟨hP2, hD2⟩ := va_join (wr := (wX cA h0 a1 a2 a3 a4 a5 a6 a7 a8 a9 N T X nw fv tn tw th tk kt kn xt xn)) (w1 := (wM cA g0 b1 b2 b3 b4 b5 b6 b7 b8 b9 N T X nw fv tn tw th tk kt kn xt xn)) hP hD [10, 11, 12, 13, 14, 15, 16, 17, 18, 19] [0, 1, 2, 3, 4, 5, 6, 7, 8, 9] rfl rfl (by decide) (by decide) hk1 hFc hP1 hD1
  clear hP hD hP1 hD1 hPc hDc hFc hk1 hz1 ht9 hvm hK1
  generalize H1 = H at hP2 hS ⊢
  have hP : va_P (dC, dI) vwCl ((wX cA h0 a1 a2 a3 a4 a5 a6 a7 a8 a9 N T X nw fv tn tw th tk kt kn xt xn) ++ (wM cA g0 b1 b2 b3 b4 b5 b6 b7 b8 b9 N T X nw fv tn tw th tk kt kn xt xn)) H := hP2
  have hD : va_D (fun q : Nat => s.heap.size ≤ q) ((wX cA h0 a1 a2 a3 a4 a5 a6 a7 a8 a9 N T X nw fv tn tw th tk kt kn xt xn) ++ (wM cA g0 b1 b2 b3 b4 b5 b6 b7 b8 b9 N T X nw fv tn tw th tk kt kn xt xn)) := hD2
  clear hP2 hD2
  have hr12 := same1 h_r1 h_r2
  refine lv_icmp_eq (tgt := 380) hx hb dL_law_308 (by decide) (fun c1 => ?_) (fun c1 => ?_)
  · skip
    have c1 := c1
    exact hC T X nw fv tn tw th tk kt kn xt xn H locs ls hG hP hD hS hl
  · skip
    have c1 := c1
    exact absurd hr12 c1
set_option maxHeartbeats 4000000 in
set_option maxRecDepth 100000 in
/-- the law's case 5: count -/
theorem law_c5 {p : Program} {e : Env} {s : State} {m : MethodId} {below : List Frame} {meth : Method} {c : Code} (l : Launch) {b L : Nat} {xs : Nat → Int32} (hL : L ≤ 3073) (C0 : lw_At p s m meth c b L xs) (dC : Nat → ClassId) (dI : Nat → Nat → Nat) (cA : ClassId) (hK : va_K (dC, dI) vwCl [(cA, .int)] s) (h0 a1 a2 a3 a4 a5 a6 a7 a8 a9 g0 b1 b2 b3 b4 b5 b6 b7 b8 b9 N i : Nat) (hi : i + 6 ≤ L) (hC : lw_C p l e s m below meth c b dC dI cA h0 a1 a2 a3 a4 a5 a6 a7 a8 a9 g0 b1 b2 b3 b4 b5 b6 b7 b8 b9 N i) (T X : Nat) (nw : Int32) (fv tn tw th tk kt kn xt xn : Nat → Int32) (H : Heap) (locs : List Loc) (ls : Array Slot) (hG : iG N T X tn tw th tk kt xt) (hP : va_P (dC, dI) vwCl ((wX cA h0 a1 a2 a3 a4 a5 a6 a7 a8 a9 N T X nw fv tn tw th tk kt kn xt xn) ++ (wM cA g0 b1 b2 b3 b4 b5 b6 b7 b8 b9 N T X nw fv tn tw th tk kt kn xt xn)) H) (hD : va_D (fun q : Nat => s.heap.size ≤ q) ((wX cA h0 a1 a2 a3 a4 a5 a6 a7 a8 a9 N T X nw fv tn tw th tk kt kn xt xn) ++ (wM cA g0 b1 b2 b3 b4 b5 b6 b7 b8 b9 N T X nw fv tn tw th tk kt kn xt xn))) (hS : va_S (fun q : Nat => s.heap.size ≤ q) s.heap H locs) (hl : lv_has ls 4 [(3, .int (nI i)), (0, .ref b), (1, .ref h0), (2, .ref g0)]) : W p l e room_1 s m #[Value.ref b] below meth c H locs 20 9595 (lw_Z below #[Value.ref b] s) (F0 m 313 ls []) := by
  obtain ⟨hx, hb, hr, hml, hown0, hts, hX, hbl, hlocks, hgv⟩ := id C0
  have hown : s.vm.findClass RL = some m.cls := hown0
  have hA : ∀ q : Nat, s.heap.size ≤ q → (fun q : Nat => s.heap.size ≤ q) q := fun _ h => h
  have hbA : ¬ (fun q : Nat => s.heap.size ≤ q) b := Nat.not_le.mpr hbl
  obtain ⟨hN, hT, hX32, htr, hgx⟩ := id hG
  refine lv_aload_n hx hb dL_law_313 rfl (lv_at hl 2 rfl) ?_
  refine lv_aload_n hx hb dL_law_314 rfl (lv_at hl 1 rfl) ?_
  refine lv_iload_n hx hb dL_law_315 rfl (lv_at hl 0 rfl) ?_
  refine lv_iconst (v := (nI 1)) hx hb dL_law_316 (by decide) ?_
  refine lv_iadd hx hb dL_law_317 ?_
  refine tp_i (y := nI (i + 1)) (nI_add i 1) ?_
  refine va_sld hx hb hX hbl hbA hS (vp_in_nI (n := i + 1) (by omega) (by omega)) dL_law_318 ?_
  refine tp_i (y := (xs (i + 1))) (by rw [nI_clamp (by omega)]) ?_
  have hPc := hP.sub (ws' := (wX cA h0 a1 a2 a3 a4 a5 a6 a7 a8 a9 N T X nw fv tn tw th tk kt kn xt xn)) [0, 1, 2, 3, 4, 5, 6, 7, 8, 9] rfl
  refine vp_callSi (W.runV (C := RX0) (As := [.int (xs (i + 1))]) (rest := []) ⟨hx, hb, hml, hown, hts⟩ (cx_count l dC dI cA h0 a1 a2 a3 a4 a5 a6 a7 a8 a9 N T X nw fv tn tw th tk kt kn xt xn (xs (i + 1)) hT) (cwV 1 hts gL_law_X0_count rfl rfl rfl (by decide +kernel) ⟨Nat.le_of_ble_eq_true rfl, Nat.le_of_ble_eq_true rfl⟩) ⟨fun a U g mk q => ⟨q.1, q.2.1, va_K.moved (u := U) (U := U.calling g mk a) (Vm.Alike.refl U.vm) q.2.2⟩, va_recv hK hPc (ci := 0) (q0 := 0) rfl rfl, fun U hU hW => ⟨rfl, by rw [hU]; exact hPc, va_K.moved hW.alike hK⟩⟩ rfl rfl hl.1 rfl (lv_room (Nat.le_of_ble_eq_true rfl)) dL_law_319 ⟨Nat.le_of_ble_eq_true rfl, Nat.le_of_ble_eq_true rfl⟩) (fun r1 h_r1 => ?_)
  clear hPc
  refine lv_aload_n hx hb dL_law_322 rfl (lv_at hl 3 rfl) ?_
  refine lv_aload_n hx hb dL_law_323 rfl (lv_at hl 1 rfl) ?_
  refine lv_iload_n hx hb dL_law_324 rfl (lv_at hl 0 rfl) ?_
  refine lv_iconst (v := (nI 1)) hx hb dL_law_325 (by decide) ?_
  refine lv_iadd hx hb dL_law_326 ?_
  refine tp_i (y := nI (i + 1)) (nI_add i 1) ?_
  refine va_sld hx hb hX hbl hbA hS (vp_in_nI (n := i + 1) (by omega) (by omega)) dL_law_327 ?_
  refine tp_i (y := (xs (i + 1))) (by rw [nI_clamp (by omega)]) ?_
  have hPc := hP.sub (ws' := (wM cA g0 b1 b2 b3 b4 b5 b6 b7 b8 b9 N T X nw fv tn tw th tk kt kn xt xn)) [10, 11, 12, 13, 14, 15, 16, 17, 18, 19] rfl
  have hDc := hD.sub (ws' := (wM cA g0 b1 b2 b3 b4 b5 b6 b7 b8 b9 N T X nw fv tn tw th tk kt kn xt xn)) [10, 11, 12, 13, 14, 15, 16, 17, 18, 19] (by decide) rfl
  have hFc := va_free (wc := (wM cA g0 b1 b2 b3 b4 b5 b6 b7 b8 b9 N T X nw fv tn tw th tk kt kn xt xn)) hD hS hA [10, 11, 12, 13, 14, 15, 16, 17, 18, 19] rfl
  refine va_calli (va_runV (C := RX1) (As := [.int (xs (i + 1))]) (rest := [.int r1]) ⟨hx, hb, hml, hown, hts⟩ (cm_count l dC dI cA g0 b1 b2 b3 b4 b5 b6 b7 b8 b9 N T X nw fv tn tw th tk kt kn xt xn H.size (xs (i + 1)) hT) (cwV 1 hts gL_law_X1_count rfl rfl rfl (by decide +kernel) ⟨Nat.le_of_ble_eq_true rfl, Nat.le_of_ble_eq_true rfl⟩) ⟨fun a U g mk q => by obtain ⟨q0, q1, qP, qK, qD⟩ := q; exact ⟨q0, q1, qP, va_K.moved (u := U) (U := U.calling g mk a) (Vm.Alike.refl U.vm) qK, qD⟩, va_recv hK hPc (ci := 1) (q0 := 0) rfl rfl, fun U hU hW => ⟨rfl, by rw [hU], by rw [hU]; exact hPc, va_K.moved hW.alike hK, hDc.weaken (fun _ _ _ _ => trivial)⟩⟩ rfl rfl hl.1 rfl (lv_room (Nat.le_of_ble_eq_true rfl)) dL_law_328 ⟨Nat.le_of_ble_eq_true rfl, Nat.le_of_ble_eq_true rfl⟩) hS (fun q _ h => hFc q h) hFc (fun r2 u2 t9 H1 locs ht9 hvm h_r2 hB hz1 hk1 hS => ?_)
  obtain ⟨hP1, hK1, hD1⟩ := hB
  rw [ht9] at hP1
  obtain ⟨hP2, hD2⟩ := va_join (wr := (wX cA h0 a1 a2 a3 a4 a5 a6 a7 a8 a9 N T X nw fv tn tw th tk kt kn xt xn)) (w1 := (wM cA g0 b1 b2 b3 b4 b5 b6 b7 b8 b9 N T X nw fv tn tw th tk kt kn xt xn)) hP hD [10, 11, 12, 13, 14, 15, 16, 17, 18, 19] [0, 1, 2, 3, 4, 5, 6, 7, 8, 9] rfl rfl (by decide) (by decide) hk1 hFc hP1 hD1
  clear hP hD hP1 hD1 hPc hDc hFc hk1 hz1 ht9 hvm hK1
  generalize H1 = H at hP2 hS ⊢
  have hP : va_P (dC, dI) vwCl ((wX cA h0 a1 a2 a3 a4 a5 a6 a7 a8 a9 N T X nw fv tn tw th tk kt kn xt xn) ++ (wM cA g0 b1 b2 b3 b4 b5 b6 b7 b8 b9 N T X nw fv tn tw th tk kt kn xt xn)) H := hP2
  have hD : va_D (fun q : Nat => s.heap.size ≤ q) ((wX cA h0 a1 a2 a3 a4 a5 a6 a7 a8 a9 N T X nw fv tn tw th tk kt kn xt xn) ++ (wM cA g0 b1 b2 b3 b4 b5 b6 b7 b8 b9 N T X nw fv tn tw th tk kt kn xt xn)) := hD2
  clear hP2 hD2
  have hr12 := h_r1.trans h_r2.symm
  refine lv_icmp_eq (tgt := 380) hx hb dL_law_331 (by decide) (fun c1 => ?_) (fun c1 => ?_)
  · skip
    have c1 := c1
    exact hC T X nw fv tn tw th tk kt kn xt xn H locs ls hG hP hD hS hl
  · skip
    have c1 := c1
    exact absurd hr12 c1
set_option maxHeartbeats 4000000 in
set_option maxRecDepth 100000 in
/-- the law's case 6: about -/
theorem law_c6 {p : Program} {e : Env} {s : State} {m : MethodId} {below : List Frame} {meth : Method} {c : Code} (l : Launch) {b L : Nat} {xs : Nat → Int32} (hL : L ≤ 3073) (C0 : lw_At p s m meth c b L xs) (dC : Nat → ClassId) (dI : Nat → Nat → Nat) (cA : ClassId) (hK : va_K (dC, dI) vwCl [(cA, .int)] s) (h0 a1 a2 a3 a4 a5 a6 a7 a8 a9 g0 b1 b2 b3 b4 b5 b6 b7 b8 b9 N i : Nat) (hi : i + 6 ≤ L) (hC : lw_C p l e s m below meth c b dC dI cA h0 a1 a2 a3 a4 a5 a6 a7 a8 a9 g0 b1 b2 b3 b4 b5 b6 b7 b8 b9 N i) (T X : Nat) (nw : Int32) (fv tn tw th tk kt kn xt xn : Nat → Int32) (H : Heap) (locs : List Loc) (ls : Array Slot) (hG : iG N T X tn tw th tk kt xt) (hP : va_P (dC, dI) vwCl ((wX cA h0 a1 a2 a3 a4 a5 a6 a7 a8 a9 N T X nw fv tn tw th tk kt kn xt xn) ++ (wM cA g0 b1 b2 b3 b4 b5 b6 b7 b8 b9 N T X nw fv tn tw th tk kt kn xt xn)) H) (hD : va_D (fun q : Nat => s.heap.size ≤ q) ((wX cA h0 a1 a2 a3 a4 a5 a6 a7 a8 a9 N T X nw fv tn tw th tk kt kn xt xn) ++ (wM cA g0 b1 b2 b3 b4 b5 b6 b7 b8 b9 N T X nw fv tn tw th tk kt kn xt xn))) (hS : va_S (fun q : Nat => s.heap.size ≤ q) s.heap H locs) (hl : lv_has ls 4 [(3, .int (nI i)), (0, .ref b), (1, .ref h0), (2, .ref g0)]) : W p l e room_1 s m #[Value.ref b] below meth c H locs 20 9595 (lw_Z below #[Value.ref b] s) (F0 m 336 ls []) := by
  obtain ⟨hx, hb, hr, hml, hown0, hts, hX, hbl, hlocks, hgv⟩ := id C0
  have hown : s.vm.findClass RL = some m.cls := hown0
  have hA : ∀ q : Nat, s.heap.size ≤ q → (fun q : Nat => s.heap.size ≤ q) q := fun _ h => h
  have hbA : ¬ (fun q : Nat => s.heap.size ≤ q) b := Nat.not_le.mpr hbl
  obtain ⟨hN, hT, hX32, htr, hgx⟩ := id hG
  refine lv_aload_n hx hb dL_law_336 rfl (lv_at hl 2 rfl) ?_
  refine lv_aload_n hx hb dL_law_337 rfl (lv_at hl 1 rfl) ?_
  refine lv_iload_n hx hb dL_law_338 rfl (lv_at hl 0 rfl) ?_
  refine lv_iconst (v := (nI 1)) hx hb dL_law_339 (by decide) ?_
  refine lv_iadd hx hb dL_law_340 ?_
  refine tp_i (y := nI (i + 1)) (nI_add i 1) ?_
  refine va_sld hx hb hX hbl hbA hS (vp_in_nI (n := i + 1) (by omega) (by omega)) dL_law_341 ?_
  refine tp_i (y := (xs (i + 1))) (by rw [nI_clamp (by omega)]) ?_
  refine lv_aload_n hx hb dL_law_342 rfl (lv_at hl 1 rfl) ?_
  refine lv_iload_n hx hb dL_law_343 rfl (lv_at hl 0 rfl) ?_
  refine lv_iconst (v := (nI 2)) hx hb dL_law_344 (by decide) ?_
  refine lv_iadd hx hb dL_law_345 ?_
  refine tp_i (y := nI (i + 2)) (nI_add i 2) ?_
  refine va_sld hx hb hX hbl hbA hS (vp_in_nI (n := i + 2) (by omega) (by omega)) dL_law_346 ?_
  refine tp_i (y := (xs (i + 2))) (by rw [nI_clamp (by omega)]) ?_
  have hPc := hP.sub (ws' := (wX cA h0 a1 a2 a3 a4 a5 a6 a7 a8 a9 N T X nw fv tn tw th tk kt kn xt xn)) [0, 1, 2, 3, 4, 5, 6, 7, 8, 9] rfl
  refine vp_callSi (W.runV (C := RX0) (As := [.int (xs (i + 1)), .int (xs (i + 2))]) (rest := []) ⟨hx, hb, hml, hown, hts⟩ (cx_about l dC dI cA h0 a1 a2 a3 a4 a5 a6 a7 a8 a9 N T X nw fv tn tw th tk kt kn xt xn (xs (i + 1)) (xs (i + 2)) hT) (cwV 2 hts gL_law_X0_about rfl rfl rfl (by decide +kernel) ⟨Nat.le_of_ble_eq_true rfl, Nat.le_of_ble_eq_true rfl⟩) ⟨fun a U g mk q => ⟨q.1, q.2.1, va_K.moved (u := U) (U := U.calling g mk a) (Vm.Alike.refl U.vm) q.2.2⟩, va_recv hK hPc (ci := 0) (q0 := 0) rfl rfl, fun U hU hW => ⟨rfl, by rw [hU]; exact hPc, va_K.moved hW.alike hK⟩⟩ rfl rfl hl.1 rfl (lv_room (Nat.le_of_ble_eq_true rfl)) dL_law_347 ⟨Nat.le_of_ble_eq_true rfl, Nat.le_of_ble_eq_true rfl⟩) (fun r1 h_r1 => ?_)
  clear hPc
  refine lv_aload_n hx hb dL_law_350 rfl (lv_at hl 3 rfl) ?_
  refine lv_aload_n hx hb dL_law_351 rfl (lv_at hl 1 rfl) ?_
  refine lv_iload_n hx hb dL_law_352 rfl (lv_at hl 0 rfl) ?_
  refine lv_iconst (v := (nI 1)) hx hb dL_law_353 (by decide) ?_
  refine lv_iadd hx hb dL_law_354 ?_
  refine tp_i (y := nI (i + 1)) (nI_add i 1) ?_
  refine va_sld hx hb hX hbl hbA hS (vp_in_nI (n := i + 1) (by omega) (by omega)) dL_law_355 ?_
  refine tp_i (y := (xs (i + 1))) (by rw [nI_clamp (by omega)]) ?_
  refine lv_aload_n hx hb dL_law_356 rfl (lv_at hl 1 rfl) ?_
  refine lv_iload_n hx hb dL_law_357 rfl (lv_at hl 0 rfl) ?_
  refine lv_iconst (v := (nI 2)) hx hb dL_law_358 (by decide) ?_
  refine lv_iadd hx hb dL_law_359 ?_
  refine tp_i (y := nI (i + 2)) (nI_add i 2) ?_
  refine va_sld hx hb hX hbl hbA hS (vp_in_nI (n := i + 2) (by omega) (by omega)) dL_law_360 ?_
  refine tp_i (y := (xs (i + 2))) (by rw [nI_clamp (by omega)]) ?_
  have hPc := hP.sub (ws' := (wM cA g0 b1 b2 b3 b4 b5 b6 b7 b8 b9 N T X nw fv tn tw th tk kt kn xt xn)) [10, 11, 12, 13, 14, 15, 16, 17, 18, 19] rfl
  have hDc := hD.sub (ws' := (wM cA g0 b1 b2 b3 b4 b5 b6 b7 b8 b9 N T X nw fv tn tw th tk kt kn xt xn)) [10, 11, 12, 13, 14, 15, 16, 17, 18, 19] (by decide) rfl
  have hFc := va_free (wc := (wM cA g0 b1 b2 b3 b4 b5 b6 b7 b8 b9 N T X nw fv tn tw th tk kt kn xt xn)) hD hS hA [10, 11, 12, 13, 14, 15, 16, 17, 18, 19] rfl
  refine va_calli (va_runV (C := RX1) (As := [.int (xs (i + 1)), .int (xs (i + 2))]) (rest := [.int r1]) ⟨hx, hb, hml, hown, hts⟩ (cm_about l dC dI cA g0 b1 b2 b3 b4 b5 b6 b7 b8 b9 N T X nw fv tn tw th tk kt kn xt xn H.size (xs (i + 1)) (xs (i + 2)) hT) (cwV 2 hts gL_law_X1_about rfl rfl rfl (by decide +kernel) ⟨Nat.le_of_ble_eq_true rfl, Nat.le_of_ble_eq_true rfl⟩) ⟨fun a U g mk q => by obtain ⟨q0, q1, qP, qK, qD⟩ := q; exact ⟨q0, q1, qP, va_K.moved (u := U) (U := U.calling g mk a) (Vm.Alike.refl U.vm) qK, qD⟩, va_recv hK hPc (ci := 1) (q0 := 0) rfl rfl, fun U hU hW => ⟨rfl, by rw [hU], by rw [hU]; exact hPc, va_K.moved hW.alike hK, hDc.weaken (fun _ _ _ _ => trivial)⟩⟩ rfl rfl hl.1 rfl (lv_room (Nat.le_of_ble_eq_true rfl)) dL_law_361 ⟨Nat.le_of_ble_eq_true rfl, Nat.le_of_ble_eq_true rfl⟩) hS (fun q _ h => hFc q h) hFc (fun r2 u2 t9 H1 locs ht9 hvm h_r2 hB hz1 hk1 hS => ?_)
  obtain ⟨hP1, hK1, hD1⟩ := hB
  rw [ht9] at hP1
  obtain ⟨hP2, hD2⟩ := va_join (wr := (wX cA h0 a1 a2 a3 a4 a5 a6 a7 a8 a9 N T X nw fv tn tw th tk kt kn xt xn)) (w1 := (wM cA g0 b1 b2 b3 b4 b5 b6 b7 b8 b9 N T X nw fv tn tw th tk kt kn xt xn)) hP hD [10, 11, 12, 13, 14, 15, 16, 17, 18, 19] [0, 1, 2, 3, 4, 5, 6, 7, 8, 9] rfl rfl (by decide) (by decide) hk1 hFc hP1 hD1
  clear hP hD hP1 hD1 hPc hDc hFc hk1 hz1 ht9 hvm hK1
  generalize H1 = H at hP2 hS ⊢
  have hP : va_P (dC, dI) vwCl ((wX cA h0 a1 a2 a3 a4 a5 a6 a7 a8 a9 N T X nw fv tn tw th tk kt kn xt xn) ++ (wM cA g0 b1 b2 b3 b4 b5 b6 b7 b8 b9 N T X nw fv tn tw th tk kt kn xt xn)) H := hP2
  have hD : va_D (fun q : Nat => s.heap.size ≤ q) ((wX cA h0 a1 a2 a3 a4 a5 a6 a7 a8 a9 N T X nw fv tn tw th tk kt kn xt xn) ++ (wM cA g0 b1 b2 b3 b4 b5 b6 b7 b8 b9 N T X nw fv tn tw th tk kt kn xt xn)) := hD2
  clear hP2 hD2
  have hr12 := same1 h_r1 h_r2
  refine lv_icmp_eq (tgt := 380) hx hb dL_law_364 (by decide) (fun c1 => ?_) (fun c1 => ?_)
  · skip
    have c1 := c1
    exact hC T X nw fv tn tw th tk kt kn xt xn H locs ls hG hP hD hS hl
  · skip
    have c1 := c1
    exact absurd hr12 c1
set_option maxHeartbeats 4000000 in
set_option maxRecDepth 100000 in
/-- the law's case 7: clear -/
theorem law_c7 {p : Program} {e : Env} {s : State} {m : MethodId} {below : List Frame} {meth : Method} {c : Code} (l : Launch) {b L : Nat} {xs : Nat → Int32} (hL : L ≤ 3073) (C0 : lw_At p s m meth c b L xs) (dC : Nat → ClassId) (dI : Nat → Nat → Nat) (cA : ClassId) (hK : va_K (dC, dI) vwCl [(cA, .int)] s) (h0 a1 a2 a3 a4 a5 a6 a7 a8 a9 g0 b1 b2 b3 b4 b5 b6 b7 b8 b9 N i : Nat) (hi : i + 6 ≤ L) (hC : lw_C p l e s m below meth c b dC dI cA h0 a1 a2 a3 a4 a5 a6 a7 a8 a9 g0 b1 b2 b3 b4 b5 b6 b7 b8 b9 N i) (T X : Nat) (nw : Int32) (fv tn tw th tk kt kn xt xn : Nat → Int32) (H : Heap) (locs : List Loc) (ls : Array Slot) (hG : iG N T X tn tw th tk kt xt) (hP : va_P (dC, dI) vwCl ((wX cA h0 a1 a2 a3 a4 a5 a6 a7 a8 a9 N T X nw fv tn tw th tk kt kn xt xn) ++ (wM cA g0 b1 b2 b3 b4 b5 b6 b7 b8 b9 N T X nw fv tn tw th tk kt kn xt xn)) H) (hD : va_D (fun q : Nat => s.heap.size ≤ q) ((wX cA h0 a1 a2 a3 a4 a5 a6 a7 a8 a9 N T X nw fv tn tw th tk kt kn xt xn) ++ (wM cA g0 b1 b2 b3 b4 b5 b6 b7 b8 b9 N T X nw fv tn tw th tk kt kn xt xn))) (hS : va_S (fun q : Nat => s.heap.size ≤ q) s.heap H locs) (hl : lv_has ls 4 [(3, .int (nI i)), (0, .ref b), (1, .ref h0), (2, .ref g0)]) : W p l e room_1 s m #[Value.ref b] below meth c H locs 20 9595 (lw_Z below #[Value.ref b] s) (F0 m 369 ls []) := by
  obtain ⟨hx, hb, hr, hml, hown0, hts, hX, hbl, hlocks, hgv⟩ := id C0
  have hown : s.vm.findClass RL = some m.cls := hown0
  have hA : ∀ q : Nat, s.heap.size ≤ q → (fun q : Nat => s.heap.size ≤ q) q := fun _ h => h
  have hbA : ¬ (fun q : Nat => s.heap.size ≤ q) b := Nat.not_le.mpr hbl
  obtain ⟨hN, hT, hX32, htr, hgx⟩ := id hG
  refine lv_aload_n hx hb dL_law_369 rfl (lv_at hl 2 rfl) ?_
  have hPc := hP.sub (ws' := (wX cA h0 a1 a2 a3 a4 a5 a6 a7 a8 a9 N T X nw fv tn tw th tk kt kn xt xn)) [0, 1, 2, 3, 4, 5, 6, 7, 8, 9] rfl
  have hDc := hD.sub (ws' := (wX cA h0 a1 a2 a3 a4 a5 a6 a7 a8 a9 N T X nw fv tn tw th tk kt kn xt xn)) [0, 1, 2, 3, 4, 5, 6, 7, 8, 9] (by decide) rfl
  have hFc := va_free (wc := (wX cA h0 a1 a2 a3 a4 a5 a6 a7 a8 a9 N T X nw fv tn tw th tk kt kn xt xn)) hD hS hA [0, 1, 2, 3, 4, 5, 6, 7, 8, 9] rfl
  refine va_callv (va_runV (C := RX0) (As := []) (rest := []) ⟨hx, hb, hml, hown, hts⟩ (cx_clear l dC dI cA h0 a1 a2 a3 a4 a5 a6 a7 a8 a9 N T X nw fv tn tw th tk kt kn xt xn H.size) (cwV 0 hts gL_law_X0_clear rfl rfl rfl (by decide +kernel) ⟨Nat.le_of_ble_eq_true rfl, Nat.le_of_ble_eq_true rfl⟩) ⟨fun a U g mk q => by obtain ⟨q0, q1, qP, qK, qD⟩ := q; exact ⟨q0, q1, qP, va_K.moved (u := U) (U := U.calling g mk a) (Vm.Alike.refl U.vm) qK, qD⟩, va_recv hK hPc (ci := 0) (q0 := 0) rfl rfl, fun U hU hW => ⟨rfl, by rw [hU], by rw [hU]; exact hPc, va_K.moved hW.alike hK, hDc.weaken (fun _ _ _ _ => trivial)⟩⟩ rfl rfl hl.1 rfl (lv_room (Nat.le_of_ble_eq_true rfl)) dL_law_370 ⟨Nat.le_of_ble_eq_true rfl, Nat.le_of_ble_eq_true rfl⟩) hS (fun q _ h => hFc q h) hFc (fun u1 t9 H1 locs ht9 hvm h_r1 hB hz1 hk1 hS => ?_)
  obtain ⟨hP1, hK1, hD1⟩ := hB
  rw [ht9] at hP1
  obtain ⟨hP2, hD2⟩ := va_join (wr := (wM cA g0 b1 b2 b3 b4 b5 b6 b7 b8 b9 N T X nw fv tn tw th tk kt kn xt xn)) (w1 := (wX cA h0 a1 a2 a3 a4 a5 a6 a7 a8 a9 N 0 X nw fv tn tw th tk kt kn xt xn)) hP hD [0, 1, 2, 3, 4, 5, 6, 7, 8, 9] [10, 11, 12, 13, 14, 15, 16, 17, 18, 19] rfl rfl (by decide) (by decide) hk1 hFc hP1 hD1
  clear hP hD hP1 hD1 hPc hDc hFc hk1 hz1 ht9 hvm hK1
  generalize H1 = H at hP2 hS ⊢
  have hP : va_P (dC, dI) vwCl ((wM cA g0 b1 b2 b3 b4 b5 b6 b7 b8 b9 N T X nw fv tn tw th tk kt kn xt xn) ++ (wX cA h0 a1 a2 a3 a4 a5 a6 a7 a8 a9 N 0 X nw fv tn tw th tk kt kn xt xn)) H := hP2
  have hD : va_D (fun q : Nat => s.heap.size ≤ q) ((wM cA g0 b1 b2 b3 b4 b5 b6 b7 b8 b9 N T X nw fv tn tw th tk kt kn xt xn) ++ (wX cA h0 a1 a2 a3 a4 a5 a6 a7 a8 a9 N 0 X nw fv tn tw th tk kt kn xt xn)) := hD2
  clear hP2 hD2
  refine lv_aload_n hx hb dL_law_373 rfl (lv_at hl 3 rfl) ?_
  have hPc := hP.sub (ws' := (wM cA g0 b1 b2 b3 b4 b5 b6 b7 b8 b9 N T X nw fv tn tw th tk kt kn xt xn)) [0, 1, 2, 3, 4, 5, 6, 7, 8, 9] rfl
  have hDc := hD.sub (ws' := (wM cA g0 b1 b2 b3 b4 b5 b6 b7 b8 b9 N T X nw fv tn tw th tk kt kn xt xn)) [0, 1, 2, 3, 4, 5, 6, 7, 8, 9] (by decide) rfl
  have hFc := va_free (wc := (wM cA g0 b1 b2 b3 b4 b5 b6 b7 b8 b9 N T X nw fv tn tw th tk kt kn xt xn)) hD hS hA [0, 1, 2, 3, 4, 5, 6, 7, 8, 9] rfl
  refine va_callv (va_runV (C := RX1) (As := []) (rest := []) ⟨hx, hb, hml, hown, hts⟩ (cm_clear l dC dI cA g0 b1 b2 b3 b4 b5 b6 b7 b8 b9 N T X nw fv tn tw th tk kt kn xt xn H.size) (cwV 0 hts gL_law_X1_clear rfl rfl rfl (by decide +kernel) ⟨Nat.le_of_ble_eq_true rfl, Nat.le_of_ble_eq_true rfl⟩) ⟨fun a U g mk q => by obtain ⟨q0, q1, qP, qK, qD⟩ := q; exact ⟨q0, q1, qP, va_K.moved (u := U) (U := U.calling g mk a) (Vm.Alike.refl U.vm) qK, qD⟩, va_recv hK hPc (ci := 1) (q0 := 0) rfl rfl, fun U hU hW => ⟨rfl, by rw [hU], by rw [hU]; exact hPc, va_K.moved hW.alike hK, hDc.weaken (fun _ _ _ _ => trivial)⟩⟩ rfl rfl hl.1 rfl (lv_room (Nat.le_of_ble_eq_true rfl)) dL_law_374 ⟨Nat.le_of_ble_eq_true rfl, Nat.le_of_ble_eq_true rfl⟩) hS (fun q _ h => hFc q h) hFc (fun u2 t9 H1 locs ht9 hvm h_r2 hB hz1 hk1 hS => ?_)
  obtain ⟨hP1, hK1, hD1⟩ := hB
  rw [ht9] at hP1
  obtain ⟨hP2, hD2⟩ := va_join (wr := (wX cA h0 a1 a2 a3 a4 a5 a6 a7 a8 a9 N 0 X nw fv tn tw th tk kt kn xt xn)) (w1 := (wM cA g0 b1 b2 b3 b4 b5 b6 b7 b8 b9 N 0 X nw fv tn tw th tk kt kn xt xn)) hP hD [0, 1, 2, 3, 4, 5, 6, 7, 8, 9] [10, 11, 12, 13, 14, 15, 16, 17, 18, 19] rfl rfl (by decide) (by decide) hk1 hFc hP1 hD1
  clear hP hD hP1 hD1 hPc hDc hFc hk1 hz1 ht9 hvm hK1
  generalize H1 = H at hP2 hS ⊢
  have hP : va_P (dC, dI) vwCl ((wX cA h0 a1 a2 a3 a4 a5 a6 a7 a8 a9 N 0 X nw fv tn tw th tk kt kn xt xn) ++ (wM cA g0 b1 b2 b3 b4 b5 b6 b7 b8 b9 N 0 X nw fv tn tw th tk kt kn xt xn)) H := hP2
  have hD : va_D (fun q : Nat => s.heap.size ≤ q) ((wX cA h0 a1 a2 a3 a4 a5 a6 a7 a8 a9 N 0 X nw fv tn tw th tk kt kn xt xn) ++ (wM cA g0 b1 b2 b3 b4 b5 b6 b7 b8 b9 N 0 X nw fv tn tw th tk kt kn xt xn)) := hD2
  clear hP2 hD2
  refine lv_goto (tgt := 380) hx hb dL_law_377 (by decide) ?_
  exact hC 0 X nw fv tn tw th tk kt kn xt xn H locs ls (iG_clear hG) hP hD hS hl
