set_option maxHeartbeats 4000000 in
set_option maxRecDepth 100000 in
/-- putThree(row, at, x, y, z) -/
theorem cx_put3 (l : Launch) (dC : Nat → ClassId) (dI : Nat → Nat → Nat) (cA : ClassId) (b0 nn sz : Nat) (f : Nat → Int32) (k : Nat) (x y z : Int32) (hk : k + 2 < nn) (hn : nn < 100000) : Met l yX0_putThree wsX0_putThree ({ frames := 0, cells := 0, slots := 0, locals := 0 }) (va_Pc [.ref b0, .int (nI k), .int x, .int y, .int z] (fun U => U.heap.size = sz ∧ va_P (dC, dI) vwCl [(b0, .inl (cA, nn, .inl f))] U.heap ∧ va_K (dC, dI) vwCl [(cA, .int)] U ∧ va_D (fun _ => True) [(b0, .inl (cA, nn, .inl f))])) (va_Qv (fun (u : Nat → Int32) => u = put3 f k x y z) (fun u t => va_P (dC, dI) vwCl [(b0, .inl (cA, nn, .inl u))] t.heap ∧ va_K (dC, dI) vwCl [(cA, .int)] t ∧ va_D (va_A [(b0, .inl (cA, nn, .inl f))] sz) [(b0, .inl (cA, nn, .inl u))]) (va_A [(b0, .inl (cA, nn, .inl f))] sz)) 0 0 (va_A [(b0, .inl (cA, nn, .inl f))] sz) := by
  refine Met.ofW (cc := cX0_putThree) (maxL := 5) (ret := none) (by decide) rfl ?_
  intro p e s m args below meth c s₁ B hml hv
  obtain ⟨rfl, hsz, hP, hK, hD0⟩ := hv
  have hx := B.exec
  have hb := B.bytes
  have hr := B.returns
  have hts := atoms_spec (ws := wsX0_putThree) B.pre
  have hown : s.vm.findClass RX0 = some m.cls := findClass_of_methodNamed B.named
  have hlocks := B.notSynchronized
  subst hsz
  have hD := hD0.self (sz := s.heap.size)
  generalize hAe : va_A [(b0, .inl (cA, nn, .inl f))] s.heap.size = A at hD ⊢
  have hA : ∀ q : Nat, s.heap.size ≤ q → A q := fun q h => by rw [← hAe]; exact Or.inr h
  have hS : va_S A s.heap s.heap [] := va_S.rf
  have hP : va_P (dC, dI) vwCl [(b0, .inl (cA, nn, .inl f))] s.heap := hP
  have hl := lv_entry ([.ref b0, .int (nI k), .int x, .int y, .int z]) (n := 5) (Nat.le_of_ble_eq_true rfl)
  rw [lg_entry_eq]
  generalize (lg_sl ([.ref b0, .int (nI k), .int x, .int y, .int z]) ++ List.replicate (5 - (lg_sl ([.ref b0, .int (nI k), .int x, .int y, .int z])).length) Slot.unset).toArray = ls at hl ⊢
  have hl : lv_has ls 5 [(0, .ref b0), (1, .int (nI k)), (2, .int x), (3, .int y), (4, .int z)] := hl
  refine lv_aload_n hx hb dX0_putThree_0 rfl (lv_at hl 0 rfl) ?_
  refine lv_iload_n hx hb dX0_putThree_1 rfl (lv_at hl 1 rfl) ?_
  refine lv_iload_n hx hb dX0_putThree_2 rfl (lv_at hl 2 rfl) ?_
  refine va_iast hx hb hK hP hD hS 0 0 rfl rfl (vp_in_nI (by omega) (by omega)) dX0_putThree_3 (fun H locs hP hD hS => ?_)
  rw [nI_clamp (show k < 2 ^ 31 by omega)] at hP hD
  replace hP : va_P (dC, dI) vwCl [(b0, .inl (cA, nn, .inl (upd f k x)))] H := hP
  replace hD : va_D A [(b0, .inl (cA, nn, .inl (upd f k x)))] := hD
  refine lv_aload_n hx hb dX0_putThree_4 rfl (lv_at hl 0 rfl) ?_
  refine lv_iload_n hx hb dX0_putThree_5 rfl (lv_at hl 1 rfl) ?_
  refine lv_iconst (v := (nI 1)) hx hb dX0_putThree_6 (by decide) ?_
  refine lv_iadd hx hb dX0_putThree_7 ?_
  refine tp_i (y := nI (k + 1)) (nI_1 k) ?_
  refine lv_iload_n hx hb dX0_putThree_8 rfl (lv_at hl 3 rfl) ?_
  refine va_iast hx hb hK hP hD hS 0 0 rfl rfl (vp_in_nI (by omega) (by omega)) dX0_putThree_9 (fun H locs hP hD hS => ?_)
  rw [nI_clamp (show k + 1 < 2 ^ 31 by omega)] at hP hD
  replace hP : va_P (dC, dI) vwCl [(b0, .inl (cA, nn, .inl (upd (upd f k x) (k + 1) y)))] H := hP
  replace hD : va_D A [(b0, .inl (cA, nn, .inl (upd (upd f k x) (k + 1) y)))] := hD
  refine lv_aload_n hx hb dX0_putThree_10 rfl (lv_at hl 0 rfl) ?_
  refine lv_iload_n hx hb dX0_putThree_11 rfl (lv_at hl 1 rfl) ?_
  refine lv_iconst (v := (nI 2)) hx hb dX0_putThree_12 (by decide) ?_
  refine lv_iadd hx hb dX0_putThree_13 ?_
  refine tp_i (y := nI (k + 2)) (nI_add k 2) ?_
  refine lv_iload hx hb dX0_putThree_14 (lv_at hl 4 rfl) ?_
  refine va_iast hx hb hK hP hD hS 0 0 rfl rfl (vp_in_nI (by omega) (by omega)) dX0_putThree_16 (fun H locs hP hD hS => ?_)
  rw [nI_clamp (show k + 2 < 2 ^ 31 by omega)] at hP hD
  replace hP : va_P (dC, dI) vwCl [(b0, .inl (cA, nn, .inl (upd (upd (upd f k x) (k + 1) y) (k + 2) z)))] H := hP
  replace hD : va_D A [(b0, .inl (cA, nn, .inl (upd (upd (upd f k x) (k + 1) y) (k + 2) z)))] := hD
  exact W.vret hx hb hr (fun t9 ht9 hW9 => ⟨⟨(upd (upd (upd f k x) (k + 1) y) (k + 2) z), rfl, rfl, by rw [ht9]; exact hP, va_K.moved hW9.alike hK, hD⟩, hS.F ht9⟩) hS.2.2 dX0_putThree_17
set_option maxHeartbeats 4000000 in
set_option maxRecDepth 100000 in
/-- set(node, what, ..) -/
theorem cx_set (l : Launch) (dC : Nat → ClassId) (dI : Nat → Nat → Nat) (cA : ClassId) (h0 a1 a2 a3 a4 a5 a6 a7 a8 a9 N T X : Nat) (nw : Int32) (fv tn tw th tk kt kn xt xn : Nat → Int32) (sz : Nat) (x y x1 x2 x3 : Int32) (hN : N ≤ 48) : Met l yX0_set wsX0_set ({ frames := 2, cells := 0, slots := 0, locals := 45 }) (va_Pc [.ref h0, .int x, .int y, .int x1, .int x2, .int x3] (eX sz dC dI cA h0 a1 a2 a3 a4 a5 a6 a7 a8 a9 N T X nw fv tn tw th tk kt kn xt xn)) (va_Qi (fun (r : Int32) (u : Nat → Int32) => ((q_node N x ∧ q_what y ∧ q_can y x1 x2 x3) → r = nI 1 ∧ u = put3 fv (pl_of x y) x1 x2 x3) ∧ (¬ (q_node N x ∧ q_what y ∧ q_can y x1 x2 x3) → r = nI 0 ∧ u = fv)) (fun u => bX (va_A (wX cA h0 a1 a2 a3 a4 a5 a6 a7 a8 a9 N T X nw fv tn tw th tk kt kn xt xn) sz) dC dI cA h0 a1 a2 a3 a4 a5 a6 a7 a8 a9 N T X nw u tn tw th tk kt kn xt xn) (va_A (wX cA h0 a1 a2 a3 a4 a5 a6 a7 a8 a9 N T X nw fv tn tw th tk kt kn xt xn) sz)) 0 0 (va_A (wX cA h0 a1 a2 a3 a4 a5 a6 a7 a8 a9 N T X nw fv tn tw th tk kt kn xt xn) sz) := by
  refine Met.ofW (cc := cX0_set) (maxL := 6) (ret := (some .boolean)) (by decide) rfl ?_
  intro p e s m args below meth c s₁ B hml hv
  obtain ⟨rfl, hsz, hP, hK, hD0⟩ := hv
  have hx := B.exec
  have hb := B.bytes
  have hr := B.returns
  have hts := atoms_spec (ws := wsX0_set) B.pre
  have hown : s.vm.findClass RX0 = some m.cls := findClass_of_methodNamed B.named
  have hlocks := B.notSynchronized
  subst hsz
  have hD := hD0.self (sz := s.heap.size)
  generalize hAe : va_A (wX cA h0 a1 a2 a3 a4 a5 a6 a7 a8 a9 N T X nw fv tn tw th tk kt kn xt xn) s.heap.size = A at hD ⊢
  have hA : ∀ q : Nat, s.heap.size ≤ q → A q := fun q h => by rw [← hAe]; exact Or.inr h
  have hS : va_S A s.heap s.heap [] := va_S.rf
  have hP : va_P (dC, dI) vwCl (wX cA h0 a1 a2 a3 a4 a5 a6 a7 a8 a9 N T X nw fv tn tw th tk kt kn xt xn) s.heap := hP
  have hl := lv_entry ([.ref h0, .int x, .int y, .int x1, .int x2, .int x3]) (n := 6) (Nat.le_of_ble_eq_true rfl)
  rw [lg_entry_eq]
  generalize (lg_sl ([.ref h0, .int x, .int y, .int x1, .int x2, .int x3]) ++ List.replicate (6 - (lg_sl ([.ref h0, .int x, .int y, .int x1, .int x2, .int x3])).length) Slot.unset).toArray = ls at hl ⊢
  have hl : lv_has ls 6 [(0, .ref h0), (1, .int x), (2, .int y), (3, .int x1), (4, .int x2), (5, .int x3)] := hl
  refine lv_aload_n hx hb dX0_set_0 rfl (lv_at hl 0 rfl) ?_
  refine lv_iload_n hx hb dX0_set_1 rfl (lv_at hl 1 rfl) ?_
  refine vp_callSi (W.runV (C := RX0) (As := [.int x]) (rest := []) ⟨hx, hb, hml, hown, hts⟩ (cx_isNode l dC dI cA h0 a1 a2 a3 a4 a5 a6 a7 a8 a9 N T X nw fv tn tw th tk kt kn xt xn x (by omega)) (cwV 1 hts gX0_set_X0_isNode rfl rfl rfl (by decide +kernel) ⟨Nat.le_of_ble_eq_true rfl, Nat.le_of_ble_eq_true rfl⟩) ⟨fun a U g mk q => ⟨q.1, q.2.1, va_K.moved (u := U) (U := U.calling g mk a) (Vm.Alike.refl U.vm) q.2.2⟩, va_recv hK hP (ci := 0) (q0 := 0) rfl rfl, fun U hU hW => ⟨rfl, by rw [hU]; exact hP, va_K.moved hW.alike hK⟩⟩ rfl rfl hl.1 rfl (lv_room (Nat.le_of_ble_eq_true rfl)) dX0_set_2 ⟨Nat.le_of_ble_eq_true rfl, Nat.le_of_ble_eq_true rfl⟩) (fun bo1 h_bo1 => ?_)
  refine lv_if_eq (tgt := 27) hx hb dX0_set_5 (by decide) (fun c2 => ?_) (fun c2 => ?_)
  · skip
    have c2 := btF h_bo1 c2
    refine lv_iconst (v := (nI 0)) hx hb dX0_set_27 (by decide) ?_
    exact W.zret (v := (nI 0)) (ty := .boolean) hx hb hr (by decide) (fun t9 ht9 hW9 => ⟨⟨(nI 0), fv, rfl, br_f (fun h => c2 h.1) ⟨rfl, rfl⟩, by rw [ht9]; exact hP, va_K.moved hW9.alike hK, hD⟩, hS.F ht9⟩) hS.2.2 dX0_set_28
  · skip
    have c2 := btT h_bo1 c2
    refine lv_iload_n hx hb dX0_set_8 rfl (lv_at hl 2 rfl) ?_
    refine vp_callSi (W.runS (As := [.int y]) (rest := []) ⟨hx, hb, hml, hown, hts⟩ (cx_isWhat l y) (va_cwS 1 hts gX0_set_X0_isWhat rfl rfl rfl (by decide +kernel) ⟨Nat.le_of_ble_eq_true rfl, Nat.le_of_ble_eq_true rfl⟩) preEq rfl rfl hl.1 rfl (lv_room (Nat.le_of_ble_eq_true rfl)) dX0_set_9 ⟨Nat.le_of_ble_eq_true rfl, Nat.le_of_ble_eq_true rfl⟩) (fun bo3 h_bo3 => ?_)
    refine lv_if_eq (tgt := 27) hx hb dX0_set_12 (by decide) (fun c4 => ?_) (fun c4 => ?_)
    · skip
      have c4 := btF h_bo3 c4
      refine lv_iconst (v := (nI 0)) hx hb dX0_set_27 (by decide) ?_
      exact W.zret (v := (nI 0)) (ty := .boolean) hx hb hr (by decide) (fun t9 ht9 hW9 => ⟨⟨(nI 0), fv, rfl, br_f (fun h => c4 h.2.1) ⟨rfl, rfl⟩, by rw [ht9]; exact hP, va_K.moved hW9.alike hK, hD⟩, hS.F ht9⟩) hS.2.2 dX0_set_28
    · skip
      have c4 := btT h_bo3 c4
      refine lv_iload_n hx hb dX0_set_15 rfl (lv_at hl 2 rfl) ?_
      refine lv_iload_n hx hb dX0_set_16 rfl (lv_at hl 3 rfl) ?_
      refine lv_iload hx hb dX0_set_17 (lv_at hl 4 rfl) ?_
      refine lv_iload hx hb dX0_set_19 (lv_at hl 5 rfl) ?_
      refine vp_callSi (W.runS (As := [.int y, .int x1, .int x2, .int x3]) (rest := []) ⟨hx, hb, hml, hown, hts⟩ (cx_canHave l y x1 x2 x3) (va_cwS 4 hts gX0_set_X0_canHave rfl rfl rfl (by decide +kernel) ⟨Nat.le_of_ble_eq_true rfl, Nat.le_of_ble_eq_true rfl⟩) preEq rfl rfl hl.1 rfl (lv_room (Nat.le_of_ble_eq_true rfl)) dX0_set_21 ⟨Nat.le_of_ble_eq_true rfl, Nat.le_of_ble_eq_true rfl⟩) (fun bo5 h_bo5 => ?_)
      refine lv_if_ne (tgt := 29) hx hb dX0_set_24 (by decide) (fun c6 => ?_) (fun c6 => ?_)
      · skip
        have c6 := btT h_bo5 c6
        have hok : (q_node N x ∧ q_what y ∧ q_can y x1 x2 x3) := ⟨c2, c4, c6⟩
        have e1 : x = nI x.toInt.toNat := z_nat hok.1.1
        have e2 : y = nI y.toInt.toNat := z_nat hok.2.1.1
        have b1 : x.toInt < N := hok.1.2
        have b2 : y.toInt < 3 := hok.2.1.2
        have b0 : 0 ≤ x.toInt ∧ 0 ≤ y.toInt := ⟨hok.1.1, hok.2.1.1⟩
        have hpl : pl_of x y + 3 ≤ N * 9 := by unfold pl_of; omega
        refine lv_aload_n hx hb dX0_set_29 rfl (lv_at hl 0 rfl) ?_
        refine va_get (D := (dC, dI)) (ci := 0) (v := .ref a1) (C := RX0) (T := TX0) (N := 13) hx hb hts (by decide +kernel) hown hK hP 0 rfl rfl 1 (by decide) (hts (.fieldLink RX0 22 "MotionDesk" "values" "[I") (by decide +kernel)) (fun _ h9 => h9) rfl dX0_set_30 ?_
        refine lv_iload_n hx hb dX0_set_33 rfl (lv_at hl 1 rfl) ?_
        refine lv_iload_n hx hb dX0_set_34 rfl (lv_at hl 2 rfl) ?_
        refine tp_i2 e2 e1 ?_
        refine vp_callSi (W.runS (As := [.int (nI x.toInt.toNat), .int (nI y.toInt.toNat)]) (rest := [.ref a1]) ⟨hx, hb, hml, hown, hts⟩ (cx_placeOf l x.toInt.toNat y.toInt.toNat) (va_cwS 2 hts gX0_set_X0_placeOf rfl rfl rfl (by decide +kernel) ⟨Nat.le_of_ble_eq_true rfl, Nat.le_of_ble_eq_true rfl⟩) preEq rfl rfl hl.1 rfl (lv_room (Nat.le_of_ble_eq_true rfl)) dX0_set_35 ⟨Nat.le_of_ble_eq_true rfl, Nat.le_of_ble_eq_true rfl⟩) (fun r7 h_r7 => ?_)
        refine tp_i (y := nI (pl_of x y)) (h_r7) ?_
        refine lv_iload_n hx hb dX0_set_38 rfl (lv_at hl 3 rfl) ?_
        refine lv_iload hx hb dX0_set_39 (lv_at hl 4 rfl) ?_
        refine lv_iload hx hb dX0_set_41 (lv_at hl 5 rfl) ?_
        have hPc := hP.sub (ws' := [(a1, .inl (cA, N * 9, .inl fv))]) [1] rfl
        have hDc := hD.sub (ws' := [(a1, .inl (cA, N * 9, .inl fv))]) [1] (by decide) rfl
        have hFc := va_free (wc := [(a1, .inl (cA, N * 9, .inl fv))]) hD hS hA [1] rfl
        refine va_callv (va_runS (As := [.ref a1, .int (nI (pl_of x y)), .int x1, .int x2, .int x3]) (rest := []) ⟨hx, hb, hml, hown, hts⟩ (cx_put3 l dC dI cA a1 (N * 9) s.heap.size fv (pl_of x y) x1 x2 x3 (by omega) (by omega)) (va_cwS 5 hts gX0_set_X0_putThree rfl rfl rfl (by decide +kernel) ⟨Nat.le_of_ble_eq_true rfl, Nat.le_of_ble_eq_true rfl⟩) ⟨fun a U g mk q => by obtain ⟨q0, q1, qP, qK, qD⟩ := q; exact ⟨q0, q1, qP, va_K.moved (u := U) (U := U.calling g mk a) (Vm.Alike.refl U.vm) qK, qD⟩, fun U hU hW => ⟨rfl, by rw [hU], by rw [hU]; exact hPc, va_K.moved hW.alike hK, hDc.weaken (fun _ _ _ _ => trivial)⟩⟩ rfl rfl hl.1 rfl (lv_room (Nat.le_of_ble_eq_true rfl)) dX0_set_43 ⟨Nat.zero_le _, Nat.zero_le _⟩) hS (fun q _ h => hFc q h) hFc (fun u t9 H1 locs ht9 hvm hw hB hz1 hk1 hS => ?_)
        obtain ⟨hP1, hK1, hD1⟩ := hB
        rw [ht9] at hP1
        obtain rfl : u = (put3 fv (pl_of x y) x1 x2 x3) := hw
        obtain ⟨hP, hD⟩ := wj_1 (k := 1) hP hD rfl hk1 hP1
        clear hP1 hD1 hPc hDc hFc hk1 hz1 ht9 hvm hK1
        generalize H1 = H at hP hS ⊢
        replace hP : va_P (dC, dI) vwCl (wX cA h0 a1 a2 a3 a4 a5 a6 a7 a8 a9 N T X nw (put3 fv (pl_of x y) x1 x2 x3) tn tw th tk kt kn xt xn) H := hP
        replace hD : va_D A (wX cA h0 a1 a2 a3 a4 a5 a6 a7 a8 a9 N T X nw (put3 fv (pl_of x y) x1 x2 x3) tn tw th tk kt kn xt xn) := hD
        refine lv_iconst (v := (nI 1)) hx hb dX0_set_46 (by decide) ?_
        exact W.zret (v := (nI 1)) (ty := .boolean) hx hb hr (by decide) (fun t9 ht9 hW9 => ⟨⟨(nI 1), (put3 fv (pl_of x y) x1 x2 x3), rfl, br_t hok ⟨rfl, rfl⟩, by rw [ht9]; exact hP, va_K.moved hW9.alike hK, hD⟩, hS.F ht9⟩) hS.2.2 dX0_set_47
      · skip
        have c6 := btF h_bo5 c6
        refine lv_iconst (v := (nI 0)) hx hb dX0_set_27 (by decide) ?_
        exact W.zret (v := (nI 0)) (ty := .boolean) hx hb hr (by decide) (fun t9 ht9 hW9 => ⟨⟨(nI 0), fv, rfl, br_f (fun h => c6 h.2.2) ⟨rfl, rfl⟩, by rw [ht9]; exact hP, va_K.moved hW9.alike hK, hD⟩, hS.F ht9⟩) hS.2.2 dX0_set_28
set_option maxHeartbeats 4000000 in
set_option maxRecDepth 100000 in
/-- key(time, x, y, z) -/
theorem cx_key (l : Launch) (dC : Nat → ClassId) (dI : Nat → Nat → Nat) (cA : ClassId) (h0 a1 a2 a3 a4 a5 a6 a7 a8 a9 N T X : Nat) (nw : Int32) (fv tn tw th tk kt kn xt xn : Nat → Int32) (sz : Nat) (t x1 x2 x3 : Int32) (hX : X ≤ 32) : Met l yX0_key wsX0_key ({ frames := 2, cells := 0, slots := 0, locals := 45 }) (va_Pc [.ref h0, .int t, .int x1, .int x2, .int x3] (eX sz dC dI cA h0 a1 a2 a3 a4 a5 a6 a7 a8 a9 N T X nw fv tn tw th tk kt kn xt xn)) (va_Qi (fun (r : Int32) (u : Nat × (Nat → Int32) × (Nat → Int32)) => ((X < 32 ∧ q_time t ∧ q_can (nI 0) x1 x2 x3 ∧ (0 < X → (xt (X - 1)).toInt < t.toInt)) → r = nI (X + 1) ∧ u = (X + 1, upd xt X t, put3 xn (X * 3) x1 x2 x3)) ∧ (¬ (X < 32 ∧ q_time t ∧ q_can (nI 0) x1 x2 x3 ∧ (0 < X → (xt (X - 1)).toInt < t.toInt)) → r = -1 ∧ u = (X, xt, xn))) (fun u => bX (va_A (wX cA h0 a1 a2 a3 a4 a5 a6 a7 a8 a9 N T X nw fv tn tw th tk kt kn xt xn) sz) dC dI cA h0 a1 a2 a3 a4 a5 a6 a7 a8 a9 N T u.1 nw fv tn tw th tk kt kn u.2.1 u.2.2) (va_A (wX cA h0 a1 a2 a3 a4 a5 a6 a7 a8 a9 N T X nw fv tn tw th tk kt kn xt xn) sz)) 0 0 (va_A (wX cA h0 a1 a2 a3 a4 a5 a6 a7 a8 a9 N T X nw fv tn tw th tk kt kn xt xn) sz) := by
  refine Met.ofW (cc := cX0_key) (maxL := 5) (ret := (some .int)) (by decide) rfl ?_
  intro p e s m args below meth c s₁ B hml hv
  obtain ⟨rfl, hsz, hP, hK, hD0⟩ := hv
  have hx := B.exec
  have hb := B.bytes
  have hr := B.returns
  have hts := atoms_spec (ws := wsX0_key) B.pre
  have hown : s.vm.findClass RX0 = some m.cls := findClass_of_methodNamed B.named
  have hlocks := B.notSynchronized
  subst hsz
  have hD := hD0.self (sz := s.heap.size)
  generalize hAe : va_A (wX cA h0 a1 a2 a3 a4 a5 a6 a7 a8 a9 N T X nw fv tn tw th tk kt kn xt xn) s.heap.size = A at hD ⊢
  have hA : ∀ q : Nat, s.heap.size ≤ q → A q := fun q h => by rw [← hAe]; exact Or.inr h
  have hS : va_S A s.heap s.heap [] := va_S.rf
  have hP : va_P (dC, dI) vwCl (wX cA h0 a1 a2 a3 a4 a5 a6 a7 a8 a9 N T X nw fv tn tw th tk kt kn xt xn) s.heap := hP
  have hl := lv_entry ([.ref h0, .int t, .int x1, .int x2, .int x3]) (n := 5) (Nat.le_of_ble_eq_true rfl)
  rw [lg_entry_eq]
  generalize (lg_sl ([.ref h0, .int t, .int x1, .int x2, .int x3]) ++ List.replicate (5 - (lg_sl ([.ref h0, .int t, .int x1, .int x2, .int x3])).length) Slot.unset).toArray = ls at hl ⊢
  have hl : lv_has ls 5 [(0, .ref h0), (1, .int t), (2, .int x1), (3, .int x2), (4, .int x3)] := hl
  have t0 := z_0
  have t1 : (nI X).toInt = X := nI_toInt (by omega)
  have t2 : (nI 32).toInt = 32 := by decide
  refine lv_aload_n hx hb dX0_key_0 rfl (lv_at hl 0 rfl) ?_
  refine va_get (D := (dC, dI)) (ci := 0) (v := .int (nI X)) (C := RX0) (T := TX0) (N := 13) hx hb hts (by decide +kernel) hown hK hP 0 rfl rfl 9 (by decide) (hts (.fieldLink RX0 54 "MotionDesk" "textCount" "I") (by decide +kernel)) (fun _ h9 => h9) rfl dX0_key_1 ?_
  refine lv_bipush (v := (nI 32)) hx hb dX0_key_4 (by decide) ?_
  refine lv_icmp_ge (tgt := 27) hx hb dX0_key_6 (by decide) (fun c1 => ?_) (fun c1 => ?_)
  · skip
    have c1 := zle c1
    refine lv_iconst (v := (-1)) hx hb dX0_key_27 (by decide) ?_
    exact W.iret (v := (-1)) hx hb hr (fun t9 ht9 hW9 => ⟨⟨(-1), (X, xt, xn), rfl, br_f (fun h => absurd h.1 (by omega)) ⟨rfl, rfl⟩, by rw [ht9]; exact hP, va_K.moved hW9.alike hK, hD⟩, hS.F ht9⟩) hS.2.2 dX0_key_28
  · skip
    have c1 := znle c1
    refine lv_iload_n hx hb dX0_key_9 rfl (lv_at hl 1 rfl) ?_
    refine vp_callSi (W.runS (As := [.int t]) (rest := []) ⟨hx, hb, hml, hown, hts⟩ (cx_isTime l t) (va_cwS 1 hts gX0_key_X0_isTime rfl rfl rfl (by decide +kernel) ⟨Nat.le_of_ble_eq_true rfl, Nat.le_of_ble_eq_true rfl⟩) preEq rfl rfl hl.1 rfl (lv_room (Nat.le_of_ble_eq_true rfl)) dX0_key_10 ⟨Nat.le_of_ble_eq_true rfl, Nat.le_of_ble_eq_true rfl⟩) (fun bo2 h_bo2 => ?_)
    refine lv_if_eq (tgt := 27) hx hb dX0_key_13 (by decide) (fun c3 => ?_) (fun c3 => ?_)
    · skip
      have c3 := btF h_bo2 c3
      refine lv_iconst (v := (-1)) hx hb dX0_key_27 (by decide) ?_
      exact W.iret (v := (-1)) hx hb hr (fun t9 ht9 hW9 => ⟨⟨(-1), (X, xt, xn), rfl, br_f (fun h => c3 h.2.1) ⟨rfl, rfl⟩, by rw [ht9]; exact hP, va_K.moved hW9.alike hK, hD⟩, hS.F ht9⟩) hS.2.2 dX0_key_28
    · skip
      have c3 := btT h_bo2 c3
      refine lv_iconst (v := (nI 0)) hx hb dX0_key_16 (by decide) ?_
      refine lv_iload_n hx hb dX0_key_17 rfl (lv_at hl 2 rfl) ?_
      refine lv_iload_n hx hb dX0_key_18 rfl (lv_at hl 3 rfl) ?_
      refine lv_iload hx hb dX0_key_19 (lv_at hl 4 rfl) ?_
      refine vp_callSi (W.runS (As := [.int (nI 0), .int x1, .int x2, .int x3]) (rest := []) ⟨hx, hb, hml, hown, hts⟩ (cx_canHave l (nI 0) x1 x2 x3) (va_cwS 4 hts gX0_key_X0_canHave rfl rfl rfl (by decide +kernel) ⟨Nat.le_of_ble_eq_true rfl, Nat.le_of_ble_eq_true rfl⟩) preEq rfl rfl hl.1 rfl (lv_room (Nat.le_of_ble_eq_true rfl)) dX0_key_21 ⟨Nat.le_of_ble_eq_true rfl, Nat.le_of_ble_eq_true rfl⟩) (fun bo4 h_bo4 => ?_)
      refine lv_if_ne (tgt := 29) hx hb dX0_key_24 (by decide) (fun c5 => ?_) (fun c5 => ?_)
      · skip
        have c5 := btT h_bo4 c5
        refine lv_aload_n hx hb dX0_key_29 rfl (lv_at hl 0 rfl) ?_
        refine va_get (D := (dC, dI)) (ci := 0) (v := .int (nI X)) (C := RX0) (T := TX0) (N := 13) hx hb hts (by decide +kernel) hown hK hP 0 rfl rfl 9 (by decide) (hts (.fieldLink RX0 54 "MotionDesk" "textCount" "I") (by decide +kernel)) (fun _ h9 => h9) rfl dX0_key_30 ?_
        refine lv_if_le (tgt := 53) hx hb dX0_key_33 (by decide) (fun c6 => ?_) (fun c6 => ?_)
        · skip
          have c6 := zle c6
          have hok : (X < 32 ∧ q_time t ∧ q_can (nI 0) x1 x2 x3 ∧ (0 < X → (xt (X - 1)).toInt < t.toInt)) := ⟨by omega, c3, c5, fun h => by omega⟩
          refine lv_aload_n hx hb dX0_key_53 rfl (lv_at hl 0 rfl) ?_
          refine va_get (D := (dC, dI)) (ci := 0) (v := .ref a8) (C := RX0) (T := TX0) (N := 13) hx hb hts (by decide +kernel) hown hK hP 0 rfl rfl 10 (by decide) (hts (.fieldLink RX0 48 "MotionDesk" "textTimes" "[I") (by decide +kernel)) (fun _ h9 => h9) rfl dX0_key_54 ?_
          refine lv_aload_n hx hb dX0_key_57 rfl (lv_at hl 0 rfl) ?_
          refine va_get (D := (dC, dI)) (ci := 0) (v := .int (nI X)) (C := RX0) (T := TX0) (N := 13) hx hb hts (by decide +kernel) hown hK hP 0 rfl rfl 9 (by decide) (hts (.fieldLink RX0 54 "MotionDesk" "textCount" "I") (by decide +kernel)) (fun _ h9 => h9) rfl dX0_key_58 ?_
          refine lv_iload_n hx hb dX0_key_61 rfl (lv_at hl 1 rfl) ?_
          refine va_iast hx hb hK hP hD hS 8 0 rfl rfl (vp_in_nI (by omega) (by omega)) dX0_key_62 (fun H locs hP hD hS => ?_)
          rw [nI_clamp (show X < 2 ^ 31 by omega)] at hP hD
          replace hP : va_P (dC, dI) vwCl (wX cA h0 a1 a2 a3 a4 a5 a6 a7 a8 a9 N T X nw fv tn tw th tk kt kn (upd xt X t) xn) H := hP
          replace hD : va_D A (wX cA h0 a1 a2 a3 a4 a5 a6 a7 a8 a9 N T X nw fv tn tw th tk kt kn (upd xt X t) xn) := hD
          refine lv_aload_n hx hb dX0_key_63 rfl (lv_at hl 0 rfl) ?_
          refine va_get (D := (dC, dI)) (ci := 0) (v := .ref a9) (C := RX0) (T := TX0) (N := 13) hx hb hts (by decide +kernel) hown hK hP 0 rfl rfl 11 (by decide) (hts (.fieldLink RX0 51 "MotionDesk" "textNumbers" "[I") (by decide +kernel)) (fun _ h9 => h9) rfl dX0_key_64 ?_
          refine lv_aload_n hx hb dX0_key_67 rfl (lv_at hl 0 rfl) ?_
          refine va_get (D := (dC, dI)) (ci := 0) (v := .int (nI X)) (C := RX0) (T := TX0) (N := 13) hx hb hts (by decide +kernel) hown hK hP 0 rfl rfl 9 (by decide) (hts (.fieldLink RX0 54 "MotionDesk" "textCount" "I") (by decide +kernel)) (fun _ h9 => h9) rfl dX0_key_68 ?_
          refine lv_iconst (v := (nI 3)) hx hb dX0_key_71 (by decide) ?_
          refine lv_imul hx hb dX0_key_72 ?_
          refine tp_i (y := nI (X * 3)) (pk_mul X 3) ?_
          refine lv_iload_n hx hb dX0_key_73 rfl (lv_at hl 2 rfl) ?_
          refine lv_iload_n hx hb dX0_key_74 rfl (lv_at hl 3 rfl) ?_
          refine lv_iload hx hb dX0_key_75 (lv_at hl 4 rfl) ?_
          have hPc := hP.sub (ws' := [(a9, .inl (cA, 96, .inl xn))]) [9] rfl
          have hDc := hD.sub (ws' := [(a9, .inl (cA, 96, .inl xn))]) [9] (by decide) rfl
          have hFc := va_free (wc := [(a9, .inl (cA, 96, .inl xn))]) hD hS hA [9] rfl
          refine va_callv (va_runS (As := [.ref a9, .int (nI (X * 3)), .int x1, .int x2, .int x3]) (rest := []) ⟨hx, hb, hml, hown, hts⟩ (cx_put3 l dC dI cA a9 96 H.size xn (X * 3) x1 x2 x3 (by omega) (by omega)) (va_cwS 5 hts gX0_key_X0_putThree rfl rfl rfl (by decide +kernel) ⟨Nat.le_of_ble_eq_true rfl, Nat.le_of_ble_eq_true rfl⟩) ⟨fun a U g mk q => by obtain ⟨q0, q1, qP, qK, qD⟩ := q; exact ⟨q0, q1, qP, va_K.moved (u := U) (U := U.calling g mk a) (Vm.Alike.refl U.vm) qK, qD⟩, fun U hU hW => ⟨rfl, by rw [hU], by rw [hU]; exact hPc, va_K.moved hW.alike hK, hDc.weaken (fun _ _ _ _ => trivial)⟩⟩ rfl rfl hl.1 rfl (lv_room (Nat.le_of_ble_eq_true rfl)) dX0_key_77 ⟨Nat.zero_le _, Nat.zero_le _⟩) hS (fun q _ h => hFc q h) hFc (fun u t9 H1 locs ht9 hvm hw hB hz1 hk1 hS => ?_)
          obtain ⟨hP1, hK1, hD1⟩ := hB
          rw [ht9] at hP1
          obtain rfl : u = (put3 xn (X * 3) x1 x2 x3) := hw
          obtain ⟨hP, hD⟩ := wj_1 (k := 9) hP hD rfl hk1 hP1
          clear hP1 hD1 hPc hDc hFc hk1 hz1 ht9 hvm hK1
          generalize H1 = H at hP hS ⊢
          replace hP : va_P (dC, dI) vwCl (wX cA h0 a1 a2 a3 a4 a5 a6 a7 a8 a9 N T X nw fv tn tw th tk kt kn (upd xt X t) (put3 xn (X * 3) x1 x2 x3)) H := hP
          replace hD : va_D A (wX cA h0 a1 a2 a3 a4 a5 a6 a7 a8 a9 N T X nw fv tn tw th tk kt kn (upd xt X t) (put3 xn (X * 3) x1 x2 x3)) := hD
          refine lv_aload_n hx hb dX0_key_80 rfl (lv_at hl 0 rfl) ?_
          refine lv_dup hx hb dX0_key_81 rfl ?_
          refine va_get (D := (dC, dI)) (ci := 0) (v := .int (nI X)) (C := RX0) (T := TX0) (N := 13) hx hb hts (by decide +kernel) hown hK hP 0 rfl rfl 9 (by decide) (hts (.fieldLink RX0 54 "MotionDesk" "textCount" "I") (by decide +kernel)) (fun _ h9 => h9) rfl dX0_key_82 ?_
          refine lv_iconst (v := (nI 1)) hx hb dX0_key_85 (by decide) ?_
          refine lv_iadd hx hb dX0_key_86 ?_
          refine tp_i (y := nI (X + 1)) (nI_1 X) ?_
          refine va_put (D := (dC, dI)) (ci := 0) (v := .int (nI (X + 1))) (ty := .int) (C := RX0) (T := TX0) (N := 13) hx hb hts (by decide +kernel) tyX0 tyX0_ok nmX0 hown hK hP hD hS 0 rfl rfl 9 (by decide) (hts (.fieldLink RX0 54 "MotionDesk" "textCount" "I") (by decide +kernel)) (fun _ h9 => h9) rfl (by decide +kernel) rfl rfl (Nat.le_of_ble_eq_true rfl) dX0_key_87 (fun H locs hP hD hS => ?_)
          replace hP : va_P (dC, dI) vwCl (wX cA h0 a1 a2 a3 a4 a5 a6 a7 a8 a9 N T (X + 1) nw fv tn tw th tk kt kn (upd xt X t) (put3 xn (X * 3) x1 x2 x3)) H := hP
          replace hD : va_D A (wX cA h0 a1 a2 a3 a4 a5 a6 a7 a8 a9 N T (X + 1) nw fv tn tw th tk kt kn (upd xt X t) (put3 xn (X * 3) x1 x2 x3)) := hD
          refine lv_aload_n hx hb dX0_key_90 rfl (lv_at hl 0 rfl) ?_
          refine va_get (D := (dC, dI)) (ci := 0) (v := .int (nI (X + 1))) (C := RX0) (T := TX0) (N := 13) hx hb hts (by decide +kernel) hown hK hP 0 rfl rfl 9 (by decide) (hts (.fieldLink RX0 54 "MotionDesk" "textCount" "I") (by decide +kernel)) (fun _ h9 => h9) rfl dX0_key_91 ?_
          exact W.iret (v := nI (X + 1)) hx hb hr (fun t9 ht9 hW9 => ⟨⟨nI (X + 1), ((X + 1), (upd xt X t), (put3 xn (X * 3) x1 x2 x3)), rfl, br_t hok ⟨rfl, rfl⟩, by rw [ht9]; exact hP, va_K.moved hW9.alike hK, hD⟩, hS.F ht9⟩) hS.2.2 dX0_key_94
        · skip
          have c6 := znle c6
          refine lv_iload_n hx hb dX0_key_36 rfl (lv_at hl 1 rfl) ?_
          refine lv_aload_n hx hb dX0_key_37 rfl (lv_at hl 0 rfl) ?_
          refine va_get (D := (dC, dI)) (ci := 0) (v := .ref a8) (C := RX0) (T := TX0) (N := 13) hx hb hts (by decide +kernel) hown hK hP 0 rfl rfl 10 (by decide) (hts (.fieldLink RX0 48 "MotionDesk" "textTimes" "[I") (by decide +kernel)) (fun _ h9 => h9) rfl dX0_key_38 ?_
          refine lv_aload_n hx hb dX0_key_41 rfl (lv_at hl 0 rfl) ?_
          refine va_get (D := (dC, dI)) (ci := 0) (v := .int (nI X)) (C := RX0) (T := TX0) (N := 13) hx hb hts (by decide +kernel) hown hK hP 0 rfl rfl 9 (by decide) (hts (.fieldLink RX0 54 "MotionDesk" "textCount" "I") (by decide +kernel)) (fun _ h9 => h9) rfl dX0_key_42 ?_
          refine lv_iconst (v := (nI 1)) hx hb dX0_key_45 (by decide) ?_
          refine lv_isub hx hb dX0_key_46 ?_
          refine tp_i (y := nI (X - 1)) (pk_sub (show 1 ≤ X by omega)) ?_
          refine va_iald hx hb hK hP 8 0 rfl rfl (vp_in_nI (by omega) (by omega)) dX0_key_47 ?_
          refine tp_i (y := (xt (X - 1))) (by rw [nI_clamp (by omega)]) ?_
          refine lv_icmp_gt (tgt := 53) hx hb dX0_key_48 (by decide) (fun c7 => ?_) (fun c7 => ?_)
          · skip
            have c7 := zlt c7
            have hok : (X < 32 ∧ q_time t ∧ q_can (nI 0) x1 x2 x3 ∧ (0 < X → (xt (X - 1)).toInt < t.toInt)) := ⟨by omega, c3, c5, fun _ => c7⟩
            refine lv_aload_n hx hb dX0_key_53 rfl (lv_at hl 0 rfl) ?_
            refine va_get (D := (dC, dI)) (ci := 0) (v := .ref a8) (C := RX0) (T := TX0) (N := 13) hx hb hts (by decide +kernel) hown hK hP 0 rfl rfl 10 (by decide) (hts (.fieldLink RX0 48 "MotionDesk" "textTimes" "[I") (by decide +kernel)) (fun _ h9 => h9) rfl dX0_key_54 ?_
            refine lv_aload_n hx hb dX0_key_57 rfl (lv_at hl 0 rfl) ?_
            refine va_get (D := (dC, dI)) (ci := 0) (v := .int (nI X)) (C := RX0) (T := TX0) (N := 13) hx hb hts (by decide +kernel) hown hK hP 0 rfl rfl 9 (by decide) (hts (.fieldLink RX0 54 "MotionDesk" "textCount" "I") (by decide +kernel)) (fun _ h9 => h9) rfl dX0_key_58 ?_
            refine lv_iload_n hx hb dX0_key_61 rfl (lv_at hl 1 rfl) ?_
            refine va_iast hx hb hK hP hD hS 8 0 rfl rfl (vp_in_nI (by omega) (by omega)) dX0_key_62 (fun H locs hP hD hS => ?_)
            rw [nI_clamp (show X < 2 ^ 31 by omega)] at hP hD
            replace hP : va_P (dC, dI) vwCl (wX cA h0 a1 a2 a3 a4 a5 a6 a7 a8 a9 N T X nw fv tn tw th tk kt kn (upd xt X t) xn) H := hP
            replace hD : va_D A (wX cA h0 a1 a2 a3 a4 a5 a6 a7 a8 a9 N T X nw fv tn tw th tk kt kn (upd xt X t) xn) := hD
            refine lv_aload_n hx hb dX0_key_63 rfl (lv_at hl 0 rfl) ?_
            refine va_get (D := (dC, dI)) (ci := 0) (v := .ref a9) (C := RX0) (T := TX0) (N := 13) hx hb hts (by decide +kernel) hown hK hP 0 rfl rfl 11 (by decide) (hts (.fieldLink RX0 51 "MotionDesk" "textNumbers" "[I") (by decide +kernel)) (fun _ h9 => h9) rfl dX0_key_64 ?_
            refine lv_aload_n hx hb dX0_key_67 rfl (lv_at hl 0 rfl) ?_
            refine va_get (D := (dC, dI)) (ci := 0) (v := .int (nI X)) (C := RX0) (T := TX0) (N := 13) hx hb hts (by decide +kernel) hown hK hP 0 rfl rfl 9 (by decide) (hts (.fieldLink RX0 54 "MotionDesk" "textCount" "I") (by decide +kernel)) (fun _ h9 => h9) rfl dX0_key_68 ?_
            refine lv_iconst (v := (nI 3)) hx hb dX0_key_71 (by decide) ?_
            refine lv_imul hx hb dX0_key_72 ?_
            refine tp_i (y := nI (X * 3)) (pk_mul X 3) ?_
            refine lv_iload_n hx hb dX0_key_73 rfl (lv_at hl 2 rfl) ?_
            refine lv_iload_n hx hb dX0_key_74 rfl (lv_at hl 3 rfl) ?_
            refine lv_iload hx hb dX0_key_75 (lv_at hl 4 rfl) ?_
            have hPc := hP.sub (ws' := [(a9, .inl (cA, 96, .inl xn))]) [9] rfl
            have hDc := hD.sub (ws' := [(a9, .inl (cA, 96, .inl xn))]) [9] (by decide) rfl
            have hFc := va_free (wc := [(a9, .inl (cA, 96, .inl xn))]) hD hS hA [9] rfl
            refine va_callv (va_runS (As := [.ref a9, .int (nI (X * 3)), .int x1, .int x2, .int x3]) (rest := []) ⟨hx, hb, hml, hown, hts⟩ (cx_put3 l dC dI cA a9 96 H.size xn (X * 3) x1 x2 x3 (by omega) (by omega)) (va_cwS 5 hts gX0_key_X0_putThree rfl rfl rfl (by decide +kernel) ⟨Nat.le_of_ble_eq_true rfl, Nat.le_of_ble_eq_true rfl⟩) ⟨fun a U g mk q => by obtain ⟨q0, q1, qP, qK, qD⟩ := q; exact ⟨q0, q1, qP, va_K.moved (u := U) (U := U.calling g mk a) (Vm.Alike.refl U.vm) qK, qD⟩, fun U hU hW => ⟨rfl, by rw [hU], by rw [hU]; exact hPc, va_K.moved hW.alike hK, hDc.weaken (fun _ _ _ _ => trivial)⟩⟩ rfl rfl hl.1 rfl (lv_room (Nat.le_of_ble_eq_true rfl)) dX0_key_77 ⟨Nat.zero_le _, Nat.zero_le _⟩) hS (fun q _ h => hFc q h) hFc (fun u t9 H1 locs ht9 hvm hw hB hz1 hk1 hS => ?_)
            obtain ⟨hP1, hK1, hD1⟩ := hB
            rw [ht9] at hP1
            obtain rfl : u = (put3 xn (X * 3) x1 x2 x3) := hw
            obtain ⟨hP, hD⟩ := wj_1 (k := 9) hP hD rfl hk1 hP1
            clear hP1 hD1 hPc hDc hFc hk1 hz1 ht9 hvm hK1
            generalize H1 = H at hP hS ⊢
            replace hP : va_P (dC, dI) vwCl (wX cA h0 a1 a2 a3 a4 a5 a6 a7 a8 a9 N T X nw fv tn tw th tk kt kn (upd xt X t) (put3 xn (X * 3) x1 x2 x3)) H := hP
            replace hD : va_D A (wX cA h0 a1 a2 a3 a4 a5 a6 a7 a8 a9 N T X nw fv tn tw th tk kt kn (upd xt X t) (put3 xn (X * 3) x1 x2 x3)) := hD
            refine lv_aload_n hx hb dX0_key_80 rfl (lv_at hl 0 rfl) ?_
            refine lv_dup hx hb dX0_key_81 rfl ?_
            refine va_get (D := (dC, dI)) (ci := 0) (v := .int (nI X)) (C := RX0) (T := TX0) (N := 13) hx hb hts (by decide +kernel) hown hK hP 0 rfl rfl 9 (by decide) (hts (.fieldLink RX0 54 "MotionDesk" "textCount" "I") (by decide +kernel)) (fun _ h9 => h9) rfl dX0_key_82 ?_
            refine lv_iconst (v := (nI 1)) hx hb dX0_key_85 (by decide) ?_
            refine lv_iadd hx hb dX0_key_86 ?_
            refine tp_i (y := nI (X + 1)) (nI_1 X) ?_
            refine va_put (D := (dC, dI)) (ci := 0) (v := .int (nI (X + 1))) (ty := .int) (C := RX0) (T := TX0) (N := 13) hx hb hts (by decide +kernel) tyX0 tyX0_ok nmX0 hown hK hP hD hS 0 rfl rfl 9 (by decide) (hts (.fieldLink RX0 54 "MotionDesk" "textCount" "I") (by decide +kernel)) (fun _ h9 => h9) rfl (by decide +kernel) rfl rfl (Nat.le_of_ble_eq_true rfl) dX0_key_87 (fun H locs hP hD hS => ?_)
            replace hP : va_P (dC, dI) vwCl (wX cA h0 a1 a2 a3 a4 a5 a6 a7 a8 a9 N T (X + 1) nw fv tn tw th tk kt kn (upd xt X t) (put3 xn (X * 3) x1 x2 x3)) H := hP
            replace hD : va_D A (wX cA h0 a1 a2 a3 a4 a5 a6 a7 a8 a9 N T (X + 1) nw fv tn tw th tk kt kn (upd xt X t) (put3 xn (X * 3) x1 x2 x3)) := hD
            refine lv_aload_n hx hb dX0_key_90 rfl (lv_at hl 0 rfl) ?_
            refine va_get (D := (dC, dI)) (ci := 0) (v := .int (nI (X + 1))) (C := RX0) (T := TX0) (N := 13) hx hb hts (by decide +kernel) hown hK hP 0 rfl rfl 9 (by decide) (hts (.fieldLink RX0 54 "MotionDesk" "textCount" "I") (by decide +kernel)) (fun _ h9 => h9) rfl dX0_key_91 ?_
            exact W.iret (v := nI (X + 1)) hx hb hr (fun t9 ht9 hW9 => ⟨⟨nI (X + 1), ((X + 1), (upd xt X t), (put3 xn (X * 3) x1 x2 x3)), rfl, br_t hok ⟨rfl, rfl⟩, by rw [ht9]; exact hP, va_K.moved hW9.alike hK, hD⟩, hS.F ht9⟩) hS.2.2 dX0_key_94
          · skip
            have c7 := znlt c7
            refine lv_iconst (v := (-1)) hx hb dX0_key_51 (by decide) ?_
            exact W.iret (v := (-1)) hx hb hr (fun t9 ht9 hW9 => ⟨⟨(-1), (X, xt, xn), rfl, br_f (fun h => absurd (h.2.2.2 (by omega)) (by omega)) ⟨rfl, rfl⟩, by rw [ht9]; exact hP, va_K.moved hW9.alike hK, hD⟩, hS.F ht9⟩) hS.2.2 dX0_key_52
      · skip
        have c5 := btF h_bo4 c5
        refine lv_iconst (v := (-1)) hx hb dX0_key_27 (by decide) ?_
        exact W.iret (v := (-1)) hx hb hr (fun t9 ht9 hW9 => ⟨⟨(-1), (X, xt, xn), rfl, br_f (fun h => c5 h.2.2.1) ⟨rfl, rfl⟩, by rw [ht9]; exact hP, va_K.moved hW9.alike hK, hD⟩, hS.F ht9⟩) hS.2.2 dX0_key_28
