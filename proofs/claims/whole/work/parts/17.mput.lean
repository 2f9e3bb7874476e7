set_option maxHeartbeats 4000000 in
set_option maxRecDepth 100000 in
/-- set(node, what, ..) -/
theorem cm_set (l : Launch) (dC : Nat → ClassId) (dI : Nat → Nat → Nat) (cA : ClassId) (g0 b1 b2 b3 b4 b5 b6 b7 b8 b9 N T X : Nat) (nw : Int32) (fv tn tw th tk kt kn xt xn : Nat → Int32) (sz : Nat) (x y x1 x2 x3 : Int32) (hN : N ≤ 48) : Met l yX1_set wsX1_set ({ frames := 1, cells := 0, slots := 0, locals := 22 }) (va_Pc [.ref g0, .int x, .int y, .int x1, .int x2, .int x3] (eM sz dC dI cA g0 b1 b2 b3 b4 b5 b6 b7 b8 b9 N T X nw fv tn tw th tk kt kn xt xn)) (va_Qi (fun (r : Int32) (u : Nat → Int32) => ((q_node N x ∧ q_what y ∧ q_can y x1 x2 x3) → r = nI 1 ∧ u = put3 fv (pl_of x y) x1 x2 x3) ∧ (¬ (q_node N x ∧ q_what y ∧ q_can y x1 x2 x3) → r = nI 0 ∧ u = fv)) (fun u => bM (va_A (wM cA g0 b1 b2 b3 b4 b5 b6 b7 b8 b9 N T X nw fv tn tw th tk kt kn xt xn) sz) dC dI cA g0 b1 b2 b3 b4 b5 b6 b7 b8 b9 N T X nw u tn tw th tk kt kn xt xn) (va_A (wM cA g0 b1 b2 b3 b4 b5 b6 b7 b8 b9 N T X nw fv tn tw th tk kt kn xt xn) sz)) 0 0 (va_A (wM cA g0 b1 b2 b3 b4 b5 b6 b7 b8 b9 N T X nw fv tn tw th tk kt kn xt xn) sz) := by
  refine Met.ofW (cc := cX1_set) (maxL := 6) (ret := (some .boolean)) (by decide) rfl ?_
  intro p e s m args below meth c s₁ B hml hv
  obtain ⟨rfl, hsz, hP, hK, hD0⟩ := hv
  have hx := B.exec
  have hb := B.bytes
  have hr := B.returns
  have hts := atoms_spec (ws := wsX1_set) B.pre
  have hown : s.vm.findClass RX1 = some m.cls := findClass_of_methodNamed B.named
  have hlocks := B.notSynchronized
  subst hsz
  have hD := hD0.self (sz := s.heap.size)
  generalize hAe : va_A (wM cA g0 b1 b2 b3 b4 b5 b6 b7 b8 b9 N T X nw fv tn tw th tk kt kn xt xn) s.heap.size = A at hD ⊢
  have hA : ∀ q : Nat, s.heap.size ≤ q → A q := fun q h => by rw [← hAe]; exact Or.inr h
  have hS : va_S A s.heap s.heap [] := va_S.rf
  have hP : va_P (dC, dI) vwCl (wM cA g0 b1 b2 b3 b4 b5 b6 b7 b8 b9 N T X nw fv tn tw th tk kt kn xt xn) s.heap := hP
  have hl := lv_entry ([.ref g0, .int x, .int y, .int x1, .int x2, .int x3]) (n := 6) (Nat.le_of_ble_eq_true rfl)
  rw [lg_entry_eq]
  generalize (lg_sl ([.ref g0, .int x, .int y, .int x1, .int x2, .int x3]) ++ List.replicate (6 - (lg_sl ([.ref g0, .int x, .int y, .int x1, .int x2, .int x3])).length) Slot.unset).toArray = ls at hl ⊢
  have hl : lv_has ls 6 [(0, .ref g0), (1, .int x), (2, .int y), (3, .int x1), (4, .int x2), (5, .int x3)] := hl
  refine lv_aload_n hx hb dX1_set_0 rfl (lv_at hl 0 rfl) ?_
  refine lv_iconst (v := (nI 0)) hx hb dX1_set_1 (by decide) ?_
  refine va_put (D := (dC, dI)) (ci := 1) (v := .int (nI 0)) (ty := .int) (C := RX1) (T := TX1) (N := 14) hx hb hts (by decide +kernel) tyX1 tyX1_ok nmX1 hown hK hP hD hS 0 rfl rfl 0 (by decide) (hts (.fieldLink RX1 42 "MotionDeskModel" "thrown" "I") (by decide +kernel)) (fun _ h9 => h9) rfl (by decide +kernel) rfl rfl (Nat.le_of_ble_eq_true rfl) dX1_set_2 (fun H locs hP hD hS => ?_)
  replace hP : va_P (dC, dI) vwCl (wM cA g0 b1 b2 b3 b4 b5 b6 b7 b8 b9 N T X nw fv tn tw th tk kt kn xt xn) H := hP
  replace hD : va_D A (wM cA g0 b1 b2 b3 b4 b5 b6 b7 b8 b9 N T X nw fv tn tw th tk kt kn xt xn) := hD
  refine lv_aload_n hx hb dX1_set_5 rfl (lv_at hl 0 rfl) ?_
  refine lv_iload_n hx hb dX1_set_6 rfl (lv_at hl 1 rfl) ?_
  refine lv_iload_n hx hb dX1_set_7 rfl (lv_at hl 2 rfl) ?_
  refine vp_callSi (W.runV (C := RX1) (As := [.int x, .int y]) (rest := []) ⟨hx, hb, hml, hown, hts⟩ (cm_there l dC dI cA g0 b1 b2 b3 b4 b5 b6 b7 b8 b9 N T X nw fv tn tw th tk kt kn xt xn x y (by omega)) (cwV 2 hts gX1_set_X1_there rfl rfl rfl (by decide +kernel) ⟨Nat.le_of_ble_eq_true rfl, Nat.le_of_ble_eq_true rfl⟩) ⟨fun a U g mk q => ⟨q.1, q.2.1, va_K.moved (u := U) (U := U.calling g mk a) (Vm.Alike.refl U.vm) q.2.2⟩, va_recv hK hP (ci := 1) (q0 := 0) rfl rfl, fun U hU hW => ⟨rfl, by rw [hU]; exact hP, va_K.moved hW.alike hK⟩⟩ rfl rfl hl.1 rfl (lv_room (Nat.le_of_ble_eq_true rfl)) dX1_set_8 ⟨Nat.le_of_ble_eq_true rfl, Nat.le_of_ble_eq_true rfl⟩) (fun bo1 h_bo1 => ?_)
  refine lv_if_eq (tgt := 40) hx hb dX1_set_11 (by decide) (fun c2 => ?_) (fun c2 => ?_)
  · skip
    have c2 := btF h_bo1 c2
    refine lv_iconst (v := (nI 0)) hx hb dX1_set_40 (by decide) ?_
    exact W.zret (v := (nI 0)) (ty := .boolean) hx hb hr (by decide) (fun t9 ht9 hW9 => ⟨⟨(nI 0), fv, rfl, br_f (fun h => c2 ⟨h.1, h.2.1⟩) ⟨rfl, rfl⟩, by rw [ht9]; exact hP, va_K.moved hW9.alike hK, hD⟩, hS.F ht9⟩) hS.2.2 dX1_set_41
  · skip
    have c2 := btT h_bo1 c2
    refine lv_iload_n hx hb dX1_set_14 rfl (lv_at hl 2 rfl) ?_
    refine lv_iload_n hx hb dX1_set_15 rfl (lv_at hl 3 rfl) ?_
    refine vp_callSi (W.runS (As := [.int y, .int x1]) (rest := []) ⟨hx, hb, hml, hown, hts⟩ (cm_fits l y x1) (va_cwS 2 hts gX1_set_X1_fits rfl rfl rfl (by decide +kernel) ⟨Nat.le_of_ble_eq_true rfl, Nat.le_of_ble_eq_true rfl⟩) preEq rfl rfl hl.1 rfl (lv_room (Nat.le_of_ble_eq_true rfl)) dX1_set_16 ⟨Nat.le_of_ble_eq_true rfl, Nat.le_of_ble_eq_true rfl⟩) (fun bo3 h_bo3 => ?_)
    refine lv_if_eq (tgt := 40) hx hb dX1_set_19 (by decide) (fun c4 => ?_) (fun c4 => ?_)
    · skip
      have c4 := btF h_bo3 c4
      refine lv_iconst (v := (nI 0)) hx hb dX1_set_40 (by decide) ?_
      exact W.zret (v := (nI 0)) (ty := .boolean) hx hb hr (by decide) (fun t9 ht9 hW9 => ⟨⟨(nI 0), fv, rfl, br_f (fun h => c4 h.2.2.1) ⟨rfl, rfl⟩, by rw [ht9]; exact hP, va_K.moved hW9.alike hK, hD⟩, hS.F ht9⟩) hS.2.2 dX1_set_41
    · skip
      have c4 := btT h_bo3 c4
      refine lv_iload_n hx hb dX1_set_22 rfl (lv_at hl 2 rfl) ?_
      refine lv_iload hx hb dX1_set_23 (lv_at hl 4 rfl) ?_
      refine vp_callSi (W.runS (As := [.int y, .int x2]) (rest := []) ⟨hx, hb, hml, hown, hts⟩ (cm_fits l y x2) (va_cwS 2 hts gX1_set_X1_fits rfl rfl rfl (by decide +kernel) ⟨Nat.le_of_ble_eq_true rfl, Nat.le_of_ble_eq_true rfl⟩) preEq rfl rfl hl.1 rfl (lv_room (Nat.le_of_ble_eq_true rfl)) dX1_set_25 ⟨Nat.le_of_ble_eq_true rfl, Nat.le_of_ble_eq_true rfl⟩) (fun bo5 h_bo5 => ?_)
      refine lv_if_eq (tgt := 40) hx hb dX1_set_28 (by decide) (fun c6 => ?_) (fun c6 => ?_)
      · skip
        have c6 := btF h_bo5 c6
        refine lv_iconst (v := (nI 0)) hx hb dX1_set_40 (by decide) ?_
        exact W.zret (v := (nI 0)) (ty := .boolean) hx hb hr (by decide) (fun t9 ht9 hW9 => ⟨⟨(nI 0), fv, rfl, br_f (fun h => c6 h.2.2.2.1) ⟨rfl, rfl⟩, by rw [ht9]; exact hP, va_K.moved hW9.alike hK, hD⟩, hS.F ht9⟩) hS.2.2 dX1_set_41
      · skip
        have c6 := btT h_bo5 c6
        refine lv_iload_n hx hb dX1_set_31 rfl (lv_at hl 2 rfl) ?_
        refine lv_iload hx hb dX1_set_32 (lv_at hl 5 rfl) ?_
        refine vp_callSi (W.runS (As := [.int y, .int x3]) (rest := []) ⟨hx, hb, hml, hown, hts⟩ (cm_fits l y x3) (va_cwS 2 hts gX1_set_X1_fits rfl rfl rfl (by decide +kernel) ⟨Nat.le_of_ble_eq_true rfl, Nat.le_of_ble_eq_true rfl⟩) preEq rfl rfl hl.1 rfl (lv_room (Nat.le_of_ble_eq_true rfl)) dX1_set_34 ⟨Nat.le_of_ble_eq_true rfl, Nat.le_of_ble_eq_true rfl⟩) (fun bo7 h_bo7 => ?_)
        refine lv_if_ne (tgt := 42) hx hb dX1_set_37 (by decide) (fun c8 => ?_) (fun c8 => ?_)
        · skip
          have c8 := btT h_bo7 c8
          have hok : (q_node N x ∧ q_what y ∧ q_can y x1 x2 x3) := ⟨c2.1, c2.2, c4, c6, c8⟩
          have e1 : x = nI x.toInt.toNat := z_nat hok.1.1
          have e2 : y = nI y.toInt.toNat := z_nat hok.2.1.1
          have pb1 : x.toInt < N := hok.1.2
          have pb2 : y.toInt < 3 := hok.2.1.2
          have pb0 : 0 ≤ x.toInt ∧ 0 ≤ y.toInt := ⟨hok.1.1, hok.2.1.1⟩
          have hpl : pl_of x y + 3 ≤ N * 9 := by unfold pl_of; omega
          refine lv_aload_n hx hb dX1_set_42 rfl (lv_at hl 0 rfl) ?_
          refine va_get (D := (dC, dI)) (ci := 1) (v := .ref b1) (C := RX1) (T := TX1) (N := 14) hx hb hts (by decide +kernel) hown hK hP 0 rfl rfl 2 (by decide) (hts (.fieldLink RX1 7 "MotionDeskModel" "poses" "[I") (by decide +kernel)) (fun _ h9 => h9) rfl dX1_set_43 ?_
          refine lv_bipush (v := (nI 9)) hx hb dX1_set_46 (by decide) ?_
          refine lv_iload_n hx hb dX1_set_48 rfl (lv_at hl 1 rfl) ?_
          refine lv_imul hx hb dX1_set_49 ?_
          refine tp_i (y := nI (x.toInt.toNat * 9)) (by rw [e1, pk_mul, nI_toInt (by omega)]; congr 1; omega) ?_
          refine lv_iconst (v := (nI 3)) hx hb dX1_set_50 (by decide) ?_
          refine lv_iload_n hx hb dX1_set_51 rfl (lv_at hl 2 rfl) ?_
          refine lv_imul hx hb dX1_set_52 ?_
          refine tp_i (y := nI (y.toInt.toNat * 3)) (by rw [e2, pk_mul, nI_toInt (by omega)]; congr 1; omega) ?_
          refine lv_iadd hx hb dX1_set_53 ?_
          refine tp_i (y := nI (pl_of x y)) (by rw [nI_add]; congr 1; unfold pl_of; omega) ?_
          refine lv_iload_n hx hb dX1_set_54 rfl (lv_at hl 3 rfl) ?_
          refine va_iast hx hb hK hP hD hS 1 0 rfl rfl (vp_in_nI (by omega) (by omega)) dX1_set_55 (fun H locs hP hD hS => ?_)
          rw [nI_clamp (show pl_of x y < 2 ^ 31 by omega)] at hP hD
          replace hP : va_P (dC, dI) vwCl (wM cA g0 b1 b2 b3 b4 b5 b6 b7 b8 b9 N T X nw (upd fv (pl_of x y) x1) tn tw th tk kt kn xt xn) H := hP
          replace hD : va_D A (wM cA g0 b1 b2 b3 b4 b5 b6 b7 b8 b9 N T X nw (upd fv (pl_of x y) x1) tn tw th tk kt kn xt xn) := hD
          refine lv_aload_n hx hb dX1_set_56 rfl (lv_at hl 0 rfl) ?_
          refine va_get (D := (dC, dI)) (ci := 1) (v := .ref b1) (C := RX1) (T := TX1) (N := 14) hx hb hts (by decide +kernel) hown hK hP 0 rfl rfl 2 (by decide) (hts (.fieldLink RX1 7 "MotionDeskModel" "poses" "[I") (by decide +kernel)) (fun _ h9 => h9) rfl dX1_set_57 ?_
          refine lv_bipush (v := (nI 9)) hx hb dX1_set_60 (by decide) ?_
          refine lv_iload_n hx hb dX1_set_62 rfl (lv_at hl 1 rfl) ?_
          refine lv_imul hx hb dX1_set_63 ?_
          refine tp_i (y := nI (x.toInt.toNat * 9)) (by rw [e1, pk_mul, nI_toInt (by omega)]; congr 1; omega) ?_
          refine lv_iconst (v := (nI 3)) hx hb dX1_set_64 (by decide) ?_
          refine lv_iload_n hx hb dX1_set_65 rfl (lv_at hl 2 rfl) ?_
          refine lv_imul hx hb dX1_set_66 ?_
          refine tp_i (y := nI (y.toInt.toNat * 3)) (by rw [e2, pk_mul, nI_toInt (by omega)]; congr 1; omega) ?_
          refine lv_iadd hx hb dX1_set_67 ?_
          refine tp_i (y := nI (pl_of x y)) (by rw [nI_add]; congr 1; unfold pl_of; omega) ?_
          refine lv_iconst (v := (nI 1)) hx hb dX1_set_68 (by decide) ?_
          refine lv_iadd hx hb dX1_set_69 ?_
          refine tp_i (y := nI (pl_of x y + 1)) (nI_add _ 1) ?_
          refine lv_iload hx hb dX1_set_70 (lv_at hl 4 rfl) ?_
          refine va_iast hx hb hK hP hD hS 1 0 rfl rfl (vp_in_nI (by omega) (by omega)) dX1_set_72 (fun H locs hP hD hS => ?_)
          rw [nI_clamp (show pl_of x y + 1 < 2 ^ 31 by omega)] at hP hD
          replace hP : va_P (dC, dI) vwCl (wM cA g0 b1 b2 b3 b4 b5 b6 b7 b8 b9 N T X nw (upd (upd fv (pl_of x y) x1) (pl_of x y + 1) x2) tn tw th tk kt kn xt xn) H := hP
          replace hD : va_D A (wM cA g0 b1 b2 b3 b4 b5 b6 b7 b8 b9 N T X nw (upd (upd fv (pl_of x y) x1) (pl_of x y + 1) x2) tn tw th tk kt kn xt xn) := hD
          refine lv_aload_n hx hb dX1_set_73 rfl (lv_at hl 0 rfl) ?_
          refine va_get (D := (dC, dI)) (ci := 1) (v := .ref b1) (C := RX1) (T := TX1) (N := 14) hx hb hts (by decide +kernel) hown hK hP 0 rfl rfl 2 (by decide) (hts (.fieldLink RX1 7 "MotionDeskModel" "poses" "[I") (by decide +kernel)) (fun _ h9 => h9) rfl dX1_set_74 ?_
          refine lv_bipush (v := (nI 9)) hx hb dX1_set_77 (by decide) ?_
          refine lv_iload_n hx hb dX1_set_79 rfl (lv_at hl 1 rfl) ?_
          refine lv_imul hx hb dX1_set_80 ?_
          refine tp_i (y := nI (x.toInt.toNat * 9)) (by rw [e1, pk_mul, nI_toInt (by omega)]; congr 1; omega) ?_
          refine lv_iconst (v := (nI 3)) hx hb dX1_set_81 (by decide) ?_
          refine lv_iload_n hx hb dX1_set_82 rfl (lv_at hl 2 rfl) ?_
          refine lv_imul hx hb dX1_set_83 ?_
          refine tp_i (y := nI (y.toInt.toNat * 3)) (by rw [e2, pk_mul, nI_toInt (by omega)]; congr 1; omega) ?_
          refine lv_iadd hx hb dX1_set_84 ?_
          refine tp_i (y := nI (pl_of x y)) (by rw [nI_add]; congr 1; unfold pl_of; omega) ?_
          refine lv_iconst (v := (nI 2)) hx hb dX1_set_85 (by decide) ?_
          refine lv_iadd hx hb dX1_set_86 ?_
          refine tp_i (y := nI (pl_of x y + 2)) (nI_add _ 2) ?_
          refine lv_iload hx hb dX1_set_87 (lv_at hl 5 rfl) ?_
          refine va_iast hx hb hK hP hD hS 1 0 rfl rfl (vp_in_nI (by omega) (by omega)) dX1_set_89 (fun H locs hP hD hS => ?_)
          rw [nI_clamp (show pl_of x y + 2 < 2 ^ 31 by omega)] at hP hD
          replace hP : va_P (dC, dI) vwCl (wM cA g0 b1 b2 b3 b4 b5 b6 b7 b8 b9 N T X nw (upd (upd (upd fv (pl_of x y) x1) (pl_of x y + 1) x2) (pl_of x y + 2) x3) tn tw th tk kt kn xt xn) H := hP
          replace hD : va_D A (wM cA g0 b1 b2 b3 b4 b5 b6 b7 b8 b9 N T X nw (upd (upd (upd fv (pl_of x y) x1) (pl_of x y + 1) x2) (pl_of x y + 2) x3) tn tw th tk kt kn xt xn) := hD
          refine lv_iconst (v := (nI 1)) hx hb dX1_set_90 (by decide) ?_
          exact W.zret (v := (nI 1)) (ty := .boolean) hx hb hr (by decide) (fun t9 ht9 hW9 => ⟨⟨(nI 1), (upd (upd (upd fv (pl_of x y) x1) (pl_of x y + 1) x2) (pl_of x y + 2) x3), rfl, br_t hok ⟨rfl, rfl⟩, by rw [ht9]; exact hP, va_K.moved hW9.alike hK, hD⟩, hS.F ht9⟩) hS.2.2 dX1_set_91
        · skip
          have c8 := btF h_bo7 c8
          refine lv_iconst (v := (nI 0)) hx hb dX1_set_40 (by decide) ?_
          exact W.zret (v := (nI 0)) (ty := .boolean) hx hb hr (by decide) (fun t9 ht9 hW9 => ⟨⟨(nI 0), fv, rfl, br_f (fun h => c8 h.2.2.2.2) ⟨rfl, rfl⟩, by rw [ht9]; exact hP, va_K.moved hW9.alike hK, hD⟩, hS.F ht9⟩) hS.2.2 dX1_set_41
set_option maxHeartbeats 4000000 in
set_option maxRecDepth 100000 in
/-- key(t, x, y, z) -/
theorem cm_key (l : Launch) (dC : Nat → ClassId) (dI : Nat → Nat → Nat) (cA : ClassId) (g0 b1 b2 b3 b4 b5 b6 b7 b8 b9 N T X : Nat) (nw : Int32) (fv tn tw th tk kt kn xt xn : Nat → Int32) (sz : Nat) (t x1 x2 x3 : Int32) (hX : X ≤ 32) : Met l yX1_key wsX1_key ({ frames := 1, cells := 0, slots := 0, locals := 22 }) (va_Pc [.ref g0, .int t, .int x1, .int x2, .int x3] (eM sz dC dI cA g0 b1 b2 b3 b4 b5 b6 b7 b8 b9 N T X nw fv tn tw th tk kt kn xt xn)) (va_Qi (fun (r : Int32) (u : Nat × (Nat → Int32) × (Nat → Int32)) => ((X < 32 ∧ q_time t ∧ q_can (nI 0) x1 x2 x3 ∧ (0 < X → (xt (X - 1)).toInt < t.toInt)) → r = nI (X + 1) ∧ u = (X + 1, upd xt X t, put3 xn (X * 3) x1 x2 x3)) ∧ (¬ (X < 32 ∧ q_time t ∧ q_can (nI 0) x1 x2 x3 ∧ (0 < X → (xt (X - 1)).toInt < t.toInt)) → r = -1 ∧ u = (X, xt, xn))) (fun u => bM (va_A (wM cA g0 b1 b2 b3 b4 b5 b6 b7 b8 b9 N T X nw fv tn tw th tk kt kn xt xn) sz) dC dI cA g0 b1 b2 b3 b4 b5 b6 b7 b8 b9 N T u.1 nw fv tn tw th tk kt kn u.2.1 u.2.2) (va_A (wM cA g0 b1 b2 b3 b4 b5 b6 b7 b8 b9 N T X nw fv tn tw th tk kt kn xt xn) sz)) 0 0 (va_A (wM cA g0 b1 b2 b3 b4 b5 b6 b7 b8 b9 N T X nw fv tn tw th tk kt kn xt xn) sz) := by
  refine Met.ofW (cc := cX1_key) (maxL := 6) (ret := (some .int)) (by decide) rfl ?_
  intro p e s m args below meth c s₁ B hml hv
  obtain ⟨rfl, hsz, hP, hK, hD0⟩ := hv
  have hx := B.exec
  have hb := B.bytes
  have hr := B.returns
  have hts := atoms_spec (ws := wsX1_key) B.pre
  have hown : s.vm.findClass RX1 = some m.cls := findClass_of_methodNamed B.named
  have hlocks := B.notSynchronized
  subst hsz
  have hD := hD0.self (sz := s.heap.size)
  generalize hAe : va_A (wM cA g0 b1 b2 b3 b4 b5 b6 b7 b8 b9 N T X nw fv tn tw th tk kt kn xt xn) s.heap.size = A at hD ⊢
  have hA : ∀ q : Nat, s.heap.size ≤ q → A q := fun q h => by rw [← hAe]; exact Or.inr h
  have hS : va_S A s.heap s.heap [] := va_S.rf
  have hP : va_P (dC, dI) vwCl (wM cA g0 b1 b2 b3 b4 b5 b6 b7 b8 b9 N T X nw fv tn tw th tk kt kn xt xn) s.heap := hP
  have hl := lv_entry ([.ref g0, .int t, .int x1, .int x2, .int x3]) (n := 6) (Nat.le_of_ble_eq_true rfl)
  rw [lg_entry_eq]
  generalize (lg_sl ([.ref g0, .int t, .int x1, .int x2, .int x3]) ++ List.replicate (6 - (lg_sl ([.ref g0, .int t, .int x1, .int x2, .int x3])).length) Slot.unset).toArray = ls at hl ⊢
  have hl : lv_has ls 6 [(0, .ref g0), (1, .int t), (2, .int x1), (3, .int x2), (4, .int x3)] := hl
  have t0 := z_0
  have t1 : (nI X).toInt = X := nI_toInt (by omega)
  have t2 : (nI 32).toInt = 32 := by decide
  have t3 : (1000000 : Int32).toInt = 1000000 := by decide
  refine lv_aload_n hx hb dX1_key_0 rfl (lv_at hl 0 rfl) ?_
  refine lv_iconst (v := (nI 0)) hx hb dX1_key_1 (by decide) ?_
  refine va_put (D := (dC, dI)) (ci := 1) (v := .int (nI 0)) (ty := .int) (C := RX1) (T := TX1) (N := 14) hx hb hts (by decide +kernel) tyX1 tyX1_ok nmX1 hown hK hP hD hS 0 rfl rfl 0 (by decide) (hts (.fieldLink RX1 42 "MotionDeskModel" "thrown" "I") (by decide +kernel)) (fun _ h9 => h9) rfl (by decide +kernel) rfl rfl (Nat.le_of_ble_eq_true rfl) dX1_key_2 (fun H locs hP hD hS => ?_)
  replace hP : va_P (dC, dI) vwCl (wM cA g0 b1 b2 b3 b4 b5 b6 b7 b8 b9 N T X nw fv tn tw th tk kt kn xt xn) H := hP
  replace hD : va_D A (wM cA g0 b1 b2 b3 b4 b5 b6 b7 b8 b9 N T X nw fv tn tw th tk kt kn xt xn) := hD
  refine lv_iload_n hx hb dX1_key_5 rfl (lv_at hl 1 rfl) ?_
  refine lv_if_lt (tgt := 41) hx hb dX1_key_6 (by decide) (fun c1 => ?_) (fun c1 => ?_)
  · skip
    have c1 := zlt c1
    refine lv_iconst (v := (nI 0)) hx hb dX1_key_41 (by decide) ?_
    refine lv_istore (lv' := [(5, .int (nI 0)), (0, .ref g0), (1, .int t), (2, .int x1), (3, .int x2), (4, .int x3)]) hx hb dX1_key_42 hl (by decide) rfl (fun ls hl => ?_)
    refine lv_aload_n hx hb dX1_key_44 rfl (lv_at hl 1 rfl) ?_
    refine va_get (D := (dC, dI)) (ci := 1) (v := .int (nI X)) (C := RX1) (T := TX1) (N := 14) hx hb hts (by decide +kernel) hown hK hP 0 rfl rfl 4 (by decide) (hts (.fieldLink RX1 48 "MotionDeskModel" "textKeys" "I") (by decide +kernel)) (fun _ h9 => h9) rfl dX1_key_45 ?_
    refine lv_bipush (v := (nI 32)) hx hb dX1_key_48 (by decide) ?_
    refine lv_icmp_eq (tgt := 83) hx hb dX1_key_50 (by decide) (fun c2 => ?_) (fun c2 => ?_)
    · skip
      have c2 := zeq c2
      refine lv_iconst (v := (-1)) hx hb dX1_key_83 (by decide) ?_
      exact W.iret (v := (-1)) hx hb hr (fun t9 ht9 hW9 => ⟨⟨(-1), (X, xt, xn), rfl, br_f (fun h => by obtain ⟨g1, g2, -, g4⟩ := h; unfold q_time at g2; omega) ⟨rfl, rfl⟩, by rw [ht9]; exact hP, va_K.moved hW9.alike hK, hD⟩, hS.F ht9⟩) hS.2.2 dX1_key_84
    · skip
      have c2 := zne c2
      refine lv_iload hx hb dX1_key_53 (lv_at hl 0 rfl) ?_
      refine lv_if_eq (tgt := 83) hx hb dX1_key_55 (by decide) (fun c3 => ?_) (fun c3 => ?_)
      · skip
        have c3 := c3
        refine lv_iconst (v := (-1)) hx hb dX1_key_83 (by decide) ?_
        exact W.iret (v := (-1)) hx hb hr (fun t9 ht9 hW9 => ⟨⟨(-1), (X, xt, xn), rfl, br_f (fun h => by obtain ⟨g1, g2, -, g4⟩ := h; unfold q_time at g2; omega) ⟨rfl, rfl⟩, by rw [ht9]; exact hP, va_K.moved hW9.alike hK, hD⟩, hS.F ht9⟩) hS.2.2 dX1_key_84
      · skip
        have c3 := c3
        exact absurd c3 (by decide)
  · skip
    have c1 := znlt c1
    refine lv_iload_n hx hb dX1_key_9 rfl (lv_at hl 1 rfl) ?_
    refine lv_ldc (v := 1000000) hx hb hown (hts (.constant RX1 47 1000000) (by decide +kernel)) dX1_key_10 ?_
    refine lv_icmp_gt (tgt := 41) hx hb dX1_key_12 (by decide) (fun c4 => ?_) (fun c4 => ?_)
    · skip
      have c4 := zlt c4
      refine lv_iconst (v := (nI 0)) hx hb dX1_key_41 (by decide) ?_
      refine lv_istore (lv' := [(5, .int (nI 0)), (0, .ref g0), (1, .int t), (2, .int x1), (3, .int x2), (4, .int x3)]) hx hb dX1_key_42 hl (by decide) rfl (fun ls hl => ?_)
      refine lv_aload_n hx hb dX1_key_44 rfl (lv_at hl 1 rfl) ?_
      refine va_get (D := (dC, dI)) (ci := 1) (v := .int (nI X)) (C := RX1) (T := TX1) (N := 14) hx hb hts (by decide +kernel) hown hK hP 0 rfl rfl 4 (by decide) (hts (.fieldLink RX1 48 "MotionDeskModel" "textKeys" "I") (by decide +kernel)) (fun _ h9 => h9) rfl dX1_key_45 ?_
      refine lv_bipush (v := (nI 32)) hx hb dX1_key_48 (by decide) ?_
      refine lv_icmp_eq (tgt := 83) hx hb dX1_key_50 (by decide) (fun c5 => ?_) (fun c5 => ?_)
      · skip
        have c5 := zeq c5
        refine lv_iconst (v := (-1)) hx hb dX1_key_83 (by decide) ?_
        exact W.iret (v := (-1)) hx hb hr (fun t9 ht9 hW9 => ⟨⟨(-1), (X, xt, xn), rfl, br_f (fun h => by obtain ⟨g1, g2, -, g4⟩ := h; unfold q_time at g2; omega) ⟨rfl, rfl⟩, by rw [ht9]; exact hP, va_K.moved hW9.alike hK, hD⟩, hS.F ht9⟩) hS.2.2 dX1_key_84
      · skip
        have c5 := zne c5
        refine lv_iload hx hb dX1_key_53 (lv_at hl 0 rfl) ?_
        refine lv_if_eq (tgt := 83) hx hb dX1_key_55 (by decide) (fun c6 => ?_) (fun c6 => ?_)
        · skip
          have c6 := c6
          refine lv_iconst (v := (-1)) hx hb dX1_key_83 (by decide) ?_
          exact W.iret (v := (-1)) hx hb hr (fun t9 ht9 hW9 => ⟨⟨(-1), (X, xt, xn), rfl, br_f (fun h => by obtain ⟨g1, g2, -, g4⟩ := h; unfold q_time at g2; omega) ⟨rfl, rfl⟩, by rw [ht9]; exact hP, va_K.moved hW9.alike hK, hD⟩, hS.F ht9⟩) hS.2.2 dX1_key_84
        · skip
          have c6 := c6
          exact absurd c6 (by decide)
    · skip
      have c4 := znlt c4
      refine lv_aload_n hx hb dX1_key_15 rfl (lv_at hl 0 rfl) ?_
      refine va_get (D := (dC, dI)) (ci := 1) (v := .int (nI X)) (C := RX1) (T := TX1) (N := 14) hx hb hts (by decide +kernel) hown hK hP 0 rfl rfl 4 (by decide) (hts (.fieldLink RX1 48 "MotionDeskModel" "textKeys" "I") (by decide +kernel)) (fun _ h9 => h9) rfl dX1_key_16 ?_
      refine lv_if_eq (tgt := 37) hx hb dX1_key_19 (by decide) (fun c7 => ?_) (fun c7 => ?_)
      · skip
        have c7 := zeq c7
        refine lv_iconst (v := (nI 1)) hx hb dX1_key_37 (by decide) ?_
        refine lv_goto (tgt := 42) hx hb dX1_key_38 (by decide) ?_
        refine lv_istore (lv' := [(5, .int (nI 1)), (0, .ref g0), (1, .int t), (2, .int x1), (3, .int x2), (4, .int x3)]) hx hb dX1_key_42 hl (by decide) rfl (fun ls hl => ?_)
        refine lv_aload_n hx hb dX1_key_44 rfl (lv_at hl 1 rfl) ?_
        refine va_get (D := (dC, dI)) (ci := 1) (v := .int (nI X)) (C := RX1) (T := TX1) (N := 14) hx hb hts (by decide +kernel) hown hK hP 0 rfl rfl 4 (by decide) (hts (.fieldLink RX1 48 "MotionDeskModel" "textKeys" "I") (by decide +kernel)) (fun _ h9 => h9) rfl dX1_key_45 ?_
        refine lv_bipush (v := (nI 32)) hx hb dX1_key_48 (by decide) ?_
        refine lv_icmp_eq (tgt := 83) hx hb dX1_key_50 (by decide) (fun c8 => ?_) (fun c8 => ?_)
        · skip
          have c8 := zeq c8
          refine lv_iconst (v := (-1)) hx hb dX1_key_83 (by decide) ?_
          exact W.iret (v := (-1)) hx hb hr (fun t9 ht9 hW9 => ⟨⟨(-1), (X, xt, xn), rfl, br_f (fun h => by obtain ⟨g1, g2, -, g4⟩ := h; unfold q_time at g2; omega) ⟨rfl, rfl⟩, by rw [ht9]; exact hP, va_K.moved hW9.alike hK, hD⟩, hS.F ht9⟩) hS.2.2 dX1_key_84
        · skip
          have c8 := zne c8
          refine lv_iload hx hb dX1_key_53 (lv_at hl 0 rfl) ?_
          refine lv_if_eq (tgt := 83) hx hb dX1_key_55 (by decide) (fun c9 => ?_) (fun c9 => ?_)
          · skip
            have c9 := c9
            exact absurd c9 (by decide)
          · skip
            have c9 := c9
            refine lv_iconst (v := (nI 0)) hx hb dX1_key_58 (by decide) ?_
            refine lv_iload_n hx hb dX1_key_59 rfl (lv_at hl 3 rfl) ?_
            refine vp_callSi (W.runS (As := [.int (nI 0), .int x1]) (rest := []) ⟨hx, hb, hml, hown, hts⟩ (cm_fits l (nI 0) x1) (va_cwS 2 hts gX1_key_X1_fits rfl rfl rfl (by decide +kernel) ⟨Nat.le_of_ble_eq_true rfl, Nat.le_of_ble_eq_true rfl⟩) preEq rfl rfl hl.1 rfl (lv_room (Nat.le_of_ble_eq_true rfl)) dX1_key_60 ⟨Nat.le_of_ble_eq_true rfl, Nat.le_of_ble_eq_true rfl⟩) (fun bo10 h_bo10 => ?_)
            refine lv_if_eq (tgt := 83) hx hb dX1_key_63 (by decide) (fun c11 => ?_) (fun c11 => ?_)
            · skip
              have c11 := btF h_bo10 c11
              refine lv_iconst (v := (-1)) hx hb dX1_key_83 (by decide) ?_
              exact W.iret (v := (-1)) hx hb hr (fun t9 ht9 hW9 => ⟨⟨(-1), (X, xt, xn), rfl, br_f (fun h => c11 h.2.2.1.1) ⟨rfl, rfl⟩, by rw [ht9]; exact hP, va_K.moved hW9.alike hK, hD⟩, hS.F ht9⟩) hS.2.2 dX1_key_84
            · skip
              have c11 := btT h_bo10 c11
              refine lv_iconst (v := (nI 0)) hx hb dX1_key_66 (by decide) ?_
              refine lv_iload_n hx hb dX1_key_67 rfl (lv_at hl 4 rfl) ?_
              refine vp_callSi (W.runS (As := [.int (nI 0), .int x2]) (rest := []) ⟨hx, hb, hml, hown, hts⟩ (cm_fits l (nI 0) x2) (va_cwS 2 hts gX1_key_X1_fits rfl rfl rfl (by decide +kernel) ⟨Nat.le_of_ble_eq_true rfl, Nat.le_of_ble_eq_true rfl⟩) preEq rfl rfl hl.1 rfl (lv_room (Nat.le_of_ble_eq_true rfl)) dX1_key_68 ⟨Nat.le_of_ble_eq_true rfl, Nat.le_of_ble_eq_true rfl⟩) (fun bo12 h_bo12 => ?_)
              refine lv_if_eq (tgt := 83) hx hb dX1_key_71 (by decide) (fun c13 => ?_) (fun c13 => ?_)
              · skip
                have c13 := btF h_bo12 c13
                refine lv_iconst (v := (-1)) hx hb dX1_key_83 (by decide) ?_
                exact W.iret (v := (-1)) hx hb hr (fun t9 ht9 hW9 => ⟨⟨(-1), (X, xt, xn), rfl, br_f (fun h => c13 h.2.2.1.2.1) ⟨rfl, rfl⟩, by rw [ht9]; exact hP, va_K.moved hW9.alike hK, hD⟩, hS.F ht9⟩) hS.2.2 dX1_key_84
              · skip
                have c13 := btT h_bo12 c13
                refine lv_iconst (v := (nI 0)) hx hb dX1_key_74 (by decide) ?_
                refine lv_iload hx hb dX1_key_75 (lv_at hl 5 rfl) ?_
                refine vp_callSi (W.runS (As := [.int (nI 0), .int x3]) (rest := []) ⟨hx, hb, hml, hown, hts⟩ (cm_fits l (nI 0) x3) (va_cwS 2 hts gX1_key_X1_fits rfl rfl rfl (by decide +kernel) ⟨Nat.le_of_ble_eq_true rfl, Nat.le_of_ble_eq_true rfl⟩) preEq rfl rfl hl.1 rfl (lv_room (Nat.le_of_ble_eq_true rfl)) dX1_key_77 ⟨Nat.le_of_ble_eq_true rfl, Nat.le_of_ble_eq_true rfl⟩) (fun bo14 h_bo14 => ?_)
                refine lv_if_ne (tgt := 85) hx hb dX1_key_80 (by decide) (fun c15 => ?_) (fun c15 => ?_)
                · skip
                  have c15 := btT h_bo14 c15
                  have hok : (X < 32 ∧ q_time t ∧ q_can (nI 0) x1 x2 x3 ∧ (0 < X → (xt (X - 1)).toInt < t.toInt)) := ⟨by omega, by unfold q_time; omega, ⟨c11, c13, c15⟩, fun h => by omega⟩
                  refine lv_aload_n hx hb dX1_key_85 rfl (lv_at hl 1 rfl) ?_
                  refine va_get (D := (dC, dI)) (ci := 1) (v := .ref b8) (C := RX1) (T := TX1) (N := 14) hx hb hts (by decide +kernel) hown hK hP 0 rfl rfl 5 (by decide) (hts (.fieldLink RX1 13 "MotionDeskModel" "textTimes" "[I") (by decide +kernel)) (fun _ h9 => h9) rfl dX1_key_86 ?_
                  refine lv_aload_n hx hb dX1_key_89 rfl (lv_at hl 1 rfl) ?_
                  refine va_get (D := (dC, dI)) (ci := 1) (v := .int (nI X)) (C := RX1) (T := TX1) (N := 14) hx hb hts (by decide +kernel) hown hK hP 0 rfl rfl 4 (by decide) (hts (.fieldLink RX1 48 "MotionDeskModel" "textKeys" "I") (by decide +kernel)) (fun _ h9 => h9) rfl dX1_key_90 ?_
                  refine lv_iload_n hx hb dX1_key_93 rfl (lv_at hl 2 rfl) ?_
                  refine va_iast hx hb hK hP hD hS 8 0 rfl rfl (vp_in_nI (by omega) (by omega)) dX1_key_94 (fun H locs hP hD hS => ?_)
                  rw [nI_clamp (show X < 2 ^ 31 by omega)] at hP hD
                  replace hP : va_P (dC, dI) vwCl (wM cA g0 b1 b2 b3 b4 b5 b6 b7 b8 b9 N T X nw fv tn tw th tk kt kn (upd xt X t) xn) H := hP
                  replace hD : va_D A (wM cA g0 b1 b2 b3 b4 b5 b6 b7 b8 b9 N T X nw fv tn tw th tk kt kn (upd xt X t) xn) := hD
                  refine lv_aload_n hx hb dX1_key_95 rfl (lv_at hl 1 rfl) ?_
                  refine va_get (D := (dC, dI)) (ci := 1) (v := .ref b9) (C := RX1) (T := TX1) (N := 14) hx hb hts (by decide +kernel) hown hK hP 0 rfl rfl 6 (by decide) (hts (.fieldLink RX1 16 "MotionDeskModel" "textValues" "[I") (by decide +kernel)) (fun _ h9 => h9) rfl dX1_key_96 ?_
                  refine lv_iconst (v := (nI 3)) hx hb dX1_key_99 (by decide) ?_
                  refine lv_aload_n hx hb dX1_key_100 rfl (lv_at hl 1 rfl) ?_
                  refine va_get (D := (dC, dI)) (ci := 1) (v := .int (nI X)) (C := RX1) (T := TX1) (N := 14) hx hb hts (by decide +kernel) hown hK hP 0 rfl rfl 4 (by decide) (hts (.fieldLink RX1 48 "MotionDeskModel" "textKeys" "I") (by decide +kernel)) (fun _ h9 => h9) rfl dX1_key_101 ?_
                  refine lv_imul hx hb dX1_key_104 ?_
                  refine tp_i (y := nI (X * 3)) (by rw [pk_mul, Nat.mul_comm]) ?_
                  refine lv_iload_n hx hb dX1_key_105 rfl (lv_at hl 3 rfl) ?_
                  refine va_iast hx hb hK hP hD hS 9 0 rfl rfl (vp_in_nI (by omega) (by omega)) dX1_key_106 (fun H locs hP hD hS => ?_)
                  rw [nI_clamp (show X * 3 < 2 ^ 31 by omega)] at hP hD
                  replace hP : va_P (dC, dI) vwCl (wM cA g0 b1 b2 b3 b4 b5 b6 b7 b8 b9 N T X nw fv tn tw th tk kt kn (upd xt X t) (upd xn (X * 3) x1)) H := hP
                  replace hD : va_D A (wM cA g0 b1 b2 b3 b4 b5 b6 b7 b8 b9 N T X nw fv tn tw th tk kt kn (upd xt X t) (upd xn (X * 3) x1)) := hD
                  refine lv_aload_n hx hb dX1_key_107 rfl (lv_at hl 1 rfl) ?_
                  refine va_get (D := (dC, dI)) (ci := 1) (v := .ref b9) (C := RX1) (T := TX1) (N := 14) hx hb hts (by decide +kernel) hown hK hP 0 rfl rfl 6 (by decide) (hts (.fieldLink RX1 16 "MotionDeskModel" "textValues" "[I") (by decide +kernel)) (fun _ h9 => h9) rfl dX1_key_108 ?_
                  refine lv_iconst (v := (nI 3)) hx hb dX1_key_111 (by decide) ?_
                  refine lv_aload_n hx hb dX1_key_112 rfl (lv_at hl 1 rfl) ?_
                  refine va_get (D := (dC, dI)) (ci := 1) (v := .int (nI X)) (C := RX1) (T := TX1) (N := 14) hx hb hts (by decide +kernel) hown hK hP 0 rfl rfl 4 (by decide) (hts (.fieldLink RX1 48 "MotionDeskModel" "textKeys" "I") (by decide +kernel)) (fun _ h9 => h9) rfl dX1_key_113 ?_
                  refine lv_imul hx hb dX1_key_116 ?_
                  refine tp_i (y := nI (X * 3)) (by rw [pk_mul, Nat.mul_comm]) ?_
                  refine lv_iconst (v := (nI 1)) hx hb dX1_key_117 (by decide) ?_
                  refine lv_iadd hx hb dX1_key_118 ?_
                  refine tp_i (y := nI (X * 3 + 1)) (nI_add _ 1) ?_
                  refine lv_iload_n hx hb dX1_key_119 rfl (lv_at hl 4 rfl) ?_
                  refine va_iast hx hb hK hP hD hS 9 0 rfl rfl (vp_in_nI (by omega) (by omega)) dX1_key_120 (fun H locs hP hD hS => ?_)
                  rw [nI_clamp (show X * 3 + 1 < 2 ^ 31 by omega)] at hP hD
                  replace hP : va_P (dC, dI) vwCl (wM cA g0 b1 b2 b3 b4 b5 b6 b7 b8 b9 N T X nw fv tn tw th tk kt kn (upd xt X t) (upd (upd xn (X * 3) x1) (X * 3 + 1) x2)) H := hP
                  replace hD : va_D A (wM cA g0 b1 b2 b3 b4 b5 b6 b7 b8 b9 N T X nw fv tn tw th tk kt kn (upd xt X t) (upd (upd xn (X * 3) x1) (X * 3 + 1) x2)) := hD
                  refine lv_aload_n hx hb dX1_key_121 rfl (lv_at hl 1 rfl) ?_
                  refine va_get (D := (dC, dI)) (ci := 1) (v := .ref b9) (C := RX1) (T := TX1) (N := 14) hx hb hts (by decide +kernel) hown hK hP 0 rfl rfl 6 (by decide) (hts (.fieldLink RX1 16 "MotionDeskModel" "textValues" "[I") (by decide +kernel)) (fun _ h9 => h9) rfl dX1_key_122 ?_
                  refine lv_iconst (v := (nI 3)) hx hb dX1_key_125 (by decide) ?_
                  refine lv_aload_n hx hb dX1_key_126 rfl (lv_at hl 1 rfl) ?_
                  refine va_get (D := (dC, dI)) (ci := 1) (v := .int (nI X)) (C := RX1) (T := TX1) (N := 14) hx hb hts (by decide +kernel) hown hK hP 0 rfl rfl 4 (by decide) (hts (.fieldLink RX1 48 "MotionDeskModel" "textKeys" "I") (by decide +kernel)) (fun _ h9 => h9) rfl dX1_key_127 ?_
                  refine lv_imul hx hb dX1_key_130 ?_
                  refine tp_i (y := nI (X * 3)) (by rw [pk_mul, Nat.mul_comm]) ?_
                  refine lv_iconst (v := (nI 2)) hx hb dX1_key_131 (by decide) ?_
                  refine lv_iadd hx hb dX1_key_132 ?_
                  refine tp_i (y := nI (X * 3 + 2)) (nI_add _ 2) ?_
                  refine lv_iload hx hb dX1_key_133 (lv_at hl 5 rfl) ?_
                  refine va_iast hx hb hK hP hD hS 9 0 rfl rfl (vp_in_nI (by omega) (by omega)) dX1_key_135 (fun H locs hP hD hS => ?_)
                  rw [nI_clamp (show X * 3 + 2 < 2 ^ 31 by omega)] at hP hD
                  replace hP : va_P (dC, dI) vwCl (wM cA g0 b1 b2 b3 b4 b5 b6 b7 b8 b9 N T X nw fv tn tw th tk kt kn (upd xt X t) (upd (upd (upd xn (X * 3) x1) (X * 3 + 1) x2) (X * 3 + 2) x3)) H := hP
                  replace hD : va_D A (wM cA g0 b1 b2 b3 b4 b5 b6 b7 b8 b9 N T X nw fv tn tw th tk kt kn (upd xt X t) (upd (upd (upd xn (X * 3) x1) (X * 3 + 1) x2) (X * 3 + 2) x3)) := hD
                  refine lv_aload_n hx hb dX1_key_136 rfl (lv_at hl 1 rfl) ?_
                  refine lv_dup hx hb dX1_key_137 rfl ?_
                  refine va_get (D := (dC, dI)) (ci := 1) (v := .int (nI X)) (C := RX1) (T := TX1) (N := 14) hx hb hts (by decide +kernel) hown hK hP 0 rfl rfl 4 (by decide) (hts (.fieldLink RX1 48 "MotionDeskModel" "textKeys" "I") (by decide +kernel)) (fun _ h9 => h9) rfl dX1_key_138 ?_
                  refine lv_iconst (v := (nI 1)) hx hb dX1_key_141 (by decide) ?_
                  refine lv_iadd hx hb dX1_key_142 ?_
                  refine tp_i (y := nI (X + 1)) (nI_1 X) ?_
                  refine va_put (D := (dC, dI)) (ci := 1) (v := .int (nI (X + 1))) (ty := .int) (C := RX1) (T := TX1) (N := 14) hx hb hts (by decide +kernel) tyX1 tyX1_ok nmX1 hown hK hP hD hS 0 rfl rfl 4 (by decide) (hts (.fieldLink RX1 48 "MotionDeskModel" "textKeys" "I") (by decide +kernel)) (fun _ h9 => h9) rfl (by decide +kernel) rfl rfl (Nat.le_of_ble_eq_true rfl) dX1_key_143 (fun H locs hP hD hS => ?_)
                  replace hP : va_P (dC, dI) vwCl (wM cA g0 b1 b2 b3 b4 b5 b6 b7 b8 b9 N T (X + 1) nw fv tn tw th tk kt kn (upd xt X t) (upd (upd (upd xn (X * 3) x1) (X * 3 + 1) x2) (X * 3 + 2) x3)) H := hP
                  replace hD : va_D A (wM cA g0 b1 b2 b3 b4 b5 b6 b7 b8 b9 N T (X + 1) nw fv tn tw th tk kt kn (upd xt X t) (upd (upd (upd xn (X * 3) x1) (X * 3 + 1) x2) (X * 3 + 2) x3)) := hD
                  refine lv_aload_n hx hb dX1_key_146 rfl (lv_at hl 1 rfl) ?_
                  refine va_get (D := (dC, dI)) (ci := 1) (v := .int (nI (X + 1))) (C := RX1) (T := TX1) (N := 14) hx hb hts (by decide +kernel) hown hK hP 0 rfl rfl 4 (by decide) (hts (.fieldLink RX1 48 "MotionDeskModel" "textKeys" "I") (by decide +kernel)) (fun _ h9 => h9) rfl dX1_key_147 ?_
                  exact W.iret (v := nI (X + 1)) hx hb hr (fun t9 ht9 hW9 => ⟨⟨nI (X + 1), ((X + 1), (upd xt X t), (upd (upd (upd xn (X * 3) x1) (X * 3 + 1) x2) (X * 3 + 2) x3)), rfl, br_t hok ⟨rfl, rfl⟩, by rw [ht9]; exact hP, va_K.moved hW9.alike hK, hD⟩, hS.F ht9⟩) hS.2.2 dX1_key_150
                · skip
                  have c15 := btF h_bo14 c15
                  refine lv_iconst (v := (-1)) hx hb dX1_key_83 (by decide) ?_
                  exact W.iret (v := (-1)) hx hb hr (fun t9 ht9 hW9 => ⟨⟨(-1), (X, xt, xn), rfl, br_f (fun h => c15 h.2.2.1.2.2) ⟨rfl, rfl⟩, by rw [ht9]; exact hP, va_K.moved hW9.alike hK, hD⟩, hS.F ht9⟩) hS.2.2 dX1_key_84
      · skip
        have c7 := zne c7
        refine lv_iload_n hx hb dX1_key_22 rfl (lv_at hl 1 rfl) ?_
        refine lv_aload_n hx hb dX1_key_23 rfl (lv_at hl 0 rfl) ?_
        refine va_get (D := (dC, dI)) (ci := 1) (v := .ref b8) (C := RX1) (T := TX1) (N := 14) hx hb hts (by decide +kernel) hown hK hP 0 rfl rfl 5 (by decide) (hts (.fieldLink RX1 13 "MotionDeskModel" "textTimes" "[I") (by decide +kernel)) (fun _ h9 => h9) rfl dX1_key_24 ?_
        refine lv_aload_n hx hb dX1_key_27 rfl (lv_at hl 0 rfl) ?_
        refine va_get (D := (dC, dI)) (ci := 1) (v := .int (nI X)) (C := RX1) (T := TX1) (N := 14) hx hb hts (by decide +kernel) hown hK hP 0 rfl rfl 4 (by decide) (hts (.fieldLink RX1 48 "MotionDeskModel" "textKeys" "I") (by decide +kernel)) (fun _ h9 => h9) rfl dX1_key_28 ?_
        refine lv_iconst (v := (nI 1)) hx hb dX1_key_31 (by decide) ?_
        refine lv_isub hx hb dX1_key_32 ?_
        refine tp_i (y := nI (X - 1)) (pk_sub (show 1 ≤ X by omega)) ?_
        refine va_iald hx hb hK hP 8 0 rfl rfl (vp_in_nI (by omega) (by omega)) dX1_key_33 ?_
        refine tp_i (y := (xt (X - 1))) (by rw [nI_clamp (by omega)]) ?_
        refine lv_icmp_le (tgt := 41) hx hb dX1_key_34 (by decide) (fun c16 => ?_) (fun c16 => ?_)
        · skip
          have c16 := zle c16
          refine lv_iconst (v := (nI 0)) hx hb dX1_key_41 (by decide) ?_
          refine lv_istore (lv' := [(5, .int (nI 0)), (0, .ref g0), (1, .int t), (2, .int x1), (3, .int x2), (4, .int x3)]) hx hb dX1_key_42 hl (by decide) rfl (fun ls hl => ?_)
          refine lv_aload_n hx hb dX1_key_44 rfl (lv_at hl 1 rfl) ?_
          refine va_get (D := (dC, dI)) (ci := 1) (v := .int (nI X)) (C := RX1) (T := TX1) (N := 14) hx hb hts (by decide +kernel) hown hK hP 0 rfl rfl 4 (by decide) (hts (.fieldLink RX1 48 "MotionDeskModel" "textKeys" "I") (by decide +kernel)) (fun _ h9 => h9) rfl dX1_key_45 ?_
          refine lv_bipush (v := (nI 32)) hx hb dX1_key_48 (by decide) ?_
          refine lv_icmp_eq (tgt := 83) hx hb dX1_key_50 (by decide) (fun c17 => ?_) (fun c17 => ?_)
          · skip
            have c17 := zeq c17
            refine lv_iconst (v := (-1)) hx hb dX1_key_83 (by decide) ?_
            exact W.iret (v := (-1)) hx hb hr (fun t9 ht9 hW9 => ⟨⟨(-1), (X, xt, xn), rfl, br_f (fun h => by obtain ⟨g1, g2, -, g4⟩ := h; unfold q_time at g2; omega) ⟨rfl, rfl⟩, by rw [ht9]; exact hP, va_K.moved hW9.alike hK, hD⟩, hS.F ht9⟩) hS.2.2 dX1_key_84
          · skip
            have c17 := zne c17
            refine lv_iload hx hb dX1_key_53 (lv_at hl 0 rfl) ?_
            refine lv_if_eq (tgt := 83) hx hb dX1_key_55 (by decide) (fun c18 => ?_) (fun c18 => ?_)
            · skip
              have c18 := c18
              refine lv_iconst (v := (-1)) hx hb dX1_key_83 (by decide) ?_
              exact W.iret (v := (-1)) hx hb hr (fun t9 ht9 hW9 => ⟨⟨(-1), (X, xt, xn), rfl, br_f (fun h => by obtain ⟨g1, g2, -, g4⟩ := h; unfold q_time at g2; omega) ⟨rfl, rfl⟩, by rw [ht9]; exact hP, va_K.moved hW9.alike hK, hD⟩, hS.F ht9⟩) hS.2.2 dX1_key_84
            · skip
              have c18 := c18
              exact absurd c18 (by decide)
        · skip
          have c16 := znle c16
          refine lv_iconst (v := (nI 1)) hx hb dX1_key_37 (by decide) ?_
          refine lv_goto (tgt := 42) hx hb dX1_key_38 (by decide) ?_
          refine lv_istore (lv' := [(5, .int (nI 1)), (0, .ref g0), (1, .int t), (2, .int x1), (3, .int x2), (4, .int x3)]) hx hb dX1_key_42 hl (by decide) rfl (fun ls hl => ?_)
          refine lv_aload_n hx hb dX1_key_44 rfl (lv_at hl 1 rfl) ?_
          refine va_get (D := (dC, dI)) (ci := 1) (v := .int (nI X)) (C := RX1) (T := TX1) (N := 14) hx hb hts (by decide +kernel) hown hK hP 0 rfl rfl 4 (by decide) (hts (.fieldLink RX1 48 "MotionDeskModel" "textKeys" "I") (by decide +kernel)) (fun _ h9 => h9) rfl dX1_key_45 ?_
          refine lv_bipush (v := (nI 32)) hx hb dX1_key_48 (by decide) ?_
          refine lv_icmp_eq (tgt := 83) hx hb dX1_key_50 (by decide) (fun c19 => ?_) (fun c19 => ?_)
          · skip
            have c19 := zeq c19
            refine lv_iconst (v := (-1)) hx hb dX1_key_83 (by decide) ?_
            exact W.iret (v := (-1)) hx hb hr (fun t9 ht9 hW9 => ⟨⟨(-1), (X, xt, xn), rfl, br_f (fun h => by obtain ⟨g1, g2, -, g4⟩ := h; unfold q_time at g2; omega) ⟨rfl, rfl⟩, by rw [ht9]; exact hP, va_K.moved hW9.alike hK, hD⟩, hS.F ht9⟩) hS.2.2 dX1_key_84
          · skip
            have c19 := zne c19
            refine lv_iload hx hb dX1_key_53 (lv_at hl 0 rfl) ?_
            refine lv_if_eq (tgt := 83) hx hb dX1_key_55 (by decide) (fun c20 => ?_) (fun c20 => ?_)
            · skip
              have c20 := c20
              exact absurd c20 (by decide)
            · skip
              have c20 := c20
              refine lv_iconst (v := (nI 0)) hx hb dX1_key_58 (by decide) ?_
              refine lv_iload_n hx hb dX1_key_59 rfl (lv_at hl 3 rfl) ?_
              refine vp_callSi (W.runS (As := [.int (nI 0), .int x1]) (rest := []) ⟨hx, hb, hml, hown, hts⟩ (cm_fits l (nI 0) x1) (va_cwS 2 hts gX1_key_X1_fits rfl rfl rfl (by decide +kernel) ⟨Nat.le_of_ble_eq_true rfl, Nat.le_of_ble_eq_true rfl⟩) preEq rfl rfl hl.1 rfl (lv_room (Nat.le_of_ble_eq_true rfl)) dX1_key_60 ⟨Nat.le_of_ble_eq_true rfl, Nat.le_of_ble_eq_true rfl⟩) (fun bo21 h_bo21 => ?_)
              refine lv_if_eq (tgt := 83) hx hb dX1_key_63 (by decide) (fun c22 => ?_) (fun c22 => ?_)
              · skip
                have c22 := btF h_bo21 c22
                refine lv_iconst (v := (-1)) hx hb dX1_key_83 (by decide) ?_
                exact W.iret (v := (-1)) hx hb hr (fun t9 ht9 hW9 => ⟨⟨(-1), (X, xt, xn), rfl, br_f (fun h => c22 h.2.2.1.1) ⟨rfl, rfl⟩, by rw [ht9]; exact hP, va_K.moved hW9.alike hK, hD⟩, hS.F ht9⟩) hS.2.2 dX1_key_84
              · skip
                have c22 := btT h_bo21 c22
                refine lv_iconst (v := (nI 0)) hx hb dX1_key_66 (by decide) ?_
                refine lv_iload_n hx hb dX1_key_67 rfl (lv_at hl 4 rfl) ?_
                refine vp_callSi (W.runS (As := [.int (nI 0), .int x2]) (rest := []) ⟨hx, hb, hml, hown, hts⟩ (cm_fits l (nI 0) x2) (va_cwS 2 hts gX1_key_X1_fits rfl rfl rfl (by decide +kernel) ⟨Nat.le_of_ble_eq_true rfl, Nat.le_of_ble_eq_true rfl⟩) preEq rfl rfl hl.1 rfl (lv_room (Nat.le_of_ble_eq_true rfl)) dX1_key_68 ⟨Nat.le_of_ble_eq_true rfl, Nat.le_of_ble_eq_true rfl⟩) (fun bo23 h_bo23 => ?_)
                refine lv_if_eq (tgt := 83) hx hb dX1_key_71 (by decide) (fun c24 => ?_) (fun c24 => ?_)
                · skip
                  have c24 := btF h_bo23 c24
                  refine lv_iconst (v := (-1)) hx hb dX1_key_83 (by decide) ?_
                  exact W.iret (v := (-1)) hx hb hr (fun t9 ht9 hW9 => ⟨⟨(-1), (X, xt, xn), rfl, br_f (fun h => c24 h.2.2.1.2.1) ⟨rfl, rfl⟩, by rw [ht9]; exact hP, va_K.moved hW9.alike hK, hD⟩, hS.F ht9⟩) hS.2.2 dX1_key_84
                · skip
                  have c24 := btT h_bo23 c24
                  refine lv_iconst (v := (nI 0)) hx hb dX1_key_74 (by decide) ?_
                  refine lv_iload hx hb dX1_key_75 (lv_at hl 5 rfl) ?_
                  refine vp_callSi (W.runS (As := [.int (nI 0), .int x3]) (rest := []) ⟨hx, hb, hml, hown, hts⟩ (cm_fits l (nI 0) x3) (va_cwS 2 hts gX1_key_X1_fits rfl rfl rfl (by decide +kernel) ⟨Nat.le_of_ble_eq_true rfl, Nat.le_of_ble_eq_true rfl⟩) preEq rfl rfl hl.1 rfl (lv_room (Nat.le_of_ble_eq_true rfl)) dX1_key_77 ⟨Nat.le_of_ble_eq_true rfl, Nat.le_of_ble_eq_true rfl⟩) (fun bo25 h_bo25 => ?_)
                  refine lv_if_ne (tgt := 85) hx hb dX1_key_80 (by decide) (fun c26 => ?_) (fun c26 => ?_)
                  · skip
                    have c26 := btT h_bo25 c26
                    have hok : (X < 32 ∧ q_time t ∧ q_can (nI 0) x1 x2 x3 ∧ (0 < X → (xt (X - 1)).toInt < t.toInt)) := ⟨by omega, by unfold q_time; omega, ⟨c22, c24, c26⟩, fun h => by omega⟩
                    refine lv_aload_n hx hb dX1_key_85 rfl (lv_at hl 1 rfl) ?_
                    refine va_get (D := (dC, dI)) (ci := 1) (v := .ref b8) (C := RX1) (T := TX1) (N := 14) hx hb hts (by decide +kernel) hown hK hP 0 rfl rfl 5 (by decide) (hts (.fieldLink RX1 13 "MotionDeskModel" "textTimes" "[I") (by decide +kernel)) (fun _ h9 => h9) rfl dX1_key_86 ?_
                    refine lv_aload_n hx hb dX1_key_89 rfl (lv_at hl 1 rfl) ?_
                    refine va_get (D := (dC, dI)) (ci := 1) (v := .int (nI X)) (C := RX1) (T := TX1) (N := 14) hx hb hts (by decide +kernel) hown hK hP 0 rfl rfl 4 (by decide) (hts (.fieldLink RX1 48 "MotionDeskModel" "textKeys" "I") (by decide +kernel)) (fun _ h9 => h9) rfl dX1_key_90 ?_
                    refine lv_iload_n hx hb dX1_key_93 rfl (lv_at hl 2 rfl) ?_
                    refine va_iast hx hb hK hP hD hS 8 0 rfl rfl (vp_in_nI (by omega) (by omega)) dX1_key_94 (fun H locs hP hD hS => ?_)
                    rw [nI_clamp (show X < 2 ^ 31 by omega)] at hP hD
                    replace hP : va_P (dC, dI) vwCl (wM cA g0 b1 b2 b3 b4 b5 b6 b7 b8 b9 N T X nw fv tn tw th tk kt kn (upd xt X t) xn) H := hP
                    replace hD : va_D A (wM cA g0 b1 b2 b3 b4 b5 b6 b7 b8 b9 N T X nw fv tn tw th tk kt kn (upd xt X t) xn) := hD
                    refine lv_aload_n hx hb dX1_key_95 rfl (lv_at hl 1 rfl) ?_
                    refine va_get (D := (dC, dI)) (ci := 1) (v := .ref b9) (C := RX1) (T := TX1) (N := 14) hx hb hts (by decide +kernel) hown hK hP 0 rfl rfl 6 (by decide) (hts (.fieldLink RX1 16 "MotionDeskModel" "textValues" "[I") (by decide +kernel)) (fun _ h9 => h9) rfl dX1_key_96 ?_
                    refine lv_iconst (v := (nI 3)) hx hb dX1_key_99 (by decide) ?_
                    refine lv_aload_n hx hb dX1_key_100 rfl (lv_at hl 1 rfl) ?_
                    refine va_get (D := (dC, dI)) (ci := 1) (v := .int (nI X)) (C := RX1) (T := TX1) (N := 14) hx hb hts (by decide +kernel) hown hK hP 0 rfl rfl 4 (by decide) (hts (.fieldLink RX1 48 "MotionDeskModel" "textKeys" "I") (by decide +kernel)) (fun _ h9 => h9) rfl dX1_key_101 ?_
                    refine lv_imul hx hb dX1_key_104 ?_
                    refine tp_i (y := nI (X * 3)) (by rw [pk_mul, Nat.mul_comm]) ?_
                    refine lv_iload_n hx hb dX1_key_105 rfl (lv_at hl 3 rfl) ?_
                    refine va_iast hx hb hK hP hD hS 9 0 rfl rfl (vp_in_nI (by omega) (by omega)) dX1_key_106 (fun H locs hP hD hS => ?_)
                    rw [nI_clamp (show X * 3 < 2 ^ 31 by omega)] at hP hD
                    replace hP : va_P (dC, dI) vwCl (wM cA g0 b1 b2 b3 b4 b5 b6 b7 b8 b9 N T X nw fv tn tw th tk kt kn (upd xt X t) (upd xn (X * 3) x1)) H := hP
                    replace hD : va_D A (wM cA g0 b1 b2 b3 b4 b5 b6 b7 b8 b9 N T X nw fv tn tw th tk kt kn (upd xt X t) (upd xn (X * 3) x1)) := hD
                    refine lv_aload_n hx hb dX1_key_107 rfl (lv_at hl 1 rfl) ?_
                    refine va_get (D := (dC, dI)) (ci := 1) (v := .ref b9) (C := RX1) (T := TX1) (N := 14) hx hb hts (by decide +kernel) hown hK hP 0 rfl rfl 6 (by decide) (hts (.fieldLink RX1 16 "MotionDeskModel" "textValues" "[I") (by decide +kernel)) (fun _ h9 => h9) rfl dX1_key_108 ?_
                    refine lv_iconst (v := (nI 3)) hx hb dX1_key_111 (by decide) ?_
                    refine lv_aload_n hx hb dX1_key_112 rfl (lv_at hl 1 rfl) ?_
                    refine va_get (D := (dC, dI)) (ci := 1) (v := .int (nI X)) (C := RX1) (T := TX1) (N := 14) hx hb hts (by decide +kernel) hown hK hP 0 rfl rfl 4 (by decide) (hts (.fieldLink RX1 48 "MotionDeskModel" "textKeys" "I") (by decide +kernel)) (fun _ h9 => h9) rfl dX1_key_113 ?_
                    refine lv_imul hx hb dX1_key_116 ?_
                    refine tp_i (y := nI (X * 3)) (by rw [pk_mul, Nat.mul_comm]) ?_
                    refine lv_iconst (v := (nI 1)) hx hb dX1_key_117 (by decide) ?_
                    refine lv_iadd hx hb dX1_key_118 ?_
                    refine tp_i (y := nI (X * 3 + 1)) (nI_add _ 1) ?_
                    refine lv_iload_n hx hb dX1_key_119 rfl (lv_at hl 4 rfl) ?_
                    refine va_iast hx hb hK hP hD hS 9 0 rfl rfl (vp_in_nI (by omega) (by omega)) dX1_key_120 (fun H locs hP hD hS => ?_)
                    rw [nI_clamp (show X * 3 + 1 < 2 ^ 31 by omega)] at hP hD
                    replace hP : va_P (dC, dI) vwCl (wM cA g0 b1 b2 b3 b4 b5 b6 b7 b8 b9 N T X nw fv tn tw th tk kt kn (upd xt X t) (upd (upd xn (X * 3) x1) (X * 3 + 1) x2)) H := hP
                    replace hD : va_D A (wM cA g0 b1 b2 b3 b4 b5 b6 b7 b8 b9 N T X nw fv tn tw th tk kt kn (upd xt X t) (upd (upd xn (X * 3) x1) (X * 3 + 1) x2)) := hD
                    refine lv_aload_n hx hb dX1_key_121 rfl (lv_at hl 1 rfl) ?_
                    refine va_get (D := (dC, dI)) (ci := 1) (v := .ref b9) (C := RX1) (T := TX1) (N := 14) hx hb hts (by decide +kernel) hown hK hP 0 rfl rfl 6 (by decide) (hts (.fieldLink RX1 16 "MotionDeskModel" "textValues" "[I") (by decide +kernel)) (fun _ h9 => h9) rfl dX1_key_122 ?_
                    refine lv_iconst (v := (nI 3)) hx hb dX1_key_125 (by decide) ?_
                    refine lv_aload_n hx hb dX1_key_126 rfl (lv_at hl 1 rfl) ?_
                    refine va_get (D := (dC, dI)) (ci := 1) (v := .int (nI X)) (C := RX1) (T := TX1) (N := 14) hx hb hts (by decide +kernel) hown hK hP 0 rfl rfl 4 (by decide) (hts (.fieldLink RX1 48 "MotionDeskModel" "textKeys" "I") (by decide +kernel)) (fun _ h9 => h9) rfl dX1_key_127 ?_
                    refine lv_imul hx hb dX1_key_130 ?_
                    refine tp_i (y := nI (X * 3)) (by rw [pk_mul, Nat.mul_comm]) ?_
                    refine lv_iconst (v := (nI 2)) hx hb dX1_key_131 (by decide) ?_
                    refine lv_iadd hx hb dX1_key_132 ?_
                    refine tp_i (y := nI (X * 3 + 2)) (nI_add _ 2) ?_
                    refine lv_iload hx hb dX1_key_133 (lv_at hl 5 rfl) ?_
                    refine va_iast hx hb hK hP hD hS 9 0 rfl rfl (vp_in_nI (by omega) (by omega)) dX1_key_135 (fun H locs hP hD hS => ?_)
                    rw [nI_clamp (show X * 3 + 2 < 2 ^ 31 by omega)] at hP hD
                    replace hP : va_P (dC, dI) vwCl (wM cA g0 b1 b2 b3 b4 b5 b6 b7 b8 b9 N T X nw fv tn tw th tk kt kn (upd xt X t) (upd (upd (upd xn (X * 3) x1) (X * 3 + 1) x2) (X * 3 + 2) x3)) H := hP
                    replace hD : va_D A (wM cA g0 b1 b2 b3 b4 b5 b6 b7 b8 b9 N T X nw fv tn tw th tk kt kn (upd xt X t) (upd (upd (upd xn (X * 3) x1) (X * 3 + 1) x2) (X * 3 + 2) x3)) := hD
                    refine lv_aload_n hx hb dX1_key_136 rfl (lv_at hl 1 rfl) ?_
                    refine lv_dup hx hb dX1_key_137 rfl ?_
                    refine va_get (D := (dC, dI)) (ci := 1) (v := .int (nI X)) (C := RX1) (T := TX1) (N := 14) hx hb hts (by decide +kernel) hown hK hP 0 rfl rfl 4 (by decide) (hts (.fieldLink RX1 48 "MotionDeskModel" "textKeys" "I") (by decide +kernel)) (fun _ h9 => h9) rfl dX1_key_138 ?_
                    refine lv_iconst (v := (nI 1)) hx hb dX1_key_141 (by decide) ?_
                    refine lv_iadd hx hb dX1_key_142 ?_
                    refine tp_i (y := nI (X + 1)) (nI_1 X) ?_
                    refine va_put (D := (dC, dI)) (ci := 1) (v := .int (nI (X + 1))) (ty := .int) (C := RX1) (T := TX1) (N := 14) hx hb hts (by decide +kernel) tyX1 tyX1_ok nmX1 hown hK hP hD hS 0 rfl rfl 4 (by decide) (hts (.fieldLink RX1 48 "MotionDeskModel" "textKeys" "I") (by decide +kernel)) (fun _ h9 => h9) rfl (by decide +kernel) rfl rfl (Nat.le_of_ble_eq_true rfl) dX1_key_143 (fun H locs hP hD hS => ?_)
                    replace hP : va_P (dC, dI) vwCl (wM cA g0 b1 b2 b3 b4 b5 b6 b7 b8 b9 N T (X + 1) nw fv tn tw th tk kt kn (upd xt X t) (upd (upd (upd xn (X * 3) x1) (X * 3 + 1) x2) (X * 3 + 2) x3)) H := hP
                    replace hD : va_D A (wM cA g0 b1 b2 b3 b4 b5 b6 b7 b8 b9 N T (X + 1) nw fv tn tw th tk kt kn (upd xt X t) (upd (upd (upd xn (X * 3) x1) (X * 3 + 1) x2) (X * 3 + 2) x3)) := hD
                    refine lv_aload_n hx hb dX1_key_146 rfl (lv_at hl 1 rfl) ?_
                    refine va_get (D := (dC, dI)) (ci := 1) (v := .int (nI (X + 1))) (C := RX1) (T := TX1) (N := 14) hx hb hts (by decide +kernel) hown hK hP 0 rfl rfl 4 (by decide) (hts (.fieldLink RX1 48 "MotionDeskModel" "textKeys" "I") (by decide +kernel)) (fun _ h9 => h9) rfl dX1_key_147 ?_
                    exact W.iret (v := nI (X + 1)) hx hb hr (fun t9 ht9 hW9 => ⟨⟨nI (X + 1), ((X + 1), (upd xt X t), (upd (upd (upd xn (X * 3) x1) (X * 3 + 1) x2) (X * 3 + 2) x3)), rfl, br_t hok ⟨rfl, rfl⟩, by rw [ht9]; exact hP, va_K.moved hW9.alike hK, hD⟩, hS.F ht9⟩) hS.2.2 dX1_key_150
                  · skip
                    have c26 := btF h_bo25 c26
                    refine lv_iconst (v := (-1)) hx hb dX1_key_83 (by decide) ?_
                    exact W.iret (v := (-1)) hx hb hr (fun t9 ht9 hW9 => ⟨⟨(-1), (X, xt, xn), rfl, br_f (fun h => c26 h.2.2.1.2.2) ⟨rfl, rfl⟩, by rw [ht9]; exact hP, va_K.moved hW9.alike hK, hD⟩, hS.F ht9⟩) hS.2.2 dX1_key_84
set_option maxHeartbeats 4000000 in
set_option maxRecDepth 100000 in
/-- count(what) -/
theorem cm_count (l : Launch) (dC : Nat → ClassId) (dI : Nat → Nat → Nat) (cA : ClassId) (g0 b1 b2 b3 b4 b5 b6 b7 b8 b9 N T X : Nat) (nw : Int32) (fv tn tw th tk kt kn xt xn : Nat → Int32) (sz : Nat) (a : Int32) (hT : T ≤ 32) : Met l yX1_count wsX1_count ({ frames := 0, cells := 0, slots := 0, locals := 0 }) (va_Pc [.ref g0, .int a] (eM sz dC dI cA g0 b1 b2 b3 b4 b5 b6 b7 b8 b9 N T X nw fv tn tw th tk kt kn xt xn)) (va_Qi (fun (r : Int32) (u : Unit) => r = if a.toInt = 0 then nI N else if a.toInt = 1 then nI T else if a.toInt = 2 then bx_sum tk T else if a.toInt = 3 then nw else if a.toInt = 4 then nI X else -1) (fun u => bM (va_A (wM cA g0 b1 b2 b3 b4 b5 b6 b7 b8 b9 N T X nw fv tn tw th tk kt kn xt xn) sz) dC dI cA g0 b1 b2 b3 b4 b5 b6 b7 b8 b9 N T X nw fv tn tw th tk kt kn xt xn) (va_A (wM cA g0 b1 b2 b3 b4 b5 b6 b7 b8 b9 N T X nw fv tn tw th tk kt kn xt xn) sz)) 0 0 (va_A (wM cA g0 b1 b2 b3 b4 b5 b6 b7 b8 b9 N T X nw fv tn tw th tk kt kn xt xn) sz) := by
  refine Met.ofW (cc := cX1_count) (maxL := 4) (ret := (some .int)) (by decide) rfl ?_
  intro p e s m args below meth c s₁ B hml hv
  obtain ⟨rfl, hsz, hP, hK, hD0⟩ := hv
  have hx := B.exec
  have hb := B.bytes
  have hr := B.returns
  have hts := atoms_spec (ws := wsX1_count) B.pre
  have hown : s.vm.findClass RX1 = some m.cls := findClass_of_methodNamed B.named
  have hlocks := B.notSynchronized
  subst hsz
  have hD := hD0.self (sz := s.heap.size)
  generalize hAe : va_A (wM cA g0 b1 b2 b3 b4 b5 b6 b7 b8 b9 N T X nw fv tn tw th tk kt kn xt xn) s.heap.size = A at hD ⊢
  have hA : ∀ q : Nat, s.heap.size ≤ q → A q := fun q h => by rw [← hAe]; exact Or.inr h
  have hS : va_S A s.heap s.heap [] := va_S.rf
  have hP : va_P (dC, dI) vwCl (wM cA g0 b1 b2 b3 b4 b5 b6 b7 b8 b9 N T X nw fv tn tw th tk kt kn xt xn) s.heap := hP
  have hl := lv_entry ([.ref g0, .int a]) (n := 4) (Nat.le_of_ble_eq_true rfl)
  rw [lg_entry_eq]
  generalize (lg_sl ([.ref g0, .int a]) ++ List.replicate (4 - (lg_sl ([.ref g0, .int a])).length) Slot.unset).toArray = ls at hl ⊢
  have hl : lv_has ls 4 [(0, .ref g0), (1, .int a)] := hl
  have t2 : (nI T).toInt = T := nI_toInt (by omega)
  refine lv_aload_n hx hb dX1_count_0 rfl (lv_at hl 0 rfl) ?_
  refine lv_iconst (v := (nI 0)) hx hb dX1_count_1 (by decide) ?_
  refine va_put (D := (dC, dI)) (ci := 1) (v := .int (nI 0)) (ty := .int) (C := RX1) (T := TX1) (N := 14) hx hb hts (by decide +kernel) tyX1 tyX1_ok nmX1 hown hK hP hD hS 0 rfl rfl 0 (by decide) (hts (.fieldLink RX1 42 "MotionDeskModel" "thrown" "I") (by decide +kernel)) (fun _ h9 => h9) rfl (by decide +kernel) rfl rfl (Nat.le_of_ble_eq_true rfl) dX1_count_2 (fun H locs hP hD hS => ?_)
  replace hP : va_P (dC, dI) vwCl (wM cA g0 b1 b2 b3 b4 b5 b6 b7 b8 b9 N T X nw fv tn tw th tk kt kn xt xn) H := hP
  replace hD : va_D A (wM cA g0 b1 b2 b3 b4 b5 b6 b7 b8 b9 N T X nw fv tn tw th tk kt kn xt xn) := hD
  refine lv_iconst (v := (nI 0)) hx hb dX1_count_5 (by decide) ?_
  refine lv_istore_n (lv' := [(2, .int (nI 0)), (0, .ref g0), (1, .int a)]) hx hb dX1_count_6 rfl hl (by decide) rfl (fun ls hl => ?_)
  refine lv_iconst (v := (nI 0)) hx hb dX1_count_7 (by decide) ?_
  refine lv_istore_n (lv' := [(3, .int (nI 0)), (2, .int (nI 0)), (0, .ref g0), (1, .int a)]) hx hb dX1_count_8 rfl hl (by decide) rfl (fun ls hl => ?_)
  obtain ⟨n, k, hn, hl9⟩ : ∃ n k : Nat, k + n = T ∧ lv_has ls 4 [(3, .int (nI k)), (2, .int (bx_sum tk k)), (0, .ref g0), (1, .int a)] := ⟨T, 0, by omega, hl⟩
  clear hl; have hl := hl9; clear hl9
  induction n generalizing k ls with
  | zero =>
    have t1 : (nI k).toInt = k := nI_toInt (by omega)
    refine lv_iload_n hx hb dX1_count_9 rfl (lv_at hl 0 rfl) ?_
    refine lv_aload_n hx hb dX1_count_10 rfl (lv_at hl 2 rfl) ?_
    refine va_get (D := (dC, dI)) (ci := 1) (v := .int (nI T)) (C := RX1) (T := TX1) (N := 14) hx hb hts (by decide +kernel) hown hK hP 0 rfl rfl 7 (by decide) (hts (.fieldLink RX1 58 "MotionDeskModel" "tracks" "I") (by decide +kernel)) (fun _ h9 => h9) rfl dX1_count_11 ?_
    refine lv_icmp_ge (tgt := 32) hx hb dX1_count_14 (by decide) (fun c1 => ?_) (fun c1 => ?_)
    · skip
      have c1 := zle c1
      refine lv_iload_n hx hb dX1_count_32 rfl (lv_at hl 3 rfl) ?_
      by_cases hs0 : a.toInt = 0
      · refine lv_tableIn (off := 35) (tgt := 68) hx hb dX1_count_33 (by omega) (by omega) (by rw [hs0]; rfl) (by decide) ?_
        refine lv_aload_n hx hb dX1_count_68 rfl (lv_at hl 2 rfl) ?_
        refine va_get (D := (dC, dI)) (ci := 1) (v := .int (nI N)) (C := RX1) (T := TX1) (N := 14) hx hb hts (by decide +kernel) hown hK hP 0 rfl rfl 1 (by decide) (hts (.fieldLink RX1 37 "MotionDeskModel" "nodes" "I") (by decide +kernel)) (fun _ h9 => h9) rfl dX1_count_69 ?_
        exact W.iret (v := nI N) hx hb hr (fun t9 ht9 hW9 => ⟨⟨nI N, (), rfl, by rw [if_pos hs0], by rw [ht9]; exact hP, va_K.moved hW9.alike hK, hD⟩, hS.F ht9⟩) hS.2.2 dX1_count_72
      by_cases hs1 : a.toInt = 1
      · refine lv_tableIn (off := 40) (tgt := 73) hx hb dX1_count_33 (by omega) (by omega) (by rw [hs1]; rfl) (by decide) ?_
        refine lv_aload_n hx hb dX1_count_73 rfl (lv_at hl 2 rfl) ?_
        refine va_get (D := (dC, dI)) (ci := 1) (v := .int (nI T)) (C := RX1) (T := TX1) (N := 14) hx hb hts (by decide +kernel) hown hK hP 0 rfl rfl 7 (by decide) (hts (.fieldLink RX1 58 "MotionDeskModel" "tracks" "I") (by decide +kernel)) (fun _ h9 => h9) rfl dX1_count_74 ?_
        exact W.iret (v := nI T) hx hb hr (fun t9 ht9 hW9 => ⟨⟨nI T, (), rfl, by rw [if_neg hs0, if_pos hs1], by rw [ht9]; exact hP, va_K.moved hW9.alike hK, hD⟩, hS.F ht9⟩) hS.2.2 dX1_count_77
      by_cases hs2 : a.toInt = 2
      · refine lv_tableIn (off := 45) (tgt := 78) hx hb dX1_count_33 (by omega) (by omega) (by rw [hs2]; rfl) (by decide) ?_
        refine lv_iload_n hx hb dX1_count_78 rfl (lv_at hl 1 rfl) ?_
        exact W.iret (v := bx_sum tk k) hx hb hr (fun t9 ht9 hW9 => ⟨⟨bx_sum tk k, (), rfl, by rw [if_neg hs0, if_neg hs1, if_pos hs2, show k = T by omega], by rw [ht9]; exact hP, va_K.moved hW9.alike hK, hD⟩, hS.F ht9⟩) hS.2.2 dX1_count_79
      by_cases hs3 : a.toInt = 3
      · refine lv_tableIn (off := 47) (tgt := 80) hx hb dX1_count_33 (by omega) (by omega) (by rw [hs3]; rfl) (by decide) ?_
        refine lv_aload_n hx hb dX1_count_80 rfl (lv_at hl 2 rfl) ?_
        refine va_get (D := (dC, dI)) (ci := 1) (v := .int nw) (C := RX1) (T := TX1) (N := 14) hx hb hts (by decide +kernel) hown hK hP 0 rfl rfl 3 (by decide) (hts (.fieldLink RX1 74 "MotionDeskModel" "now" "I") (by decide +kernel)) (fun _ h9 => h9) rfl dX1_count_81 ?_
        exact W.iret (v := nw) hx hb hr (fun t9 ht9 hW9 => ⟨⟨nw, (), rfl, by rw [if_neg hs0, if_neg hs1, if_neg hs2, if_pos hs3], by rw [ht9]; exact hP, va_K.moved hW9.alike hK, hD⟩, hS.F ht9⟩) hS.2.2 dX1_count_84
      by_cases hs4 : a.toInt = 4
      · refine lv_tableIn (off := 52) (tgt := 85) hx hb dX1_count_33 (by omega) (by omega) (by rw [hs4]; rfl) (by decide) ?_
        refine lv_aload_n hx hb dX1_count_85 rfl (lv_at hl 2 rfl) ?_
        refine va_get (D := (dC, dI)) (ci := 1) (v := .int (nI X)) (C := RX1) (T := TX1) (N := 14) hx hb hts (by decide +kernel) hown hK hP 0 rfl rfl 4 (by decide) (hts (.fieldLink RX1 48 "MotionDeskModel" "textKeys" "I") (by decide +kernel)) (fun _ h9 => h9) rfl dX1_count_86 ?_
        exact W.iret (v := nI X) hx hb hr (fun t9 ht9 hW9 => ⟨⟨nI X, (), rfl, by rw [if_neg hs0, if_neg hs1, if_neg hs2, if_neg hs3, if_pos hs4], by rw [ht9]; exact hP, va_K.moved hW9.alike hK, hD⟩, hS.F ht9⟩) hS.2.2 dX1_count_89
      refine lv_tableOut (tgt := 90) hx hb dX1_count_33 (by omega) (by decide) ?_
      refine lv_iconst (v := (-1)) hx hb dX1_count_90 (by decide) ?_
      exact W.iret (v := (-1)) hx hb hr (fun t9 ht9 hW9 => ⟨⟨(-1), (), rfl, by rw [if_neg hs0, if_neg hs1, if_neg hs2, if_neg hs3, if_neg hs4], by rw [ht9]; exact hP, va_K.moved hW9.alike hK, hD⟩, hS.F ht9⟩) hS.2.2 dX1_count_91
    · skip
      have c1 := znle c1
      exfalso; omega
  | succ n ih =>
    have t1 : (nI k).toInt = k := nI_toInt (by omega)
    refine lv_iload_n hx hb dX1_count_9 rfl (lv_at hl 0 rfl) ?_
    refine lv_aload_n hx hb dX1_count_10 rfl (lv_at hl 2 rfl) ?_
    refine va_get (D := (dC, dI)) (ci := 1) (v := .int (nI T)) (C := RX1) (T := TX1) (N := 14) hx hb hts (by decide +kernel) hown hK hP 0 rfl rfl 7 (by decide) (hts (.fieldLink RX1 58 "MotionDeskModel" "tracks" "I") (by decide +kernel)) (fun _ h9 => h9) rfl dX1_count_11 ?_
    refine lv_icmp_ge (tgt := 32) hx hb dX1_count_14 (by decide) (fun c2 => ?_) (fun c2 => ?_)
    · skip
      have c2 := zle c2
      exfalso; omega
    · skip
      have c2 := znle c2
      refine lv_iload_n hx hb dX1_count_17 rfl (lv_at hl 1 rfl) ?_
      refine lv_aload_n hx hb dX1_count_18 rfl (lv_at hl 2 rfl) ?_
      refine va_get (D := (dC, dI)) (ci := 1) (v := .ref b5) (C := RX1) (T := TX1) (N := 14) hx hb hts (by decide +kernel) hown hK hP 0 rfl rfl 11 (by decide) (hts (.fieldLink RX1 28 "MotionDeskModel" "keysOf" "[I") (by decide +kernel)) (fun _ h9 => h9) rfl dX1_count_19 ?_
      refine lv_iload_n hx hb dX1_count_22 rfl (lv_at hl 0 rfl) ?_
      refine va_iald hx hb hK hP 5 0 rfl rfl (vp_in_nI (by omega) (by omega)) dX1_count_23 ?_
      refine tp_i (y := (tk k)) (by rw [nI_clamp (by omega)]) ?_
      refine lv_iadd hx hb dX1_count_24 ?_
      refine tp_i (y := bx_sum tk (k + 1)) (rfl) ?_
      refine lv_istore_n (lv' := [(2, .int (bx_sum tk (k + 1))), (3, .int (nI k)), (0, .ref g0), (1, .int a)]) hx hb dX1_count_25 rfl hl (by decide) rfl (fun ls hl => ?_)
      refine lv_iinc (v := nI (k + 1)) (lv' := [(3, .int (nI (k + 1))), (2, .int (bx_sum tk (k + 1))), (0, .ref g0), (1, .int a)]) hx hb dX1_count_26 hl (k := 1) rfl (nI_1 k) (by decide) rfl (fun ls hl => ?_)
      refine lv_goto (tgt := 9) hx hb dX1_count_29 (by decide) ?_
      exact ih (ls := ls) (k := k + 1) (by omega) hl
