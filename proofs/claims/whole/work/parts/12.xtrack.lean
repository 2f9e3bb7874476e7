set_option maxHeartbeats 4000000 in
set_option maxRecDepth 100000 in
/-- track(node, what, how) -/
theorem cx_track (l : Launch) (dC : Nat → ClassId) (dI : Nat → Nat → Nat) (cA : ClassId) (h0 a1 a2 a3 a4 a5 a6 a7 a8 a9 N T X : Nat) (nw : Int32) (fv tn tw th tk kt kn xt xn : Nat → Int32) (sz : Nat) (x y z : Int32) (hN : N ≤ 48) (hT : T ≤ 32) (hX : X ≤ 32) : Met l yX0_track wsX0_track ({ frames := 3, cells := 0, slots := 0, locals := 69 }) (va_Pc [.ref h0, .int x, .int y, .int z] (eX sz dC dI cA h0 a1 a2 a3 a4 a5 a6 a7 a8 a9 N T X nw fv tn tw th tk kt kn xt xn)) (va_Qi (fun (r : Int32) (u : Nat × (Nat → Int32) × (Nat → Int32) × (Nat → Int32) × (Nat → Int32) × (Nat → Int32) × (Nat → Int32)) => ((X ≠ 0 ∧ T < 32 ∧ q_node N x ∧ q_what y ∧ q_how z ∧ q_all y xn X) → r = nI T ∧ u = (T + 1, upd tn T x, upd tw T y, upd th T z, upd tk T (nI X), va_cpy xt kt 0 (T * 32) X, va_cpy xn kn 0 (T * 32 * 3) (X * 3))) ∧ (¬ (X ≠ 0 ∧ T < 32 ∧ q_node N x ∧ q_what y ∧ q_how z ∧ q_all y xn X) → r = -1 ∧ u = (T, tn, tw, th, tk, kt, kn))) (fun u => bX (va_A (wX cA h0 a1 a2 a3 a4 a5 a6 a7 a8 a9 N T X nw fv tn tw th tk kt kn xt xn) sz) dC dI cA h0 a1 a2 a3 a4 a5 a6 a7 a8 a9 N u.1 0 nw fv u.2.1 u.2.2.1 u.2.2.2.1 u.2.2.2.2.1 u.2.2.2.2.2.1 u.2.2.2.2.2.2 xt xn) (va_A (wX cA h0 a1 a2 a3 a4 a5 a6 a7 a8 a9 N T X nw fv tn tw th tk kt kn xt xn) sz)) 0 0 (va_A (wX cA h0 a1 a2 a3 a4 a5 a6 a7 a8 a9 N T X nw fv tn tw th tk kt kn xt xn) sz) := by
  refine Met.ofW (cc := cX0_track) (maxL := 7) (ret := (some .int)) (by decide) rfl ?_
  intro p e s m args below meth c s₁ B hml hv
  obtain ⟨rfl, hsz, hP, hK, hD0⟩ := hv
  have hx := B.exec
  have hb := B.bytes
  have hr := B.returns
  have hts := atoms_spec (ws := wsX0_track) B.pre
  have hown : s.vm.findClass RX0 = some m.cls := findClass_of_methodNamed B.named
  have hlocks := B.notSynchronized
  subst hsz
  have hD := hD0.self (sz := s.heap.size)
  generalize hAe : va_A (wX cA h0 a1 a2 a3 a4 a5 a6 a7 a8 a9 N T X nw fv tn tw th tk kt kn xt xn) s.heap.size = A at hD ⊢
  have hA : ∀ q : Nat, s.heap.size ≤ q → A q := fun q h => by rw [← hAe]; exact Or.inr h
  have hS : va_S A s.heap s.heap [] := va_S.rf
  have hP : va_P (dC, dI) vwCl (wX cA h0 a1 a2 a3 a4 a5 a6 a7 a8 a9 N T X nw fv tn tw th tk kt kn xt xn) s.heap := hP
  have hl := lv_entry ([.ref h0, .int x, .int y, .int z]) (n := 7) (Nat.le_of_ble_eq_true rfl)
  rw [lg_entry_eq]
  generalize (lg_sl ([.ref h0, .int x, .int y, .int z]) ++ List.replicate (7 - (lg_sl ([.ref h0, .int x, .int y, .int z])).length) Slot.unset).toArray = ls at hl ⊢
  have hl : lv_has ls 7 [(0, .ref h0), (1, .int x), (2, .int y), (3, .int z)] := hl
  have t0 := z_0
  have t1 : (nI T).toInt = T := nI_toInt (by omega)
  have t2 : (nI 32).toInt = 32 := by decide
  have t3 : (nI X).toInt = X := nI_toInt (by omega)
  refine lv_aload_n hx hb dX0_track_0 rfl (lv_at hl 0 rfl) ?_
  refine va_get (D := (dC, dI)) (ci := 0) (v := .int (nI X)) (C := RX0) (T := TX0) (N := 13) hx hb hts (by decide +kernel) hown hK hP 0 rfl rfl 9 (by decide) (hts (.fieldLink RX0 54 "MotionDesk" "textCount" "I") (by decide +kernel)) (fun _ h9 => h9) rfl dX0_track_1 ?_
  refine lv_istore (lv' := [(4, .int (nI X)), (0, .ref h0), (1, .int x), (2, .int y), (3, .int z)]) hx hb dX0_track_4 hl (by decide) rfl (fun ls hl => ?_)
  refine lv_aload_n hx hb dX0_track_6 rfl (lv_at hl 1 rfl) ?_
  refine lv_iconst (v := (nI 0)) hx hb dX0_track_7 (by decide) ?_
  refine va_put (D := (dC, dI)) (ci := 0) (v := .int (nI 0)) (ty := .int) (C := RX0) (T := TX0) (N := 13) hx hb hts (by decide +kernel) tyX0 tyX0_ok nmX0 hown hK hP hD hS 0 rfl rfl 9 (by decide) (hts (.fieldLink RX0 54 "MotionDesk" "textCount" "I") (by decide +kernel)) (fun _ h9 => h9) rfl (by decide +kernel) rfl rfl (Nat.le_of_ble_eq_true rfl) dX0_track_8 (fun H locs hP hD hS => ?_)
  replace hP : va_P (dC, dI) vwCl (wX cA h0 a1 a2 a3 a4 a5 a6 a7 a8 a9 N T 0 nw fv tn tw th tk kt kn xt xn) H := hP
  replace hD : va_D A (wX cA h0 a1 a2 a3 a4 a5 a6 a7 a8 a9 N T 0 nw fv tn tw th tk kt kn xt xn) := hD
  refine lv_iload hx hb dX0_track_11 (lv_at hl 0 rfl) ?_
  refine lv_if_eq (tgt := 25) hx hb dX0_track_13 (by decide) (fun c1 => ?_) (fun c1 => ?_)
  · skip
    have c1 := zeq c1
    refine lv_iconst (v := (-1)) hx hb dX0_track_25 (by decide) ?_
    exact W.iret (v := (-1)) hx hb hr (fun t9 ht9 hW9 => ⟨⟨(-1), (T, tn, tw, th, tk, kt, kn), rfl, br_f (fun h => h.1 (by omega)) ⟨rfl, rfl⟩, by rw [ht9]; exact hP, va_K.moved hW9.alike hK, hD⟩, hS.F ht9⟩) hS.2.2 dX0_track_26
  · skip
    have c1 := zne c1
    refine lv_aload_n hx hb dX0_track_16 rfl (lv_at hl 1 rfl) ?_
    refine va_get (D := (dC, dI)) (ci := 0) (v := .int (nI T)) (C := RX0) (T := TX0) (N := 13) hx hb hts (by decide +kernel) hown hK hP 0 rfl rfl 2 (by decide) (hts (.fieldLink RX0 69 "MotionDesk" "trackCount" "I") (by decide +kernel)) (fun _ h9 => h9) rfl dX0_track_17 ?_
    refine lv_bipush (v := (nI 32)) hx hb dX0_track_20 (by decide) ?_
    refine lv_icmp_lt (tgt := 27) hx hb dX0_track_22 (by decide) (fun c2 => ?_) (fun c2 => ?_)
    · skip
      have c2 := zlt c2
      refine lv_aload_n hx hb dX0_track_27 rfl (lv_at hl 1 rfl) ?_
      refine lv_iload_n hx hb dX0_track_28 rfl (lv_at hl 2 rfl) ?_
      refine vp_callSi (W.runV (C := RX0) (As := [.int x]) (rest := []) ⟨hx, hb, hml, hown, hts⟩ (cx_isNode l dC dI cA h0 a1 a2 a3 a4 a5 a6 a7 a8 a9 N T 0 nw fv tn tw th tk kt kn xt xn x (by omega)) (cwV 1 hts gX0_track_X0_isNode rfl rfl rfl (by decide +kernel) ⟨Nat.le_of_ble_eq_true rfl, Nat.le_of_ble_eq_true rfl⟩) ⟨fun a U g mk q => ⟨q.1, q.2.1, va_K.moved (u := U) (U := U.calling g mk a) (Vm.Alike.refl U.vm) q.2.2⟩, va_recv hK hP (ci := 0) (q0 := 0) rfl rfl, fun U hU hW => ⟨rfl, by rw [hU]; exact hP, va_K.moved hW.alike hK⟩⟩ rfl rfl hl.1 rfl (lv_room (Nat.le_of_ble_eq_true rfl)) dX0_track_29 ⟨Nat.le_of_ble_eq_true rfl, Nat.le_of_ble_eq_true rfl⟩) (fun bo3 h_bo3 => ?_)
      refine lv_if_eq (tgt := 59) hx hb dX0_track_32 (by decide) (fun c4 => ?_) (fun c4 => ?_)
      · skip
        have c4 := btF h_bo3 c4
        refine lv_iconst (v := (-1)) hx hb dX0_track_59 (by decide) ?_
        exact W.iret (v := (-1)) hx hb hr (fun t9 ht9 hW9 => ⟨⟨(-1), (T, tn, tw, th, tk, kt, kn), rfl, br_f (fun h => c4 h.2.2.1) ⟨rfl, rfl⟩, by rw [ht9]; exact hP, va_K.moved hW9.alike hK, hD⟩, hS.F ht9⟩) hS.2.2 dX0_track_60
      · skip
        have c4 := btT h_bo3 c4
        refine lv_iload_n hx hb dX0_track_35 rfl (lv_at hl 3 rfl) ?_
        refine vp_callSi (W.runS (As := [.int y]) (rest := []) ⟨hx, hb, hml, hown, hts⟩ (cx_isWhat l y) (va_cwS 1 hts gX0_track_X0_isWhat rfl rfl rfl (by decide +kernel) ⟨Nat.le_of_ble_eq_true rfl, Nat.le_of_ble_eq_true rfl⟩) preEq rfl rfl hl.1 rfl (lv_room (Nat.le_of_ble_eq_true rfl)) dX0_track_36 ⟨Nat.le_of_ble_eq_true rfl, Nat.le_of_ble_eq_true rfl⟩) (fun bo5 h_bo5 => ?_)
        refine lv_if_eq (tgt := 59) hx hb dX0_track_39 (by decide) (fun c6 => ?_) (fun c6 => ?_)
        · skip
          have c6 := btF h_bo5 c6
          refine lv_iconst (v := (-1)) hx hb dX0_track_59 (by decide) ?_
          exact W.iret (v := (-1)) hx hb hr (fun t9 ht9 hW9 => ⟨⟨(-1), (T, tn, tw, th, tk, kt, kn), rfl, br_f (fun h => c6 h.2.2.2.1) ⟨rfl, rfl⟩, by rw [ht9]; exact hP, va_K.moved hW9.alike hK, hD⟩, hS.F ht9⟩) hS.2.2 dX0_track_60
        · skip
          have c6 := btT h_bo5 c6
          refine lv_iload_n hx hb dX0_track_42 rfl (lv_at hl 4 rfl) ?_
          refine vp_callSi (W.runS (As := [.int z]) (rest := []) ⟨hx, hb, hml, hown, hts⟩ (cx_isHow l z) (va_cwS 1 hts gX0_track_X0_isHow rfl rfl rfl (by decide +kernel) ⟨Nat.le_of_ble_eq_true rfl, Nat.le_of_ble_eq_true rfl⟩) preEq rfl rfl hl.1 rfl (lv_room (Nat.le_of_ble_eq_true rfl)) dX0_track_43 ⟨Nat.le_of_ble_eq_true rfl, Nat.le_of_ble_eq_true rfl⟩) (fun bo7 h_bo7 => ?_)
          refine lv_if_eq (tgt := 59) hx hb dX0_track_46 (by decide) (fun c8 => ?_) (fun c8 => ?_)
          · skip
            have c8 := btF h_bo7 c8
            refine lv_iconst (v := (-1)) hx hb dX0_track_59 (by decide) ?_
            exact W.iret (v := (-1)) hx hb hr (fun t9 ht9 hW9 => ⟨⟨(-1), (T, tn, tw, th, tk, kt, kn), rfl, br_f (fun h => c8 h.2.2.2.2.1) ⟨rfl, rfl⟩, by rw [ht9]; exact hP, va_K.moved hW9.alike hK, hD⟩, hS.F ht9⟩) hS.2.2 dX0_track_60
          · skip
            have c8 := btT h_bo7 c8
            refine lv_aload_n hx hb dX0_track_49 rfl (lv_at hl 1 rfl) ?_
            refine lv_iload hx hb dX0_track_50 (lv_at hl 0 rfl) ?_
            refine lv_iload_n hx hb dX0_track_52 rfl (lv_at hl 3 rfl) ?_
            refine vp_callSi (W.runV (C := RX0) (As := [.int (nI X), .int y]) (rest := []) ⟨hx, hb, hml, hown, hts⟩ (cx_fits l dC dI cA h0 a1 a2 a3 a4 a5 a6 a7 a8 a9 N T 0 nw fv tn tw th tk kt kn xt xn X y hX) (cwV 2 hts gX0_track_X0_textFits rfl rfl rfl (by decide +kernel) ⟨Nat.le_of_ble_eq_true rfl, Nat.le_of_ble_eq_true rfl⟩) ⟨fun a U g mk q => ⟨q.1, q.2.1, va_K.moved (u := U) (U := U.calling g mk a) (Vm.Alike.refl U.vm) q.2.2⟩, va_recv hK hP (ci := 0) (q0 := 0) rfl rfl, fun U hU hW => ⟨rfl, by rw [hU]; exact hP, va_K.moved hW.alike hK⟩⟩ rfl rfl hl.1 rfl (lv_room (Nat.le_of_ble_eq_true rfl)) dX0_track_53 ⟨Nat.le_of_ble_eq_true rfl, Nat.le_of_ble_eq_true rfl⟩) (fun bo9 h_bo9 => ?_)
            refine lv_if_ne (tgt := 61) hx hb dX0_track_56 (by decide) (fun c10 => ?_) (fun c10 => ?_)
            · skip
              have c10 := btT h_bo9 c10
              have hok : (X ≠ 0 ∧ T < 32 ∧ q_node N x ∧ q_what y ∧ q_how z ∧ q_all y xn X) := ⟨by omega, by omega, c4, c6, c8, c10⟩
              have hT2 : T < 32 := hok.2.1
              refine lv_aload_n hx hb dX0_track_61 rfl (lv_at hl 1 rfl) ?_
              refine va_get (D := (dC, dI)) (ci := 0) (v := .int (nI T)) (C := RX0) (T := TX0) (N := 13) hx hb hts (by decide +kernel) hown hK hP 0 rfl rfl 2 (by decide) (hts (.fieldLink RX0 69 "MotionDesk" "trackCount" "I") (by decide +kernel)) (fun _ h9 => h9) rfl dX0_track_62 ?_
              refine lv_istore (lv' := [(5, .int (nI T)), (4, .int (nI X)), (0, .ref h0), (1, .int x), (2, .int y), (3, .int z)]) hx hb dX0_track_65 hl (by decide) rfl (fun ls hl => ?_)
              refine lv_aload_n hx hb dX0_track_67 rfl (lv_at hl 2 rfl) ?_
              refine va_get (D := (dC, dI)) (ci := 0) (v := .ref a2) (C := RX0) (T := TX0) (N := 13) hx hb hts (by decide +kernel) hown hK hP 0 rfl rfl 3 (by decide) (hts (.fieldLink RX0 30 "MotionDesk" "trackNode" "[I") (by decide +kernel)) (fun _ h9 => h9) rfl dX0_track_68 ?_
              refine lv_iload hx hb dX0_track_71 (lv_at hl 0 rfl) ?_
              refine lv_iload_n hx hb dX0_track_73 rfl (lv_at hl 3 rfl) ?_
              refine va_iast hx hb hK hP hD hS 2 0 rfl rfl (vp_in_nI (by omega) (by omega)) dX0_track_74 (fun H locs hP hD hS => ?_)
              rw [nI_clamp (show T < 2 ^ 31 by omega)] at hP hD
              replace hP : va_P (dC, dI) vwCl (wX cA h0 a1 a2 a3 a4 a5 a6 a7 a8 a9 N T 0 nw fv (upd tn T x) tw th tk kt kn xt xn) H := hP
              replace hD : va_D A (wX cA h0 a1 a2 a3 a4 a5 a6 a7 a8 a9 N T 0 nw fv (upd tn T x) tw th tk kt kn xt xn) := hD
              refine lv_aload_n hx hb dX0_track_75 rfl (lv_at hl 2 rfl) ?_
              refine va_get (D := (dC, dI)) (ci := 0) (v := .ref a3) (C := RX0) (T := TX0) (N := 13) hx hb hts (by decide +kernel) hown hK hP 0 rfl rfl 4 (by decide) (hts (.fieldLink RX0 33 "MotionDesk" "trackWhat" "[I") (by decide +kernel)) (fun _ h9 => h9) rfl dX0_track_76 ?_
              refine lv_iload hx hb dX0_track_79 (lv_at hl 0 rfl) ?_
              refine lv_iload_n hx hb dX0_track_81 rfl (lv_at hl 4 rfl) ?_
              refine va_iast hx hb hK hP hD hS 3 0 rfl rfl (vp_in_nI (by omega) (by omega)) dX0_track_82 (fun H locs hP hD hS => ?_)
              rw [nI_clamp (show T < 2 ^ 31 by omega)] at hP hD
              replace hP : va_P (dC, dI) vwCl (wX cA h0 a1 a2 a3 a4 a5 a6 a7 a8 a9 N T 0 nw fv (upd tn T x) (upd tw T y) th tk kt kn xt xn) H := hP
              replace hD : va_D A (wX cA h0 a1 a2 a3 a4 a5 a6 a7 a8 a9 N T 0 nw fv (upd tn T x) (upd tw T y) th tk kt kn xt xn) := hD
              refine lv_aload_n hx hb dX0_track_83 rfl (lv_at hl 2 rfl) ?_
              refine va_get (D := (dC, dI)) (ci := 0) (v := .ref a4) (C := RX0) (T := TX0) (N := 13) hx hb hts (by decide +kernel) hown hK hP 0 rfl rfl 5 (by decide) (hts (.fieldLink RX0 36 "MotionDesk" "trackHow" "[I") (by decide +kernel)) (fun _ h9 => h9) rfl dX0_track_84 ?_
              refine lv_iload hx hb dX0_track_87 (lv_at hl 0 rfl) ?_
              refine lv_iload_n hx hb dX0_track_89 rfl (lv_at hl 5 rfl) ?_
              refine va_iast hx hb hK hP hD hS 4 0 rfl rfl (vp_in_nI (by omega) (by omega)) dX0_track_90 (fun H locs hP hD hS => ?_)
              rw [nI_clamp (show T < 2 ^ 31 by omega)] at hP hD
              replace hP : va_P (dC, dI) vwCl (wX cA h0 a1 a2 a3 a4 a5 a6 a7 a8 a9 N T 0 nw fv (upd tn T x) (upd tw T y) (upd th T z) tk kt kn xt xn) H := hP
              replace hD : va_D A (wX cA h0 a1 a2 a3 a4 a5 a6 a7 a8 a9 N T 0 nw fv (upd tn T x) (upd tw T y) (upd th T z) tk kt kn xt xn) := hD
              refine lv_aload_n hx hb dX0_track_91 rfl (lv_at hl 2 rfl) ?_
              refine va_get (D := (dC, dI)) (ci := 0) (v := .ref a5) (C := RX0) (T := TX0) (N := 13) hx hb hts (by decide +kernel) hown hK hP 0 rfl rfl 6 (by decide) (hts (.fieldLink RX0 39 "MotionDesk" "trackKeys" "[I") (by decide +kernel)) (fun _ h9 => h9) rfl dX0_track_92 ?_
              refine lv_iload hx hb dX0_track_95 (lv_at hl 0 rfl) ?_
              refine lv_iload hx hb dX0_track_97 (lv_at hl 1 rfl) ?_
              refine va_iast hx hb hK hP hD hS 5 0 rfl rfl (vp_in_nI (by omega) (by omega)) dX0_track_99 (fun H locs hP hD hS => ?_)
              rw [nI_clamp (show T < 2 ^ 31 by omega)] at hP hD
              replace hP : va_P (dC, dI) vwCl (wX cA h0 a1 a2 a3 a4 a5 a6 a7 a8 a9 N T 0 nw fv (upd tn T x) (upd tw T y) (upd th T z) (upd tk T (nI X)) kt kn xt xn) H := hP
              replace hD : va_D A (wX cA h0 a1 a2 a3 a4 a5 a6 a7 a8 a9 N T 0 nw fv (upd tn T x) (upd tw T y) (upd th T z) (upd tk T (nI X)) kt kn xt xn) := hD
              refine lv_iload hx hb dX0_track_100 (lv_at hl 0 rfl) ?_
              refine lv_bipush (v := (nI 32)) hx hb dX0_track_102 (by decide) ?_
              refine lv_imul hx hb dX0_track_104 ?_
              refine tp_i (y := nI (T * 32)) (pk_mul T 32) ?_
              refine lv_istore (lv' := [(6, .int (nI (T * 32))), (5, .int (nI T)), (4, .int (nI X)), (0, .ref h0), (1, .int x), (2, .int y), (3, .int z)]) hx hb dX0_track_105 hl (by decide) rfl (fun ls hl => ?_)
              refine lv_aload_n hx hb dX0_track_107 rfl (lv_at hl 3 rfl) ?_
              refine va_get (D := (dC, dI)) (ci := 0) (v := .ref a8) (C := RX0) (T := TX0) (N := 13) hx hb hts (by decide +kernel) hown hK hP 0 rfl rfl 10 (by decide) (hts (.fieldLink RX0 48 "MotionDesk" "textTimes" "[I") (by decide +kernel)) (fun _ h9 => h9) rfl dX0_track_108 ?_
              refine lv_iconst (v := (nI 0)) hx hb dX0_track_111 (by decide) ?_
              refine lv_aload_n hx hb dX0_track_112 rfl (lv_at hl 3 rfl) ?_
              refine va_get (D := (dC, dI)) (ci := 0) (v := .ref a6) (C := RX0) (T := TX0) (N := 13) hx hb hts (by decide +kernel) hown hK hP 0 rfl rfl 7 (by decide) (hts (.fieldLink RX0 42 "MotionDesk" "keyTimes" "[I") (by decide +kernel)) (fun _ h9 => h9) rfl dX0_track_113 ?_
              refine lv_iload hx hb dX0_track_116 (lv_at hl 0 rfl) ?_
              refine lv_iload hx hb dX0_track_118 (lv_at hl 2 rfl) ?_
              have k1 := (nI_clamp (n := 0) (by omega))
              have k2 := (nI_clamp (n := (T * 32)) (by omega))
              have k3 := (nI_clamp (n := X) (by omega))
              refine va_copyi (ty := .int) hx hb (by rw [hml]; exact hl.1.symm) hown (hts (.methodLink RX0 85 arraycopyName) (by decide +kernel)) (hts (.native arraycopyName) (by decide +kernel)) (hts (.static arraycopyName) (by decide +kernel)) (hts (.initialized "java/lang/System") (by decide +kernel)) hK hP hD hS 8 6 0 0 rfl rfl rfl rfl rfl (nI_pos (by omega)) (nI_pos (by omega)) (nI_pos (by omega)) (by rw [k1, k3]; omega) (by rw [k2, k3]; omega) (fun _ _ => rfl) (Nat.le_of_ble_eq_true rfl) (Nat.le_of_ble_eq_true rfl) dX0_track_120 (fun H locs hP hD hS => ?_)
              rw [k1, k2, k3] at hP hD
              replace hP : va_P (dC, dI) vwCl (wX cA h0 a1 a2 a3 a4 a5 a6 a7 a8 a9 N T 0 nw fv (upd tn T x) (upd tw T y) (upd th T z) (upd tk T (nI X)) (va_cpy xt kt 0 (T * 32) X) kn xt xn) H := hP
              replace hD : va_D A (wX cA h0 a1 a2 a3 a4 a5 a6 a7 a8 a9 N T 0 nw fv (upd tn T x) (upd tw T y) (upd th T z) (upd tk T (nI X)) (va_cpy xt kt 0 (T * 32) X) kn xt xn) := hD
              refine lv_aload_n hx hb dX0_track_123 rfl (lv_at hl 3 rfl) ?_
              refine va_get (D := (dC, dI)) (ci := 0) (v := .ref a9) (C := RX0) (T := TX0) (N := 13) hx hb hts (by decide +kernel) hown hK hP 0 rfl rfl 11 (by decide) (hts (.fieldLink RX0 51 "MotionDesk" "textNumbers" "[I") (by decide +kernel)) (fun _ h9 => h9) rfl dX0_track_124 ?_
              refine lv_iconst (v := (nI 0)) hx hb dX0_track_127 (by decide) ?_
              refine lv_aload_n hx hb dX0_track_128 rfl (lv_at hl 3 rfl) ?_
              refine va_get (D := (dC, dI)) (ci := 0) (v := .ref a7) (C := RX0) (T := TX0) (N := 13) hx hb hts (by decide +kernel) hown hK hP 0 rfl rfl 8 (by decide) (hts (.fieldLink RX0 45 "MotionDesk" "keyNumbers" "[I") (by decide +kernel)) (fun _ h9 => h9) rfl dX0_track_129 ?_
              refine lv_iload hx hb dX0_track_132 (lv_at hl 0 rfl) ?_
              refine lv_iconst (v := (nI 3)) hx hb dX0_track_134 (by decide) ?_
              refine lv_imul hx hb dX0_track_135 ?_
              refine tp_i (y := nI (T * 32 * 3)) (pk_mul _ 3) ?_
              refine lv_iload hx hb dX0_track_136 (lv_at hl 2 rfl) ?_
              refine lv_iconst (v := (nI 3)) hx hb dX0_track_138 (by decide) ?_
              refine lv_imul hx hb dX0_track_139 ?_
              refine tp_i (y := nI (X * 3)) (pk_mul X 3) ?_
              have k1 := (nI_clamp (n := 0) (by omega))
              have k2 := (nI_clamp (n := (T * 32 * 3)) (by omega))
              have k3 := (nI_clamp (n := (X * 3)) (by omega))
              refine va_copyi (ty := .int) hx hb (by rw [hml]; exact hl.1.symm) hown (hts (.methodLink RX0 85 arraycopyName) (by decide +kernel)) (hts (.native arraycopyName) (by decide +kernel)) (hts (.static arraycopyName) (by decide +kernel)) (hts (.initialized "java/lang/System") (by decide +kernel)) hK hP hD hS 9 7 0 0 rfl rfl rfl rfl rfl (nI_pos (by omega)) (nI_pos (by omega)) (nI_pos (by omega)) (by rw [k1, k3]; omega) (by rw [k2, k3]; omega) (fun _ _ => rfl) (Nat.le_of_ble_eq_true rfl) (Nat.le_of_ble_eq_true rfl) dX0_track_140 (fun H locs hP hD hS => ?_)
              rw [k1, k2, k3] at hP hD
              replace hP : va_P (dC, dI) vwCl (wX cA h0 a1 a2 a3 a4 a5 a6 a7 a8 a9 N T 0 nw fv (upd tn T x) (upd tw T y) (upd th T z) (upd tk T (nI X)) (va_cpy xt kt 0 (T * 32) X) (va_cpy xn kn 0 (T * 32 * 3) (X * 3)) xt xn) H := hP
              replace hD : va_D A (wX cA h0 a1 a2 a3 a4 a5 a6 a7 a8 a9 N T 0 nw fv (upd tn T x) (upd tw T y) (upd th T z) (upd tk T (nI X)) (va_cpy xt kt 0 (T * 32) X) (va_cpy xn kn 0 (T * 32 * 3) (X * 3)) xt xn) := hD
              refine lv_aload_n hx hb dX0_track_143 rfl (lv_at hl 3 rfl) ?_
              refine lv_dup hx hb dX0_track_144 rfl ?_
              refine va_get (D := (dC, dI)) (ci := 0) (v := .int (nI T)) (C := RX0) (T := TX0) (N := 13) hx hb hts (by decide +kernel) hown hK hP 0 rfl rfl 2 (by decide) (hts (.fieldLink RX0 69 "MotionDesk" "trackCount" "I") (by decide +kernel)) (fun _ h9 => h9) rfl dX0_track_145 ?_
              refine lv_iconst (v := (nI 1)) hx hb dX0_track_148 (by decide) ?_
              refine lv_iadd hx hb dX0_track_149 ?_
              refine tp_i (y := nI (T + 1)) (nI_1 T) ?_
              refine va_put (D := (dC, dI)) (ci := 0) (v := .int (nI (T + 1))) (ty := .int) (C := RX0) (T := TX0) (N := 13) hx hb hts (by decide +kernel) tyX0 tyX0_ok nmX0 hown hK hP hD hS 0 rfl rfl 2 (by decide) (hts (.fieldLink RX0 69 "MotionDesk" "trackCount" "I") (by decide +kernel)) (fun _ h9 => h9) rfl (by decide +kernel) rfl rfl (Nat.le_of_ble_eq_true rfl) dX0_track_150 (fun H locs hP hD hS => ?_)
              replace hP : va_P (dC, dI) vwCl (wX cA h0 a1 a2 a3 a4 a5 a6 a7 a8 a9 N (T + 1) 0 nw fv (upd tn T x) (upd tw T y) (upd th T z) (upd tk T (nI X)) (va_cpy xt kt 0 (T * 32) X) (va_cpy xn kn 0 (T * 32 * 3) (X * 3)) xt xn) H := hP
              replace hD : va_D A (wX cA h0 a1 a2 a3 a4 a5 a6 a7 a8 a9 N (T + 1) 0 nw fv (upd tn T x) (upd tw T y) (upd th T z) (upd tk T (nI X)) (va_cpy xt kt 0 (T * 32) X) (va_cpy xn kn 0 (T * 32 * 3) (X * 3)) xt xn) := hD
              refine lv_iload hx hb dX0_track_153 (lv_at hl 1 rfl) ?_
              exact W.iret (v := nI T) hx hb hr (fun t9 ht9 hW9 => ⟨⟨nI T, ((T + 1), (upd tn T x), (upd tw T y), (upd th T z), (upd tk T (nI X)), (va_cpy xt kt 0 (T * 32) X), (va_cpy xn kn 0 (T * 32 * 3) (X * 3))), rfl, br_t hok ⟨rfl, rfl⟩, by rw [ht9]; exact hP, va_K.moved hW9.alike hK, hD⟩, hS.F ht9⟩) hS.2.2 dX0_track_155
            · skip
              have c10 := btF h_bo9 c10
              refine lv_iconst (v := (-1)) hx hb dX0_track_59 (by decide) ?_
              exact W.iret (v := (-1)) hx hb hr (fun t9 ht9 hW9 => ⟨⟨(-1), (T, tn, tw, th, tk, kt, kn), rfl, br_f (fun h => c10 h.2.2.2.2.2) ⟨rfl, rfl⟩, by rw [ht9]; exact hP, va_K.moved hW9.alike hK, hD⟩, hS.F ht9⟩) hS.2.2 dX0_track_60
    · skip
      have c2 := znlt c2
      refine lv_iconst (v := (-1)) hx hb dX0_track_25 (by decide) ?_
      exact W.iret (v := (-1)) hx hb hr (fun t9 ht9 hW9 => ⟨⟨(-1), (T, tn, tw, th, tk, kt, kn), rfl, br_f (fun h => absurd h.2.1 (by omega)) ⟨rfl, rfl⟩, by rw [ht9]; exact hP, va_K.moved hW9.alike hK, hD⟩, hS.F ht9⟩) hS.2.2 dX0_track_26
