set_option maxHeartbeats 4000000 in
set_option maxRecDepth 100000 in
/-- play(track) -/
theorem cx_play (l : Launch) (dC : Nat → ClassId) (dI : Nat → Nat → Nat) (cA : ClassId) (h0 a1 a2 a3 a4 a5 a6 a7 a8 a9 N T X : Nat) (nw : Int32) (fv tn tw th tk kt kn xt xn : Nat → Int32) (sz : Nat) (t K n v : Nat) (hT : T ≤ 32) (ht : t < T) (hN : N ≤ 48) (hK1 : 1 ≤ K) (hK2 : K ≤ 32) (hn : n < N) (hv3 : v < 3) (etk : tk t = nI K) (etn : tn t = nI n) (etw : tw t = nI v) : Met l yX0_play wsX0_play ({ frames := 5, cells := 0, slots := 0, locals := 123 }) (va_Pc [.ref h0, .int (nI t)] (eX sz dC dI cA h0 a1 a2 a3 a4 a5 a6 a7 a8 a9 N T X nw fv tn tw th tk kt kn xt xn)) (va_Qv (fun (u : Nat → Int32) => u = pl1 kt kn nw tn tw th tk t fv) (fun u => bX (va_A (wX cA h0 a1 a2 a3 a4 a5 a6 a7 a8 a9 N T X nw fv tn tw th tk kt kn xt xn) sz) dC dI cA h0 a1 a2 a3 a4 a5 a6 a7 a8 a9 N T X nw u tn tw th tk kt kn xt xn) (va_A (wX cA h0 a1 a2 a3 a4 a5 a6 a7 a8 a9 N T X nw fv tn tw th tk kt kn xt xn) sz)) 0 0 (va_A (wX cA h0 a1 a2 a3 a4 a5 a6 a7 a8 a9 N T X nw fv tn tw th tk kt kn xt xn) sz) := by
  refine Met.ofW (cc := cX0_play) (maxL := 7) (ret := none) (by decide) rfl ?_
  intro p e s m args below meth c s₁ B hml hv
  obtain ⟨rfl, hsz, hP, hK, hD0⟩ := hv
  have hx := B.exec
  have hb := B.bytes
  have hr := B.returns
  have hts := atoms_spec (ws := wsX0_play) B.pre
  have hown : s.vm.findClass RX0 = some m.cls := findClass_of_methodNamed B.named
  have hlocks := B.notSynchronized
  subst hsz
  have hD := hD0.self (sz := s.heap.size)
  generalize hAe : va_A (wX cA h0 a1 a2 a3 a4 a5 a6 a7 a8 a9 N T X nw fv tn tw th tk kt kn xt xn) s.heap.size = A at hD ⊢
  have hA : ∀ q : Nat, s.heap.size ≤ q → A q := fun q h => by rw [← hAe]; exact Or.inr h
  have hS : va_S A s.heap s.heap [] := va_S.rf
  have hP : va_P (dC, dI) vwCl (wX cA h0 a1 a2 a3 a4 a5 a6 a7 a8 a9 N T X nw fv tn tw th tk kt kn xt xn) s.heap := hP
  have hl := lv_entry ([.ref h0, .int (nI t)]) (n := 7) (Nat.le_of_ble_eq_true rfl)
  rw [lg_entry_eq]
  generalize (lg_sl ([.ref h0, .int (nI t)]) ++ List.replicate (7 - (lg_sl ([.ref h0, .int (nI t)])).length) Slot.unset).toArray = ls at hl ⊢
  have hl : lv_has ls 7 [(0, .ref h0), (1, .int (nI t))] := hl
  have q1 : (tk t).toInt.toNat = K := by rw [etk, nI_toInt (by omega)]; omega
  have q2 : pl_of (tn t) (tw t) = (n * 3 + v) * 3 := by unfold pl_of; rw [etn, etw, nI_toInt (by omega), nI_toInt (by omega)]; omega
  obtain ⟨kk, hkk⟩ : ∃ kk, kk = kif kt nw (t * 32) (K - 1) := ⟨_, rfl⟩
  have hb1 : t * 32 ≤ kk ∧ kk ≤ t * 32 + (K - 1) := by rw [hkk]; exact kif_le kt nw (K - 1) (t * 32)
  have t1 : (nI kk).toInt = kk := nI_toInt (by omega)
  have t2 : (nI (t * 32 + K - 1)).toInt = (t * 32 + K - 1 : Nat) := nI_toInt (by omega)
  refine lv_iload_n hx hb dX0_play_0 rfl (lv_at hl 1 rfl) ?_
  refine lv_bipush (v := (nI 32)) hx hb dX0_play_1 (by decide) ?_
  refine lv_imul hx hb dX0_play_3 ?_
  refine tp_i (y := nI (t * 32)) (pk_mul t 32) ?_
  refine lv_aload_n hx hb dX0_play_4 rfl (lv_at hl 0 rfl) ?_
  refine va_get (D := (dC, dI)) (ci := 0) (v := .ref a5) (C := RX0) (T := TX0) (N := 13) hx hb hts (by decide +kernel) hown hK hP 0 rfl rfl 6 (by decide) (hts (.fieldLink RX0 39 "MotionDesk" "trackKeys" "[I") (by decide +kernel)) (fun _ h9 => h9) rfl dX0_play_5 ?_
  refine lv_iload_n hx hb dX0_play_8 rfl (lv_at hl 1 rfl) ?_
  refine va_iald hx hb hK hP 5 0 rfl rfl (vp_in_nI (by omega) (by omega)) dX0_play_9 ?_
  refine tp_i (y := (tk t)) (by rw [nI_clamp (by omega)]) ?_
  refine tp_i (y := nI K) (etk) ?_
  refine lv_iadd hx hb dX0_play_10 ?_
  refine tp_i (y := nI (t * 32 + K)) (nI_add _ _) ?_
  refine lv_iconst (v := (nI 1)) hx hb dX0_play_11 (by decide) ?_
  refine lv_isub hx hb dX0_play_12 ?_
  refine tp_i (y := nI (t * 32 + K - 1)) (pk_sub (show 1 ≤ t * 32 + K by omega)) ?_
  refine lv_istore_n (lv' := [(2, .int (nI (t * 32 + K - 1))), (0, .ref h0), (1, .int (nI t))]) hx hb dX0_play_13 rfl hl (by decide) rfl (fun ls hl => ?_)
  refine lv_aload_n hx hb dX0_play_14 rfl (lv_at hl 1 rfl) ?_
  refine lv_iload_n hx hb dX0_play_15 rfl (lv_at hl 2 rfl) ?_
  refine lv_bipush (v := (nI 32)) hx hb dX0_play_16 (by decide) ?_
  refine lv_imul hx hb dX0_play_18 ?_
  refine tp_i (y := nI (t * 32)) (pk_mul t 32) ?_
  refine lv_iload_n hx hb dX0_play_19 rfl (lv_at hl 0 rfl) ?_
  refine tp_i (y := nI (t * 32 + (K - 1))) (by rw [show t * 32 + K - 1 = t * 32 + (K - 1) by omega]) ?_
  refine vp_callSi (W.runV (C := RX0) (As := [.int (nI (t * 32)), .int (nI (t * 32 + (K - 1)))]) (rest := []) ⟨hx, hb, hml, hown, hts⟩ (cx_kif l dC dI cA h0 a1 a2 a3 a4 a5 a6 a7 a8 a9 N T X nw fv tn tw th tk kt kn xt xn (t * 32) (K - 1) (by omega)) (cwV 2 hts gX0_play_X0_keyInForce rfl rfl rfl (by decide +kernel) ⟨Nat.le_of_ble_eq_true rfl, Nat.le_of_ble_eq_true rfl⟩) ⟨fun a U g mk q => ⟨q.1, q.2.1, va_K.moved (u := U) (U := U.calling g mk a) (Vm.Alike.refl U.vm) q.2.2⟩, va_recv hK hP (ci := 0) (q0 := 0) rfl rfl, fun U hU hW => ⟨rfl, by rw [hU]; exact hP, va_K.moved hW.alike hK⟩⟩ rfl rfl hl.1 rfl (lv_room (Nat.le_of_ble_eq_true rfl)) dX0_play_20 ⟨Nat.le_of_ble_eq_true rfl, Nat.le_of_ble_eq_true rfl⟩) (fun r1 h_r1 => ?_)
  refine tp_i (y := nI kk) (by rw [h_r1, hkk]) ?_
  refine lv_istore_n (lv' := [(3, .int (nI kk)), (2, .int (nI (t * 32 + K - 1))), (0, .ref h0), (1, .int (nI t))]) hx hb dX0_play_23 rfl hl (by decide) rfl (fun ls hl => ?_)
  refine lv_aload_n hx hb dX0_play_24 rfl (lv_at hl 2 rfl) ?_
  refine va_get (D := (dC, dI)) (ci := 0) (v := .ref a2) (C := RX0) (T := TX0) (N := 13) hx hb hts (by decide +kernel) hown hK hP 0 rfl rfl 3 (by decide) (hts (.fieldLink RX0 30 "MotionDesk" "trackNode" "[I") (by decide +kernel)) (fun _ h9 => h9) rfl dX0_play_25 ?_
  refine lv_iload_n hx hb dX0_play_28 rfl (lv_at hl 3 rfl) ?_
  refine va_iald hx hb hK hP 2 0 rfl rfl (vp_in_nI (by omega) (by omega)) dX0_play_29 ?_
  refine tp_i (y := (tn t)) (by rw [nI_clamp (by omega)]) ?_
  refine tp_i (y := nI n) (etn) ?_
  refine lv_aload_n hx hb dX0_play_30 rfl (lv_at hl 2 rfl) ?_
  refine va_get (D := (dC, dI)) (ci := 0) (v := .ref a3) (C := RX0) (T := TX0) (N := 13) hx hb hts (by decide +kernel) hown hK hP 0 rfl rfl 4 (by decide) (hts (.fieldLink RX0 33 "MotionDesk" "trackWhat" "[I") (by decide +kernel)) (fun _ h9 => h9) rfl dX0_play_31 ?_
  refine lv_iload_n hx hb dX0_play_34 rfl (lv_at hl 3 rfl) ?_
  refine va_iald hx hb hK hP 3 0 rfl rfl (vp_in_nI (by omega) (by omega)) dX0_play_35 ?_
  refine tp_i (y := (tw t)) (by rw [nI_clamp (by omega)]) ?_
  refine tp_i (y := nI v) (etw) ?_
  refine vp_callSi (W.runS (As := [.int (nI n), .int (nI v)]) (rest := []) ⟨hx, hb, hml, hown, hts⟩ (cx_placeOf l n v) (va_cwS 2 hts gX0_play_X0_placeOf rfl rfl rfl (by decide +kernel) ⟨Nat.le_of_ble_eq_true rfl, Nat.le_of_ble_eq_true rfl⟩) preEq rfl rfl hl.1 rfl (lv_room (Nat.le_of_ble_eq_true rfl)) dX0_play_36 ⟨Nat.le_of_ble_eq_true rfl, Nat.le_of_ble_eq_true rfl⟩) (fun r2 h_r2 => ?_)
  refine tp_i (y := nI ((n * 3 + v) * 3)) (h_r2) ?_
  refine lv_istore (lv' := [(4, .int (nI ((n * 3 + v) * 3))), (3, .int (nI kk)), (2, .int (nI (t * 32 + K - 1))), (0, .ref h0), (1, .int (nI t))]) hx hb dX0_play_39 hl (by decide) rfl (fun ls hl => ?_)
  refine lv_iload_n hx hb dX0_play_41 rfl (lv_at hl 1 rfl) ?_
  refine lv_iload_n hx hb dX0_play_42 rfl (lv_at hl 2 rfl) ?_
  refine lv_icmp_eq (tgt := 59) hx hb dX0_play_43 (by decide) (fun c3 => ?_) (fun c3 => ?_)
  · skip
    have c3 := zeq c3
    refine lv_iconst (v := (nI 1)) hx hb dX0_play_59 (by decide) ?_
    refine lv_goto (tgt := 64) hx hb dX0_play_60 (by decide) ?_
    refine lv_istore (lv' := [(5, .int (nI 1)), (4, .int (nI ((n * 3 + v) * 3))), (3, .int (nI kk)), (2, .int (nI (t * 32 + K - 1))), (0, .ref h0), (1, .int (nI t))]) hx hb dX0_play_64 hl (by decide) rfl (fun ls hl => ?_)
    have hv : ∀ j, plv kt kn nw (th t) (t * 32) K j = kn (kk * 3 + j) := fun j => by unfold plv; rw [← hkk, if_pos (Or.inl (by omega))]
    refine lv_iconst (v := (nI 0)) hx hb dX0_play_66 (by decide) ?_
    refine lv_istore (lv' := [(6, .int (nI 0)), (5, .int (nI 1)), (4, .int (nI ((n * 3 + v) * 3))), (3, .int (nI kk)), (2, .int (nI (t * 32 + K - 1))), (0, .ref h0), (1, .int (nI t))]) hx hb dX0_play_67 hl (by decide) rfl (fun ls hl => ?_)
    refine lv_iload hx hb dX0_play_69 (lv_at hl 0 rfl) ?_
    refine lv_iconst (v := (nI 3)) hx hb dX0_play_71 (by decide) ?_
    refine lv_icmp_ge (tgt := 123) hx hb dX0_play_72 (by decide) (fun c4 => ?_) (fun c4 => ?_)
    · skip
      have c4 := c4
      exact absurd c4 (by decide)
    · skip
      have c4 := c4
      refine lv_aload_n hx hb dX0_play_75 rfl (lv_at hl 5 rfl) ?_
      refine va_get (D := (dC, dI)) (ci := 0) (v := .ref a1) (C := RX0) (T := TX0) (N := 13) hx hb hts (by decide +kernel) hown hK hP 0 rfl rfl 1 (by decide) (hts (.fieldLink RX0 22 "MotionDesk" "values" "[I") (by decide +kernel)) (fun _ h9 => h9) rfl dX0_play_76 ?_
      refine lv_iload hx hb dX0_play_79 (lv_at hl 2 rfl) ?_
      refine lv_iload hx hb dX0_play_81 (lv_at hl 0 rfl) ?_
      refine lv_iadd hx hb dX0_play_83 ?_
      refine tp_i (y := nI ((n * 3 + v) * 3 + 0)) (nI_add _ _) ?_
      refine lv_iload hx hb dX0_play_84 (lv_at hl 1 rfl) ?_
      refine lv_if_eq (tgt := 103) hx hb dX0_play_86 (by decide) (fun c5 => ?_) (fun c5 => ?_)
      · skip
        have c5 := c5
        exact absurd c5 (by decide)
      · skip
        have c5 := c5
        refine lv_aload_n hx hb dX0_play_89 rfl (lv_at hl 5 rfl) ?_
        refine va_get (D := (dC, dI)) (ci := 0) (v := .ref a7) (C := RX0) (T := TX0) (N := 13) hx hb hts (by decide +kernel) hown hK hP 0 rfl rfl 8 (by decide) (hts (.fieldLink RX0 45 "MotionDesk" "keyNumbers" "[I") (by decide +kernel)) (fun _ h9 => h9) rfl dX0_play_90 ?_
        refine lv_iload_n hx hb dX0_play_93 rfl (lv_at hl 3 rfl) ?_
        refine lv_iconst (v := (nI 3)) hx hb dX0_play_94 (by decide) ?_
        refine lv_imul hx hb dX0_play_95 ?_
        refine tp_i (y := nI (kk * 3)) (pk_mul kk 3) ?_
        refine lv_iload hx hb dX0_play_96 (lv_at hl 0 rfl) ?_
        refine lv_iadd hx hb dX0_play_98 ?_
        refine tp_i (y := nI (kk * 3 + 0)) (nI_add _ _) ?_
        refine va_iald hx hb hK hP 7 0 rfl rfl (vp_in_nI (by omega) (by omega)) dX0_play_99 ?_
        refine tp_i (y := (kn (kk * 3 + 0))) (by rw [nI_clamp (by omega)]) ?_
        refine lv_goto (tgt := 116) hx hb dX0_play_100 (by decide) ?_
        refine va_iast hx hb hK hP hD hS 1 0 rfl rfl (vp_in_nI (by omega) (by omega)) dX0_play_116 (fun H locs hP hD hS => ?_)
        rw [nI_clamp (show (n * 3 + v) * 3 + 0 < 2 ^ 31 by omega)] at hP hD
        replace hP : va_P (dC, dI) vwCl (wX cA h0 a1 a2 a3 a4 a5 a6 a7 a8 a9 N T X nw (upd fv ((n * 3 + v) * 3 + 0) (kn (kk * 3 + 0))) tn tw th tk kt kn xt xn) H := hP
        replace hD : va_D A (wX cA h0 a1 a2 a3 a4 a5 a6 a7 a8 a9 N T X nw (upd fv ((n * 3 + v) * 3 + 0) (kn (kk * 3 + 0))) tn tw th tk kt kn xt xn) := hD
        refine lv_iinc (v := nI 1) (lv' := [(6, .int (nI 1)), (5, .int (nI 1)), (4, .int (nI ((n * 3 + v) * 3))), (3, .int (nI kk)), (2, .int (nI (t * 32 + K - 1))), (0, .ref h0), (1, .int (nI t))]) hx hb dX0_play_117 hl (k := 0) rfl (by decide) (by decide) rfl (fun ls hl => ?_)
        refine lv_goto (tgt := 69) hx hb dX0_play_120 (by decide) ?_
        refine lv_iload hx hb dX0_play_69 (lv_at hl 0 rfl) ?_
        refine lv_iconst (v := (nI 3)) hx hb dX0_play_71 (by decide) ?_
        refine lv_icmp_ge (tgt := 123) hx hb dX0_play_72 (by decide) (fun c6 => ?_) (fun c6 => ?_)
        · skip
          have c6 := c6
          exact absurd c6 (by decide)
        · skip
          have c6 := c6
          refine lv_aload_n hx hb dX0_play_75 rfl (lv_at hl 5 rfl) ?_
          refine va_get (D := (dC, dI)) (ci := 0) (v := .ref a1) (C := RX0) (T := TX0) (N := 13) hx hb hts (by decide +kernel) hown hK hP 0 rfl rfl 1 (by decide) (hts (.fieldLink RX0 22 "MotionDesk" "values" "[I") (by decide +kernel)) (fun _ h9 => h9) rfl dX0_play_76 ?_
          refine lv_iload hx hb dX0_play_79 (lv_at hl 2 rfl) ?_
          refine lv_iload hx hb dX0_play_81 (lv_at hl 0 rfl) ?_
          refine lv_iadd hx hb dX0_play_83 ?_
          refine tp_i (y := nI ((n * 3 + v) * 3 + 1)) (nI_add _ _) ?_
          refine lv_iload hx hb dX0_play_84 (lv_at hl 1 rfl) ?_
          refine lv_if_eq (tgt := 103) hx hb dX0_play_86 (by decide) (fun c7 => ?_) (fun c7 => ?_)
          · skip
            have c7 := c7
            exact absurd c7 (by decide)
          · skip
            have c7 := c7
            refine lv_aload_n hx hb dX0_play_89 rfl (lv_at hl 5 rfl) ?_
            refine va_get (D := (dC, dI)) (ci := 0) (v := .ref a7) (C := RX0) (T := TX0) (N := 13) hx hb hts (by decide +kernel) hown hK hP 0 rfl rfl 8 (by decide) (hts (.fieldLink RX0 45 "MotionDesk" "keyNumbers" "[I") (by decide +kernel)) (fun _ h9 => h9) rfl dX0_play_90 ?_
            refine lv_iload_n hx hb dX0_play_93 rfl (lv_at hl 3 rfl) ?_
            refine lv_iconst (v := (nI 3)) hx hb dX0_play_94 (by decide) ?_
            refine lv_imul hx hb dX0_play_95 ?_
            refine tp_i (y := nI (kk * 3)) (pk_mul kk 3) ?_
            refine lv_iload hx hb dX0_play_96 (lv_at hl 0 rfl) ?_
            refine lv_iadd hx hb dX0_play_98 ?_
            refine tp_i (y := nI (kk * 3 + 1)) (nI_add _ _) ?_
            refine va_iald hx hb hK hP 7 0 rfl rfl (vp_in_nI (by omega) (by omega)) dX0_play_99 ?_
            refine tp_i (y := (kn (kk * 3 + 1))) (by rw [nI_clamp (by omega)]) ?_
            refine lv_goto (tgt := 116) hx hb dX0_play_100 (by decide) ?_
            refine va_iast hx hb hK hP hD hS 1 0 rfl rfl (vp_in_nI (by omega) (by omega)) dX0_play_116 (fun H locs hP hD hS => ?_)
            rw [nI_clamp (show (n * 3 + v) * 3 + 1 < 2 ^ 31 by omega)] at hP hD
            replace hP : va_P (dC, dI) vwCl (wX cA h0 a1 a2 a3 a4 a5 a6 a7 a8 a9 N T X nw (upd (upd fv ((n * 3 + v) * 3 + 0) (kn (kk * 3 + 0))) ((n * 3 + v) * 3 + 1) (kn (kk * 3 + 1))) tn tw th tk kt kn xt xn) H := hP
            replace hD : va_D A (wX cA h0 a1 a2 a3 a4 a5 a6 a7 a8 a9 N T X nw (upd (upd fv ((n * 3 + v) * 3 + 0) (kn (kk * 3 + 0))) ((n * 3 + v) * 3 + 1) (kn (kk * 3 + 1))) tn tw th tk kt kn xt xn) := hD
            refine lv_iinc (v := nI 2) (lv' := [(6, .int (nI 2)), (5, .int (nI 1)), (4, .int (nI ((n * 3 + v) * 3))), (3, .int (nI kk)), (2, .int (nI (t * 32 + K - 1))), (0, .ref h0), (1, .int (nI t))]) hx hb dX0_play_117 hl (k := 0) rfl (by decide) (by decide) rfl (fun ls hl => ?_)
            refine lv_goto (tgt := 69) hx hb dX0_play_120 (by decide) ?_
            refine lv_iload hx hb dX0_play_69 (lv_at hl 0 rfl) ?_
            refine lv_iconst (v := (nI 3)) hx hb dX0_play_71 (by decide) ?_
            refine lv_icmp_ge (tgt := 123) hx hb dX0_play_72 (by decide) (fun c8 => ?_) (fun c8 => ?_)
            · skip
              have c8 := c8
              exact absurd c8 (by decide)
            · skip
              have c8 := c8
              refine lv_aload_n hx hb dX0_play_75 rfl (lv_at hl 5 rfl) ?_
              refine va_get (D := (dC, dI)) (ci := 0) (v := .ref a1) (C := RX0) (T := TX0) (N := 13) hx hb hts (by decide +kernel) hown hK hP 0 rfl rfl 1 (by decide) (hts (.fieldLink RX0 22 "MotionDesk" "values" "[I") (by decide +kernel)) (fun _ h9 => h9) rfl dX0_play_76 ?_
              refine lv_iload hx hb dX0_play_79 (lv_at hl 2 rfl) ?_
              refine lv_iload hx hb dX0_play_81 (lv_at hl 0 rfl) ?_
              refine lv_iadd hx hb dX0_play_83 ?_
              refine tp_i (y := nI ((n * 3 + v) * 3 + 2)) (nI_add _ _) ?_
              refine lv_iload hx hb dX0_play_84 (lv_at hl 1 rfl) ?_
              refine lv_if_eq (tgt := 103) hx hb dX0_play_86 (by decide) (fun c9 => ?_) (fun c9 => ?_)
              · skip
                have c9 := c9
                exact absurd c9 (by decide)
              · skip
                have c9 := c9
                refine lv_aload_n hx hb dX0_play_89 rfl (lv_at hl 5 rfl) ?_
                refine va_get (D := (dC, dI)) (ci := 0) (v := .ref a7) (C := RX0) (T := TX0) (N := 13) hx hb hts (by decide +kernel) hown hK hP 0 rfl rfl 8 (by decide) (hts (.fieldLink RX0 45 "MotionDesk" "keyNumbers" "[I") (by decide +kernel)) (fun _ h9 => h9) rfl dX0_play_90 ?_
                refine lv_iload_n hx hb dX0_play_93 rfl (lv_at hl 3 rfl) ?_
                refine lv_iconst (v := (nI 3)) hx hb dX0_play_94 (by decide) ?_
                refine lv_imul hx hb dX0_play_95 ?_
                refine tp_i (y := nI (kk * 3)) (pk_mul kk 3) ?_
                refine lv_iload hx hb dX0_play_96 (lv_at hl 0 rfl) ?_
                refine lv_iadd hx hb dX0_play_98 ?_
                refine tp_i (y := nI (kk * 3 + 2)) (nI_add _ _) ?_
                refine va_iald hx hb hK hP 7 0 rfl rfl (vp_in_nI (by omega) (by omega)) dX0_play_99 ?_
                refine tp_i (y := (kn (kk * 3 + 2))) (by rw [nI_clamp (by omega)]) ?_
                refine lv_goto (tgt := 116) hx hb dX0_play_100 (by decide) ?_
                refine va_iast hx hb hK hP hD hS 1 0 rfl rfl (vp_in_nI (by omega) (by omega)) dX0_play_116 (fun H locs hP hD hS => ?_)
                rw [nI_clamp (show (n * 3 + v) * 3 + 2 < 2 ^ 31 by omega)] at hP hD
                replace hP : va_P (dC, dI) vwCl (wX cA h0 a1 a2 a3 a4 a5 a6 a7 a8 a9 N T X nw (upd (upd (upd fv ((n * 3 + v) * 3 + 0) (kn (kk * 3 + 0))) ((n * 3 + v) * 3 + 1) (kn (kk * 3 + 1))) ((n * 3 + v) * 3 + 2) (kn (kk * 3 + 2))) tn tw th tk kt kn xt xn) H := hP
                replace hD : va_D A (wX cA h0 a1 a2 a3 a4 a5 a6 a7 a8 a9 N T X nw (upd (upd (upd fv ((n * 3 + v) * 3 + 0) (kn (kk * 3 + 0))) ((n * 3 + v) * 3 + 1) (kn (kk * 3 + 1))) ((n * 3 + v) * 3 + 2) (kn (kk * 3 + 2))) tn tw th tk kt kn xt xn) := hD
                refine lv_iinc (v := nI 3) (lv' := [(6, .int (nI 3)), (5, .int (nI 1)), (4, .int (nI ((n * 3 + v) * 3))), (3, .int (nI kk)), (2, .int (nI (t * 32 + K - 1))), (0, .ref h0), (1, .int (nI t))]) hx hb dX0_play_117 hl (k := 0) rfl (by decide) (by decide) rfl (fun ls hl => ?_)
                refine lv_goto (tgt := 69) hx hb dX0_play_120 (by decide) ?_
                refine lv_iload hx hb dX0_play_69 (lv_at hl 0 rfl) ?_
                refine lv_iconst (v := (nI 3)) hx hb dX0_play_71 (by decide) ?_
                refine lv_icmp_ge (tgt := 123) hx hb dX0_play_72 (by decide) (fun c10 => ?_) (fun c10 => ?_)
                · skip
                  have c10 := c10
                  exact W.vret hx hb hr (fun t9 ht9 hW9 => ⟨⟨(upd (upd (upd fv ((n * 3 + v) * 3 + 0) (kn (kk * 3 + 0))) ((n * 3 + v) * 3 + 1) (kn (kk * 3 + 1))) ((n * 3 + v) * 3 + 2) (kn (kk * 3 + 2))), rfl, by unfold pl1 put3; simp only [q1, q2, hv, Nat.add_zero], by rw [ht9]; exact hP, va_K.moved hW9.alike hK, hD⟩, hS.F ht9⟩) hS.2.2 dX0_play_123
                · skip
                  have c10 := c10
                  exact absurd c10 (by decide)
  · skip
    have c3 := zne c3
    refine lv_aload_n hx hb dX0_play_46 rfl (lv_at hl 3 rfl) ?_
    refine va_get (D := (dC, dI)) (ci := 0) (v := .int nw) (C := RX0) (T := TX0) (N := 13) hx hb hts (by decide +kernel) hown hK hP 0 rfl rfl 12 (by decide) (hts (.fieldLink RX0 91 "MotionDesk" "now" "I") (by decide +kernel)) (fun _ h9 => h9) rfl dX0_play_47 ?_
    refine lv_aload_n hx hb dX0_play_50 rfl (lv_at hl 3 rfl) ?_
    refine va_get (D := (dC, dI)) (ci := 0) (v := .ref a6) (C := RX0) (T := TX0) (N := 13) hx hb hts (by decide +kernel) hown hK hP 0 rfl rfl 7 (by decide) (hts (.fieldLink RX0 42 "MotionDesk" "keyTimes" "[I") (by decide +kernel)) (fun _ h9 => h9) rfl dX0_play_51 ?_
    refine lv_iload_n hx hb dX0_play_54 rfl (lv_at hl 1 rfl) ?_
    refine va_iald hx hb hK hP 6 0 rfl rfl (vp_in_nI (by omega) (by omega)) dX0_play_55 ?_
    refine tp_i (y := (kt kk)) (by rw [nI_clamp (by omega)]) ?_
    refine lv_icmp_ge (tgt := 63) hx hb dX0_play_56 (by decide) (fun c11 => ?_) (fun c11 => ?_)
    · skip
      have c11 := zle c11
      refine lv_iconst (v := (nI 0)) hx hb dX0_play_63 (by decide) ?_
      refine lv_istore (lv' := [(5, .int (nI 0)), (4, .int (nI ((n * 3 + v) * 3))), (3, .int (nI kk)), (2, .int (nI (t * 32 + K - 1))), (0, .ref h0), (1, .int (nI t))]) hx hb dX0_play_64 hl (by decide) rfl (fun ls hl => ?_)
      have hb2 : kk + 1 < 1024 := by omega
      have hv : ∀ j, plv kt kn nw (th t) (t * 32) K j = btw kt kn nw (th t) kk j := fun j => by unfold plv; rw [← hkk, if_neg (by omega)]
      refine lv_iconst (v := (nI 0)) hx hb dX0_play_66 (by decide) ?_
      refine lv_istore (lv' := [(6, .int (nI 0)), (5, .int (nI 0)), (4, .int (nI ((n * 3 + v) * 3))), (3, .int (nI kk)), (2, .int (nI (t * 32 + K - 1))), (0, .ref h0), (1, .int (nI t))]) hx hb dX0_play_67 hl (by decide) rfl (fun ls hl => ?_)
      refine lv_iload hx hb dX0_play_69 (lv_at hl 0 rfl) ?_
      refine lv_iconst (v := (nI 3)) hx hb dX0_play_71 (by decide) ?_
      refine lv_icmp_ge (tgt := 123) hx hb dX0_play_72 (by decide) (fun c12 => ?_) (fun c12 => ?_)
      · skip
        have c12 := c12
        exact absurd c12 (by decide)
      · skip
        have c12 := c12
        refine lv_aload_n hx hb dX0_play_75 rfl (lv_at hl 5 rfl) ?_
        refine va_get (D := (dC, dI)) (ci := 0) (v := .ref a1) (C := RX0) (T := TX0) (N := 13) hx hb hts (by decide +kernel) hown hK hP 0 rfl rfl 1 (by decide) (hts (.fieldLink RX0 22 "MotionDesk" "values" "[I") (by decide +kernel)) (fun _ h9 => h9) rfl dX0_play_76 ?_
        refine lv_iload hx hb dX0_play_79 (lv_at hl 2 rfl) ?_
        refine lv_iload hx hb dX0_play_81 (lv_at hl 0 rfl) ?_
        refine lv_iadd hx hb dX0_play_83 ?_
        refine tp_i (y := nI ((n * 3 + v) * 3 + 0)) (nI_add _ _) ?_
        refine lv_iload hx hb dX0_play_84 (lv_at hl 1 rfl) ?_
        refine lv_if_eq (tgt := 103) hx hb dX0_play_86 (by decide) (fun c13 => ?_) (fun c13 => ?_)
        · skip
          have c13 := c13
          refine lv_aload_n hx hb dX0_play_103 rfl (lv_at hl 5 rfl) ?_
          refine lv_aload_n hx hb dX0_play_104 rfl (lv_at hl 5 rfl) ?_
          refine va_get (D := (dC, dI)) (ci := 0) (v := .ref a4) (C := RX0) (T := TX0) (N := 13) hx hb hts (by decide +kernel) hown hK hP 0 rfl rfl 5 (by decide) (hts (.fieldLink RX0 36 "MotionDesk" "trackHow" "[I") (by decide +kernel)) (fun _ h9 => h9) rfl dX0_play_105 ?_
          refine lv_iload_n hx hb dX0_play_108 rfl (lv_at hl 6 rfl) ?_
          refine va_iald hx hb hK hP 4 0 rfl rfl (vp_in_nI (by omega) (by omega)) dX0_play_109 ?_
          refine tp_i (y := (th t)) (by rw [nI_clamp (by omega)]) ?_
          refine lv_iload_n hx hb dX0_play_110 rfl (lv_at hl 3 rfl) ?_
          refine lv_iload hx hb dX0_play_111 (lv_at hl 0 rfl) ?_
          refine vp_callSi (W.runV (C := RX0) (As := [.int (th t), .int (nI kk), .int (nI 0)]) (rest := [.int (nI ((n * 3 + v) * 3 + 0)), .ref a1]) ⟨hx, hb, hml, hown, hts⟩ (cx_btw l dC dI cA h0 a1 a2 a3 a4 a5 a6 a7 a8 a9 N T X nw fv tn tw th tk kt kn xt xn (th t) kk 0 hb2 (by decide)) (cwV 3 hts gX0_play_X0_between rfl rfl rfl (by decide +kernel) ⟨Nat.le_of_ble_eq_true rfl, Nat.le_of_ble_eq_true rfl⟩) ⟨fun a U g mk q => ⟨q.1, q.2.1, va_K.moved (u := U) (U := U.calling g mk a) (Vm.Alike.refl U.vm) q.2.2⟩, va_recv hK hP (ci := 0) (q0 := 0) rfl rfl, fun U hU hW => ⟨rfl, by rw [hU]; exact hP, va_K.moved hW.alike hK⟩⟩ rfl rfl hl.1 rfl (lv_room (Nat.le_of_ble_eq_true rfl)) dX0_play_113 ⟨Nat.le_of_ble_eq_true rfl, Nat.le_of_ble_eq_true rfl⟩) (fun r14 h_r14 => ?_)
          refine tp_i (y := btw kt kn nw (th t) kk 0) (h_r14) ?_
          refine va_iast hx hb hK hP hD hS 1 0 rfl rfl (vp_in_nI (by omega) (by omega)) dX0_play_116 (fun H locs hP hD hS => ?_)
          rw [nI_clamp (show (n * 3 + v) * 3 + 0 < 2 ^ 31 by omega)] at hP hD
          replace hP : va_P (dC, dI) vwCl (wX cA h0 a1 a2 a3 a4 a5 a6 a7 a8 a9 N T X nw (upd fv ((n * 3 + v) * 3 + 0) (btw kt kn nw (th t) kk 0)) tn tw th tk kt kn xt xn) H := hP
          replace hD : va_D A (wX cA h0 a1 a2 a3 a4 a5 a6 a7 a8 a9 N T X nw (upd fv ((n * 3 + v) * 3 + 0) (btw kt kn nw (th t) kk 0)) tn tw th tk kt kn xt xn) := hD
          refine lv_iinc (v := nI 1) (lv' := [(6, .int (nI 1)), (5, .int (nI 0)), (4, .int (nI ((n * 3 + v) * 3))), (3, .int (nI kk)), (2, .int (nI (t * 32 + K - 1))), (0, .ref h0), (1, .int (nI t))]) hx hb dX0_play_117 hl (k := 0) rfl (by decide) (by decide) rfl (fun ls hl => ?_)
          refine lv_goto (tgt := 69) hx hb dX0_play_120 (by decide) ?_
          refine lv_iload hx hb dX0_play_69 (lv_at hl 0 rfl) ?_
          refine lv_iconst (v := (nI 3)) hx hb dX0_play_71 (by decide) ?_
          refine lv_icmp_ge (tgt := 123) hx hb dX0_play_72 (by decide) (fun c15 => ?_) (fun c15 => ?_)
          · skip
            have c15 := c15
            exact absurd c15 (by decide)
          · skip
            have c15 := c15
            refine lv_aload_n hx hb dX0_play_75 rfl (lv_at hl 5 rfl) ?_
            refine va_get (D := (dC, dI)) (ci := 0) (v := .ref a1) (C := RX0) (T := TX0) (N := 13) hx hb hts (by decide +kernel) hown hK hP 0 rfl rfl 1 (by decide) (hts (.fieldLink RX0 22 "MotionDesk" "values" "[I") (by decide +kernel)) (fun _ h9 => h9) rfl dX0_play_76 ?_
            refine lv_iload hx hb dX0_play_79 (lv_at hl 2 rfl) ?_
            refine lv_iload hx hb dX0_play_81 (lv_at hl 0 rfl) ?_
            refine lv_iadd hx hb dX0_play_83 ?_
            refine tp_i (y := nI ((n * 3 + v) * 3 + 1)) (nI_add _ _) ?_
            refine lv_iload hx hb dX0_play_84 (lv_at hl 1 rfl) ?_
            refine lv_if_eq (tgt := 103) hx hb dX0_play_86 (by decide) (fun c16 => ?_) (fun c16 => ?_)
            · skip
              have c16 := c16
              refine lv_aload_n hx hb dX0_play_103 rfl (lv_at hl 5 rfl) ?_
              refine lv_aload_n hx hb dX0_play_104 rfl (lv_at hl 5 rfl) ?_
              refine va_get (D := (dC, dI)) (ci := 0) (v := .ref a4) (C := RX0) (T := TX0) (N := 13) hx hb hts (by decide +kernel) hown hK hP 0 rfl rfl 5 (by decide) (hts (.fieldLink RX0 36 "MotionDesk" "trackHow" "[I") (by decide +kernel)) (fun _ h9 => h9) rfl dX0_play_105 ?_
              refine lv_iload_n hx hb dX0_play_108 rfl (lv_at hl 6 rfl) ?_
              refine va_iald hx hb hK hP 4 0 rfl rfl (vp_in_nI (by omega) (by omega)) dX0_play_109 ?_
              refine tp_i (y := (th t)) (by rw [nI_clamp (by omega)]) ?_
              refine lv_iload_n hx hb dX0_play_110 rfl (lv_at hl 3 rfl) ?_
              refine lv_iload hx hb dX0_play_111 (lv_at hl 0 rfl) ?_
              refine vp_callSi (W.runV (C := RX0) (As := [.int (th t), .int (nI kk), .int (nI 1)]) (rest := [.int (nI ((n * 3 + v) * 3 + 1)), .ref a1]) ⟨hx, hb, hml, hown, hts⟩ (cx_btw l dC dI cA h0 a1 a2 a3 a4 a5 a6 a7 a8 a9 N T X nw (upd fv ((n * 3 + v) * 3 + 0) (btw kt kn nw (th t) kk 0)) tn tw th tk kt kn xt xn (th t) kk 1 hb2 (by decide)) (cwV 3 hts gX0_play_X0_between rfl rfl rfl (by decide +kernel) ⟨Nat.le_of_ble_eq_true rfl, Nat.le_of_ble_eq_true rfl⟩) ⟨fun a U g mk q => ⟨q.1, q.2.1, va_K.moved (u := U) (U := U.calling g mk a) (Vm.Alike.refl U.vm) q.2.2⟩, va_recv hK hP (ci := 0) (q0 := 0) rfl rfl, fun U hU hW => ⟨rfl, by rw [hU]; exact hP, va_K.moved hW.alike hK⟩⟩ rfl rfl hl.1 rfl (lv_room (Nat.le_of_ble_eq_true rfl)) dX0_play_113 ⟨Nat.le_of_ble_eq_true rfl, Nat.le_of_ble_eq_true rfl⟩) (fun r17 h_r17 => ?_)
              refine tp_i (y := btw kt kn nw (th t) kk 1) (h_r17) ?_
              refine va_iast hx hb hK hP hD hS 1 0 rfl rfl (vp_in_nI (by omega) (by omega)) dX0_play_116 (fun H locs hP hD hS => ?_)
              rw [nI_clamp (show (n * 3 + v) * 3 + 1 < 2 ^ 31 by omega)] at hP hD
              replace hP : va_P (dC, dI) vwCl (wX cA h0 a1 a2 a3 a4 a5 a6 a7 a8 a9 N T X nw (upd (upd fv ((n * 3 + v) * 3 + 0) (btw kt kn nw (th t) kk 0)) ((n * 3 + v) * 3 + 1) (btw kt kn nw (th t) kk 1)) tn tw th tk kt kn xt xn) H := hP
              replace hD : va_D A (wX cA h0 a1 a2 a3 a4 a5 a6 a7 a8 a9 N T X nw (upd (upd fv ((n * 3 + v) * 3 + 0) (btw kt kn nw (th t) kk 0)) ((n * 3 + v) * 3 + 1) (btw kt kn nw (th t) kk 1)) tn tw th tk kt kn xt xn) := hD
              refine lv_iinc (v := nI 2) (lv' := [(6, .int (nI 2)), (5, .int (nI 0)), (4, .int (nI ((n * 3 + v) * 3))), (3, .int (nI kk)), (2, .int (nI (t * 32 + K - 1))), (0, .ref h0), (1, .int (nI t))]) hx hb dX0_play_117 hl (k := 0) rfl (by decide) (by decide) rfl (fun ls hl => ?_)
              refine lv_goto (tgt := 69) hx hb dX0_play_120 (by decide) ?_
              refine lv_iload hx hb dX0_play_69 (lv_at hl 0 rfl) ?_
              refine lv_iconst (v := (nI 3)) hx hb dX0_play_71 (by decide) ?_
              refine lv_icmp_ge (tgt := 123) hx hb dX0_play_72 (by decide) (fun c18 => ?_) (fun c18 => ?_)
              · skip
                have c18 := c18
                exact absurd c18 (by decide)
              · skip
                have c18 := c18
                refine lv_aload_n hx hb dX0_play_75 rfl (lv_at hl 5 rfl) ?_
                refine va_get (D := (dC, dI)) (ci := 0) (v := .ref a1) (C := RX0) (T := TX0) (N := 13) hx hb hts (by decide +kernel) hown hK hP 0 rfl rfl 1 (by decide) (hts (.fieldLink RX0 22 "MotionDesk" "values" "[I") (by decide +kernel)) (fun _ h9 => h9) rfl dX0_play_76 ?_
                refine lv_iload hx hb dX0_play_79 (lv_at hl 2 rfl) ?_
                refine lv_iload hx hb dX0_play_81 (lv_at hl 0 rfl) ?_
                refine lv_iadd hx hb dX0_play_83 ?_
                refine tp_i (y := nI ((n * 3 + v) * 3 + 2)) (nI_add _ _) ?_
                refine lv_iload hx hb dX0_play_84 (lv_at hl 1 rfl) ?_
                refine lv_if_eq (tgt := 103) hx hb dX0_play_86 (by decide) (fun c19 => ?_) (fun c19 => ?_)
                · skip
                  have c19 := c19
                  refine lv_aload_n hx hb dX0_play_103 rfl (lv_at hl 5 rfl) ?_
                  refine lv_aload_n hx hb dX0_play_104 rfl (lv_at hl 5 rfl) ?_
                  refine va_get (D := (dC, dI)) (ci := 0) (v := .ref a4) (C := RX0) (T := TX0) (N := 13) hx hb hts (by decide +kernel) hown hK hP 0 rfl rfl 5 (by decide) (hts (.fieldLink RX0 36 "MotionDesk" "trackHow" "[I") (by decide +kernel)) (fun _ h9 => h9) rfl dX0_play_105 ?_
                  refine lv_iload_n hx hb dX0_play_108 rfl (lv_at hl 6 rfl) ?_
                  refine va_iald hx hb hK hP 4 0 rfl rfl (vp_in_nI (by omega) (by omega)) dX0_play_109 ?_
                  refine tp_i (y := (th t)) (by rw [nI_clamp (by omega)]) ?_
                  refine lv_iload_n hx hb dX0_play_110 rfl (lv_at hl 3 rfl) ?_
                  refine lv_iload hx hb dX0_play_111 (lv_at hl 0 rfl) ?_
                  refine vp_callSi (W.runV (C := RX0) (As := [.int (th t), .int (nI kk), .int (nI 2)]) (rest := [.int (nI ((n * 3 + v) * 3 + 2)), .ref a1]) ⟨hx, hb, hml, hown, hts⟩ (cx_btw l dC dI cA h0 a1 a2 a3 a4 a5 a6 a7 a8 a9 N T X nw (upd (upd fv ((n * 3 + v) * 3 + 0) (btw kt kn nw (th t) kk 0)) ((n * 3 + v) * 3 + 1) (btw kt kn nw (th t) kk 1)) tn tw th tk kt kn xt xn (th t) kk 2 hb2 (by decide)) (cwV 3 hts gX0_play_X0_between rfl rfl rfl (by decide +kernel) ⟨Nat.le_of_ble_eq_true rfl, Nat.le_of_ble_eq_true rfl⟩) ⟨fun a U g mk q => ⟨q.1, q.2.1, va_K.moved (u := U) (U := U.calling g mk a) (Vm.Alike.refl U.vm) q.2.2⟩, va_recv hK hP (ci := 0) (q0 := 0) rfl rfl, fun U hU hW => ⟨rfl, by rw [hU]; exact hP, va_K.moved hW.alike hK⟩⟩ rfl rfl hl.1 rfl (lv_room (Nat.le_of_ble_eq_true rfl)) dX0_play_113 ⟨Nat.le_of_ble_eq_true rfl, Nat.le_of_ble_eq_true rfl⟩) (fun r20 h_r20 => ?_)
                  refine tp_i (y := btw kt kn nw (th t) kk 2) (h_r20) ?_
                  refine va_iast hx hb hK hP hD hS 1 0 rfl rfl (vp_in_nI (by omega) (by omega)) dX0_play_116 (fun H locs hP hD hS => ?_)
                  rw [nI_clamp (show (n * 3 + v) * 3 + 2 < 2 ^ 31 by omega)] at hP hD
                  replace hP : va_P (dC, dI) vwCl (wX cA h0 a1 a2 a3 a4 a5 a6 a7 a8 a9 N T X nw (upd (upd (upd fv ((n * 3 + v) * 3 + 0) (btw kt kn nw (th t) kk 0)) ((n * 3 + v) * 3 + 1) (btw kt kn nw (th t) kk 1)) ((n * 3 + v) * 3 + 2) (btw kt kn nw (th t) kk 2)) tn tw th tk kt kn xt xn) H := hP
                  replace hD : va_D A (wX cA h0 a1 a2 a3 a4 a5 a6 a7 a8 a9 N T X nw (upd (upd (upd fv ((n * 3 + v) * 3 + 0) (btw kt kn nw (th t) kk 0)) ((n * 3 + v) * 3 + 1) (btw kt kn nw (th t) kk 1)) ((n * 3 + v) * 3 + 2) (btw kt kn nw (th t) kk 2)) tn tw th tk kt kn xt xn) := hD
                  refine lv_iinc (v := nI 3) (lv' := [(6, .int (nI 3)), (5, .int (nI 0)), (4, .int (nI ((n * 3 + v) * 3))), (3, .int (nI kk)), (2, .int (nI (t * 32 + K - 1))), (0, .ref h0), (1, .int (nI t))]) hx hb dX0_play_117 hl (k := 0) rfl (by decide) (by decide) rfl (fun ls hl => ?_)
                  refine lv_goto (tgt := 69) hx hb dX0_play_120 (by decide) ?_
                  refine lv_iload hx hb dX0_play_69 (lv_at hl 0 rfl) ?_
                  refine lv_iconst (v := (nI 3)) hx hb dX0_play_71 (by decide) ?_
                  refine lv_icmp_ge (tgt := 123) hx hb dX0_play_72 (by decide) (fun c21 => ?_) (fun c21 => ?_)
                  · skip
                    have c21 := c21
                    exact W.vret hx hb hr (fun t9 ht9 hW9 => ⟨⟨(upd (upd (upd fv ((n * 3 + v) * 3 + 0) (btw kt kn nw (th t) kk 0)) ((n * 3 + v) * 3 + 1) (btw kt kn nw (th t) kk 1)) ((n * 3 + v) * 3 + 2) (btw kt kn nw (th t) kk 2)), rfl, by unfold pl1 put3; simp only [q1, q2, hv, Nat.add_zero], by rw [ht9]; exact hP, va_K.moved hW9.alike hK, hD⟩, hS.F ht9⟩) hS.2.2 dX0_play_123
                  · skip
                    have c21 := c21
                    exact absurd c21 (by decide)
                · skip
                  have c19 := c19
                  exact absurd c19 (by decide)
            · skip
              have c16 := c16
              exact absurd c16 (by decide)
        · skip
          have c13 := c13
          exact absurd c13 (by decide)
    · skip
      have c11 := znle c11
      refine lv_iconst (v := (nI 1)) hx hb dX0_play_59 (by decide) ?_
      refine lv_goto (tgt := 64) hx hb dX0_play_60 (by decide) ?_
      refine lv_istore (lv' := [(5, .int (nI 1)), (4, .int (nI ((n * 3 + v) * 3))), (3, .int (nI kk)), (2, .int (nI (t * 32 + K - 1))), (0, .ref h0), (1, .int (nI t))]) hx hb dX0_play_64 hl (by decide) rfl (fun ls hl => ?_)
      have hv : ∀ j, plv kt kn nw (th t) (t * 32) K j = kn (kk * 3 + j) := fun j => by unfold plv; rw [← hkk, if_pos (Or.inr c11)]
      refine lv_iconst (v := (nI 0)) hx hb dX0_play_66 (by decide) ?_
      refine lv_istore (lv' := [(6, .int (nI 0)), (5, .int (nI 1)), (4, .int (nI ((n * 3 + v) * 3))), (3, .int (nI kk)), (2, .int (nI (t * 32 + K - 1))), (0, .ref h0), (1, .int (nI t))]) hx hb dX0_play_67 hl (by decide) rfl (fun ls hl => ?_)
      refine lv_iload hx hb dX0_play_69 (lv_at hl 0 rfl) ?_
      refine lv_iconst (v := (nI 3)) hx hb dX0_play_71 (by decide) ?_
      refine lv_icmp_ge (tgt := 123) hx hb dX0_play_72 (by decide) (fun c22 => ?_) (fun c22 => ?_)
      · skip
        have c22 := c22
        exact absurd c22 (by decide)
      · skip
        have c22 := c22
        refine lv_aload_n hx hb dX0_play_75 rfl (lv_at hl 5 rfl) ?_
        refine va_get (D := (dC, dI)) (ci := 0) (v := .ref a1) (C := RX0) (T := TX0) (N := 13) hx hb hts (by decide +kernel) hown hK hP 0 rfl rfl 1 (by decide) (hts (.fieldLink RX0 22 "MotionDesk" "values" "[I") (by decide +kernel)) (fun _ h9 => h9) rfl dX0_play_76 ?_
        refine lv_iload hx hb dX0_play_79 (lv_at hl 2 rfl) ?_
        refine lv_iload hx hb dX0_play_81 (lv_at hl 0 rfl) ?_
        refine lv_iadd hx hb dX0_play_83 ?_
        refine tp_i (y := nI ((n * 3 + v) * 3 + 0)) (nI_add _ _) ?_
        refine lv_iload hx hb dX0_play_84 (lv_at hl 1 rfl) ?_
        refine lv_if_eq (tgt := 103) hx hb dX0_play_86 (by decide) (fun c23 => ?_) (fun c23 => ?_)
        · skip
          have c23 := c23
          exact absurd c23 (by decide)
        · skip
          have c23 := c23
          refine lv_aload_n hx hb dX0_play_89 rfl (lv_at hl 5 rfl) ?_
          refine va_get (D := (dC, dI)) (ci := 0) (v := .ref a7) (C := RX0) (T := TX0) (N := 13) hx hb hts (by decide +kernel) hown hK hP 0 rfl rfl 8 (by decide) (hts (.fieldLink RX0 45 "MotionDesk" "keyNumbers" "[I") (by decide +kernel)) (fun _ h9 => h9) rfl dX0_play_90 ?_
          refine lv_iload_n hx hb dX0_play_93 rfl (lv_at hl 3 rfl) ?_
          refine lv_iconst (v := (nI 3)) hx hb dX0_play_94 (by decide) ?_
          refine lv_imul hx hb dX0_play_95 ?_
          refine tp_i (y := nI (kk * 3)) (pk_mul kk 3) ?_
          refine lv_iload hx hb dX0_play_96 (lv_at hl 0 rfl) ?_
          refine lv_iadd hx hb dX0_play_98 ?_
          refine tp_i (y := nI (kk * 3 + 0)) (nI_add _ _) ?_
          refine va_iald hx hb hK hP 7 0 rfl rfl (vp_in_nI (by omega) (by omega)) dX0_play_99 ?_
          refine tp_i (y := (kn (kk * 3 + 0))) (by rw [nI_clamp (by omega)]) ?_
          refine lv_goto (tgt := 116) hx hb dX0_play_100 (by decide) ?_
          refine va_iast hx hb hK hP hD hS 1 0 rfl rfl (vp_in_nI (by omega) (by omega)) dX0_play_116 (fun H locs hP hD hS => ?_)
          rw [nI_clamp (show (n * 3 + v) * 3 + 0 < 2 ^ 31 by omega)] at hP hD
          replace hP : va_P (dC, dI) vwCl (wX cA h0 a1 a2 a3 a4 a5 a6 a7 a8 a9 N T X nw (upd fv ((n * 3 + v) * 3 + 0) (kn (kk * 3 + 0))) tn tw th tk kt kn xt xn) H := hP
          replace hD : va_D A (wX cA h0 a1 a2 a3 a4 a5 a6 a7 a8 a9 N T X nw (upd fv ((n * 3 + v) * 3 + 0) (kn (kk * 3 + 0))) tn tw th tk kt kn xt xn) := hD
          refine lv_iinc (v := nI 1) (lv' := [(6, .int (nI 1)), (5, .int (nI 1)), (4, .int (nI ((n * 3 + v) * 3))), (3, .int (nI kk)), (2, .int (nI (t * 32 + K - 1))), (0, .ref h0), (1, .int (nI t))]) hx hb dX0_play_117 hl (k := 0) rfl (by decide) (by decide) rfl (fun ls hl => ?_)
          refine lv_goto (tgt := 69) hx hb dX0_play_120 (by decide) ?_
          refine lv_iload hx hb dX0_play_69 (lv_at hl 0 rfl) ?_
          refine lv_iconst (v := (nI 3)) hx hb dX0_play_71 (by decide) ?_
          refine lv_icmp_ge (tgt := 123) hx hb dX0_play_72 (by decide) (fun c24 => ?_) (fun c24 => ?_)
          · skip
            have c24 := c24
            exact absurd c24 (by decide)
          · skip
            have c24 := c24
            refine lv_aload_n hx hb dX0_play_75 rfl (lv_at hl 5 rfl) ?_
            refine va_get (D := (dC, dI)) (ci := 0) (v := .ref a1) (C := RX0) (T := TX0) (N := 13) hx hb hts (by decide +kernel) hown hK hP 0 rfl rfl 1 (by decide) (hts (.fieldLink RX0 22 "MotionDesk" "values" "[I") (by decide +kernel)) (fun _ h9 => h9) rfl dX0_play_76 ?_
            refine lv_iload hx hb dX0_play_79 (lv_at hl 2 rfl) ?_
            refine lv_iload hx hb dX0_play_81 (lv_at hl 0 rfl) ?_
            refine lv_iadd hx hb dX0_play_83 ?_
            refine tp_i (y := nI ((n * 3 + v) * 3 + 1)) (nI_add _ _) ?_
            refine lv_iload hx hb dX0_play_84 (lv_at hl 1 rfl) ?_
            refine lv_if_eq (tgt := 103) hx hb dX0_play_86 (by decide) (fun c25 => ?_) (fun c25 => ?_)
            · skip
              have c25 := c25
              exact absurd c25 (by decide)
            · skip
              have c25 := c25
              refine lv_aload_n hx hb dX0_play_89 rfl (lv_at hl 5 rfl) ?_
              refine va_get (D := (dC, dI)) (ci := 0) (v := .ref a7) (C := RX0) (T := TX0) (N := 13) hx hb hts (by decide +kernel) hown hK hP 0 rfl rfl 8 (by decide) (hts (.fieldLink RX0 45 "MotionDesk" "keyNumbers" "[I") (by decide +kernel)) (fun _ h9 => h9) rfl dX0_play_90 ?_
              refine lv_iload_n hx hb dX0_play_93 rfl (lv_at hl 3 rfl) ?_
              refine lv_iconst (v := (nI 3)) hx hb dX0_play_94 (by decide) ?_
              refine lv_imul hx hb dX0_play_95 ?_
              refine tp_i (y := nI (kk * 3)) (pk_mul kk 3) ?_
              refine lv_iload hx hb dX0_play_96 (lv_at hl 0 rfl) ?_
              refine lv_iadd hx hb dX0_play_98 ?_
              refine tp_i (y := nI (kk * 3 + 1)) (nI_add _ _) ?_
              refine va_iald hx hb hK hP 7 0 rfl rfl (vp_in_nI (by omega) (by omega)) dX0_play_99 ?_
              refine tp_i (y := (kn (kk * 3 + 1))) (by rw [nI_clamp (by omega)]) ?_
              refine lv_goto (tgt := 116) hx hb dX0_play_100 (by decide) ?_
              refine va_iast hx hb hK hP hD hS 1 0 rfl rfl (vp_in_nI (by omega) (by omega)) dX0_play_116 (fun H locs hP hD hS => ?_)
              rw [nI_clamp (show (n * 3 + v) * 3 + 1 < 2 ^ 31 by omega)] at hP hD
              replace hP : va_P (dC, dI) vwCl (wX cA h0 a1 a2 a3 a4 a5 a6 a7 a8 a9 N T X nw (upd (upd fv ((n * 3 + v) * 3 + 0) (kn (kk * 3 + 0))) ((n * 3 + v) * 3 + 1) (kn (kk * 3 + 1))) tn tw th tk kt kn xt xn) H := hP
              replace hD : va_D A (wX cA h0 a1 a2 a3 a4 a5 a6 a7 a8 a9 N T X nw (upd (upd fv ((n * 3 + v) * 3 + 0) (kn (kk * 3 + 0))) ((n * 3 + v) * 3 + 1) (kn (kk * 3 + 1))) tn tw th tk kt kn xt xn) := hD
              refine lv_iinc (v := nI 2) (lv' := [(6, .int (nI 2)), (5, .int (nI 1)), (4, .int (nI ((n * 3 + v) * 3))), (3, .int (nI kk)), (2, .int (nI (t * 32 + K - 1))), (0, .ref h0), (1, .int (nI t))]) hx hb dX0_play_117 hl (k := 0) rfl (by decide) (by decide) rfl (fun ls hl => ?_)
              refine lv_goto (tgt := 69) hx hb dX0_play_120 (by decide) ?_
              refine lv_iload hx hb dX0_play_69 (lv_at hl 0 rfl) ?_
              refine lv_iconst (v := (nI 3)) hx hb dX0_play_71 (by decide) ?_
              refine lv_icmp_ge (tgt := 123) hx hb dX0_play_72 (by decide) (fun c26 => ?_) (fun c26 => ?_)
              · skip
                have c26 := c26
                exact absurd c26 (by decide)
              · skip
                have c26 := c26
                refine lv_aload_n hx hb dX0_play_75 rfl (lv_at hl 5 rfl) ?_
                refine va_get (D := (dC, dI)) (ci := 0) (v := .ref a1) (C := RX0) (T := TX0) (N := 13) hx hb hts (by decide +kernel) hown hK hP 0 rfl rfl 1 (by decide) (hts (.fieldLink RX0 22 "MotionDesk" "values" "[I") (by decide +kernel)) (fun _ h9 => h9) rfl dX0_play_76 ?_
                refine lv_iload hx hb dX0_play_79 (lv_at hl 2 rfl) ?_
                refine lv_iload hx hb dX0_play_81 (lv_at hl 0 rfl) ?_
                refine lv_iadd hx hb dX0_play_83 ?_
                refine tp_i (y := nI ((n * 3 + v) * 3 + 2)) (nI_add _ _) ?_
                refine lv_iload hx hb dX0_play_84 (lv_at hl 1 rfl) ?_
                refine lv_if_eq (tgt := 103) hx hb dX0_play_86 (by decide) (fun c27 => ?_) (fun c27 => ?_)
                · skip
                  have c27 := c27
                  exact absurd c27 (by decide)
                · skip
                  have c27 := c27
                  refine lv_aload_n hx hb dX0_play_89 rfl (lv_at hl 5 rfl) ?_
                  refine va_get (D := (dC, dI)) (ci := 0) (v := .ref a7) (C := RX0) (T := TX0) (N := 13) hx hb hts (by decide +kernel) hown hK hP 0 rfl rfl 8 (by decide) (hts (.fieldLink RX0 45 "MotionDesk" "keyNumbers" "[I") (by decide +kernel)) (fun _ h9 => h9) rfl dX0_play_90 ?_
                  refine lv_iload_n hx hb dX0_play_93 rfl (lv_at hl 3 rfl) ?_
                  refine lv_iconst (v := (nI 3)) hx hb dX0_play_94 (by decide) ?_
                  refine lv_imul hx hb dX0_play_95 ?_
                  refine tp_i (y := nI (kk * 3)) (pk_mul kk 3) ?_
                  refine lv_iload hx hb dX0_play_96 (lv_at hl 0 rfl) ?_
                  refine lv_iadd hx hb dX0_play_98 ?_
                  refine tp_i (y := nI (kk * 3 + 2)) (nI_add _ _) ?_
                  refine va_iald hx hb hK hP 7 0 rfl rfl (vp_in_nI (by omega) (by omega)) dX0_play_99 ?_
                  refine tp_i (y := (kn (kk * 3 + 2))) (by rw [nI_clamp (by omega)]) ?_
                  refine lv_goto (tgt := 116) hx hb dX0_play_100 (by decide) ?_
                  refine va_iast hx hb hK hP hD hS 1 0 rfl rfl (vp_in_nI (by omega) (by omega)) dX0_play_116 (fun H locs hP hD hS => ?_)
                  rw [nI_clamp (show (n * 3 + v) * 3 + 2 < 2 ^ 31 by omega)] at hP hD
                  replace hP : va_P (dC, dI) vwCl (wX cA h0 a1 a2 a3 a4 a5 a6 a7 a8 a9 N T X nw (upd (upd (upd fv ((n * 3 + v) * 3 + 0) (kn (kk * 3 + 0))) ((n * 3 + v) * 3 + 1) (kn (kk * 3 + 1))) ((n * 3 + v) * 3 + 2) (kn (kk * 3 + 2))) tn tw th tk kt kn xt xn) H := hP
                  replace hD : va_D A (wX cA h0 a1 a2 a3 a4 a5 a6 a7 a8 a9 N T X nw (upd (upd (upd fv ((n * 3 + v) * 3 + 0) (kn (kk * 3 + 0))) ((n * 3 + v) * 3 + 1) (kn (kk * 3 + 1))) ((n * 3 + v) * 3 + 2) (kn (kk * 3 + 2))) tn tw th tk kt kn xt xn) := hD
                  refine lv_iinc (v := nI 3) (lv' := [(6, .int (nI 3)), (5, .int (nI 1)), (4, .int (nI ((n * 3 + v) * 3))), (3, .int (nI kk)), (2, .int (nI (t * 32 + K - 1))), (0, .ref h0), (1, .int (nI t))]) hx hb dX0_play_117 hl (k := 0) rfl (by decide) (by decide) rfl (fun ls hl => ?_)
                  refine lv_goto (tgt := 69) hx hb dX0_play_120 (by decide) ?_
                  refine lv_iload hx hb dX0_play_69 (lv_at hl 0 rfl) ?_
                  refine lv_iconst (v := (nI 3)) hx hb dX0_play_71 (by decide) ?_
                  refine lv_icmp_ge (tgt := 123) hx hb dX0_play_72 (by decide) (fun c28 => ?_) (fun c28 => ?_)
                  · skip
                    have c28 := c28
                    exact W.vret hx hb hr (fun t9 ht9 hW9 => ⟨⟨(upd (upd (upd fv ((n * 3 + v) * 3 + 0) (kn (kk * 3 + 0))) ((n * 3 + v) * 3 + 1) (kn (kk * 3 + 1))) ((n * 3 + v) * 3 + 2) (kn (kk * 3 + 2))), rfl, by unfold pl1 put3; simp only [q1, q2, hv, Nat.add_zero], by rw [ht9]; exact hP, va_K.moved hW9.alike hK, hD⟩, hS.F ht9⟩) hS.2.2 dX0_play_123
                  · skip
                    have c28 := c28
                    exact absurd c28 (by decide)
set_option maxHeartbeats 4000000 in
set_option maxRecDepth 100000 in
/-- time(t) -/
theorem cx_time (l : Launch) (dC : Nat → ClassId) (dI : Nat → Nat → Nat) (cA : ClassId) (h0 a1 a2 a3 a4 a5 a6 a7 a8 a9 N T X : Nat) (nw : Int32) (fv tn tw th tk kt kn xt xn : Nat → Int32) (sz : Nat) (t : Int32) (hT : T ≤ 32) (hN : N ≤ 48) (htr : ∀ j, j < T → q_trk N tn tw tk j) : Met l yX0_time wsX0_time ({ frames := 6, cells := 0, slots := 0, locals := 149 }) (va_Pc [.ref h0, .int t] (eX sz dC dI cA h0 a1 a2 a3 a4 a5 a6 a7 a8 a9 N T X nw fv tn tw th tk kt kn xt xn)) (va_Qi (fun (r : Int32) (u : Int32 × (Nat → Int32)) => (q_time t → r = nI 1 ∧ u = (t, pls kt kn t tn tw th tk fv T)) ∧ (¬ q_time t → r = nI 0 ∧ u = (nw, fv))) (fun u => bX (va_A (wX cA h0 a1 a2 a3 a4 a5 a6 a7 a8 a9 N T X nw fv tn tw th tk kt kn xt xn) sz) dC dI cA h0 a1 a2 a3 a4 a5 a6 a7 a8 a9 N T X u.1 u.2 tn tw th tk kt kn xt xn) (va_A (wX cA h0 a1 a2 a3 a4 a5 a6 a7 a8 a9 N T X nw fv tn tw th tk kt kn xt xn) sz)) 0 0 (va_A (wX cA h0 a1 a2 a3 a4 a5 a6 a7 a8 a9 N T X nw fv tn tw th tk kt kn xt xn) sz) := by
  refine Met.ofW (cc := cX0_time) (maxL := 3) (ret := (some .boolean)) (by decide) rfl ?_
  intro p e s m args below meth c s₁ B hml hv
  obtain ⟨rfl, hsz, hP, hK, hD0⟩ := hv
  have hx := B.exec
  have hb := B.bytes
  have hr := B.returns
  have hts := atoms_spec (ws := wsX0_time) B.pre
  have hown : s.vm.findClass RX0 = some m.cls := findClass_of_methodNamed B.named
  have hlocks := B.notSynchronized
  subst hsz
  have hD := hD0.self (sz := s.heap.size)
  generalize hAe : va_A (wX cA h0 a1 a2 a3 a4 a5 a6 a7 a8 a9 N T X nw fv tn tw th tk kt kn xt xn) s.heap.size = A at hD ⊢
  have hA : ∀ q : Nat, s.heap.size ≤ q → A q := fun q h => by rw [← hAe]; exact Or.inr h
  have hS : va_S A s.heap s.heap [] := va_S.rf
  have hP : va_P (dC, dI) vwCl (wX cA h0 a1 a2 a3 a4 a5 a6 a7 a8 a9 N T X nw fv tn tw th tk kt kn xt xn) s.heap := hP
  have hl := lv_entry ([.ref h0, .int t]) (n := 3) (Nat.le_of_ble_eq_true rfl)
  rw [lg_entry_eq]
  generalize (lg_sl ([.ref h0, .int t]) ++ List.replicate (3 - (lg_sl ([.ref h0, .int t])).length) Slot.unset).toArray = ls at hl ⊢
  have hl : lv_has ls 3 [(0, .ref h0), (1, .int t)] := hl
  have t1 : (nI T).toInt = T := nI_toInt (by omega)
  refine lv_iload_n hx hb dX0_time_0 rfl (lv_at hl 1 rfl) ?_
  refine vp_callSi (W.runS (As := [.int t]) (rest := []) ⟨hx, hb, hml, hown, hts⟩ (cx_isTime l t) (va_cwS 1 hts gX0_time_X0_isTime rfl rfl rfl (by decide +kernel) ⟨Nat.le_of_ble_eq_true rfl, Nat.le_of_ble_eq_true rfl⟩) preEq rfl rfl hl.1 rfl (lv_room (Nat.le_of_ble_eq_true rfl)) dX0_time_1 ⟨Nat.le_of_ble_eq_true rfl, Nat.le_of_ble_eq_true rfl⟩) (fun bo1 h_bo1 => ?_)
  refine lv_if_ne (tgt := 9) hx hb dX0_time_4 (by decide) (fun c2 => ?_) (fun c2 => ?_)
  · skip
    have c2 := btT h_bo1 c2
    refine lv_aload_n hx hb dX0_time_9 rfl (lv_at hl 0 rfl) ?_
    refine lv_iload_n hx hb dX0_time_10 rfl (lv_at hl 1 rfl) ?_
    refine va_put (D := (dC, dI)) (ci := 0) (v := .int t) (ty := .int) (C := RX0) (T := TX0) (N := 13) hx hb hts (by decide +kernel) tyX0 tyX0_ok nmX0 hown hK hP hD hS 0 rfl rfl 12 (by decide) (hts (.fieldLink RX0 91 "MotionDesk" "now" "I") (by decide +kernel)) (fun _ h9 => h9) rfl (by decide +kernel) rfl rfl (Nat.le_of_ble_eq_true rfl) dX0_time_11 (fun H locs hP hD hS => ?_)
    replace hP : va_P (dC, dI) vwCl (wX cA h0 a1 a2 a3 a4 a5 a6 a7 a8 a9 N T X t fv tn tw th tk kt kn xt xn) H := hP
    replace hD : va_D A (wX cA h0 a1 a2 a3 a4 a5 a6 a7 a8 a9 N T X t fv tn tw th tk kt kn xt xn) := hD
    refine lv_iconst (v := (nI 0)) hx hb dX0_time_14 (by decide) ?_
    refine lv_istore_n (lv' := [(2, .int (nI 0)), (0, .ref h0), (1, .int t)]) hx hb dX0_time_15 rfl hl (by decide) rfl (fun ls hl => ?_)
    obtain ⟨n, k, hn, hP9, hD9, hl9⟩ : ∃ n k : Nat, k + n = T ∧ va_P (dC, dI) vwCl (wX cA h0 a1 a2 a3 a4 a5 a6 a7 a8 a9 N T X t (pls kt kn t tn tw th tk fv k) tn tw th tk kt kn xt xn) H ∧ va_D A (wX cA h0 a1 a2 a3 a4 a5 a6 a7 a8 a9 N T X t (pls kt kn t tn tw th tk fv k) tn tw th tk kt kn xt xn) ∧ lv_has ls 3 [(2, .int (nI k)), (0, .ref h0), (1, .int t)] := ⟨T, 0, by omega, hP, hD, hl⟩
    clear hl hP hD; have hl := hl9; have hP := hP9; have hD := hD9; clear hl9 hP9 hD9
    induction n generalizing k ls H locs with
    | zero =>
      have t2 : (nI k).toInt = k := nI_toInt (by omega)
      refine lv_iload_n hx hb dX0_time_16 rfl (lv_at hl 0 rfl) ?_
      refine lv_aload_n hx hb dX0_time_17 rfl (lv_at hl 1 rfl) ?_
      refine va_get (D := (dC, dI)) (ci := 0) (v := .int (nI T)) (C := RX0) (T := TX0) (N := 13) hx hb hts (by decide +kernel) hown hK hP 0 rfl rfl 2 (by decide) (hts (.fieldLink RX0 69 "MotionDesk" "trackCount" "I") (by decide +kernel)) (fun _ h9 => h9) rfl dX0_time_18 ?_
      refine lv_icmp_ge (tgt := 35) hx hb dX0_time_21 (by decide) (fun c3 => ?_) (fun c3 => ?_)
      · skip
        have c3 := zle c3
        refine lv_iconst (v := (nI 1)) hx hb dX0_time_35 (by decide) ?_
        exact W.zret (v := (nI 1)) (ty := .boolean) hx hb hr (by decide) (fun t9 ht9 hW9 => ⟨⟨(nI 1), (t, (pls kt kn t tn tw th tk fv k)), rfl, br_t c2 ⟨rfl, by rw [show k = T by omega]⟩, by rw [ht9]; exact hP, va_K.moved hW9.alike hK, hD⟩, hS.F ht9⟩) hS.2.2 dX0_time_36
      · skip
        have c3 := znle c3
        exfalso; omega
    | succ n ih =>
      have t2 : (nI k).toInt = k := nI_toInt (by omega)
      refine lv_iload_n hx hb dX0_time_16 rfl (lv_at hl 0 rfl) ?_
      refine lv_aload_n hx hb dX0_time_17 rfl (lv_at hl 1 rfl) ?_
      refine va_get (D := (dC, dI)) (ci := 0) (v := .int (nI T)) (C := RX0) (T := TX0) (N := 13) hx hb hts (by decide +kernel) hown hK hP 0 rfl rfl 2 (by decide) (hts (.fieldLink RX0 69 "MotionDesk" "trackCount" "I") (by decide +kernel)) (fun _ h9 => h9) rfl dX0_time_18 ?_
      refine lv_icmp_ge (tgt := 35) hx hb dX0_time_21 (by decide) (fun c4 => ?_) (fun c4 => ?_)
      · skip
        have c4 := zle c4
        exfalso; omega
      · skip
        have c4 := znle c4
        refine lv_aload_n hx hb dX0_time_24 rfl (lv_at hl 1 rfl) ?_
        refine lv_iload_n hx hb dX0_time_25 rfl (lv_at hl 0 rfl) ?_
        obtain ⟨g1, g2, g3, g4⟩ := htr k (by omega)
        obtain ⟨K, hK1, hK2, etk⟩ := z_in1 g3 g4
        obtain ⟨n1, hn1, etn⟩ := z_in g1.1 g1.2
        obtain ⟨v1, hv1, etw⟩ := z_in g2.1 g2.2
        have hFc := va_free (wc := (wX cA h0 a1 a2 a3 a4 a5 a6 a7 a8 a9 N T X t (pls kt kn t tn tw th tk fv k) tn tw th tk kt kn xt xn)) hD hS hA [0, 1, 2, 3, 4, 5, 6, 7, 8, 9] rfl
        refine va_callv (va_runV (C := RX0) (As := [.int (nI k)]) (rest := []) ⟨hx, hb, hml, hown, hts⟩ (cx_play l dC dI cA h0 a1 a2 a3 a4 a5 a6 a7 a8 a9 N T X t (pls kt kn t tn tw th tk fv k) tn tw th tk kt kn xt xn H.size k K n1 v1 hT (by omega) hN hK1 hK2 hn1 hv1 etk etn etw) (cwV 1 hts gX0_time_X0_play rfl rfl rfl (by decide +kernel) ⟨Nat.le_of_ble_eq_true rfl, Nat.le_of_ble_eq_true rfl⟩) ⟨fun a U g mk q => by obtain ⟨q0, q1, qP, qK, qD⟩ := q; exact ⟨q0, q1, qP, va_K.moved (u := U) (U := U.calling g mk a) (Vm.Alike.refl U.vm) qK, qD⟩, va_recv hK hP (ci := 0) (q0 := 0) rfl rfl, fun U hU hW => ⟨rfl, by rw [hU], by rw [hU]; exact hP, va_K.moved hW.alike hK, hD.weaken (fun _ _ _ _ => trivial)⟩⟩ rfl rfl hl.1 rfl (lv_room (Nat.le_of_ble_eq_true rfl)) dX0_time_26 ⟨Nat.zero_le _, Nat.zero_le _⟩) hS (fun q _ h => hFc q h) hFc (fun u t9 H1 locs ht9 hvm hw hB hz1 hk1 hS => ?_)
        obtain ⟨hP1, hK1, hD1⟩ := hB
        rw [ht9] at hP1
        obtain rfl : u = pls kt kn t tn tw th tk fv (k + 1) := hw
        have hP := hP1
        have hD := hD1.weaken (fun _ q _ h => hFc q.1 h)
        clear hP1 hD1 hFc hk1 hz1 ht9 hvm hK1
        generalize H1 = H at hP hS ⊢
        replace hP : va_P (dC, dI) vwCl (wX cA h0 a1 a2 a3 a4 a5 a6 a7 a8 a9 N T X t (pls kt kn t tn tw th tk fv (k + 1)) tn tw th tk kt kn xt xn) H := hP
        replace hD : va_D A (wX cA h0 a1 a2 a3 a4 a5 a6 a7 a8 a9 N T X t (pls kt kn t tn tw th tk fv (k + 1)) tn tw th tk kt kn xt xn) := hD
        refine lv_iinc (v := nI (k + 1)) (lv' := [(2, .int (nI (k + 1))), (0, .ref h0), (1, .int t)]) hx hb dX0_time_29 hl (k := 0) rfl (nI_1 k) (by decide) rfl (fun ls hl => ?_)
        refine lv_goto (tgt := 16) hx hb dX0_time_32 (by decide) ?_
        exact ih (ls := ls) (k := k + 1) (H := H) (locs := locs) hS (by omega) hl hP hD
  · skip
    have c2 := btF h_bo1 c2
    refine lv_iconst (v := (nI 0)) hx hb dX0_time_7 (by decide) ?_
    exact W.zret (v := (nI 0)) (ty := .boolean) hx hb hr (by decide) (fun t9 ht9 hW9 => ⟨⟨(nI 0), (nw, fv), rfl, br_f c2 ⟨rfl, rfl⟩, by rw [ht9]; exact hP, va_K.moved hW9.alike hK, hD⟩, hS.F ht9⟩) hS.2.2 dX0_time_8
