set_option maxHeartbeats 4000000 in
set_option maxRecDepth 100000 in
/-- time(t) -/
theorem cm_time (l : Launch) (dC : Nat → ClassId) (dI : Nat → Nat → Nat) (cA : ClassId) (g0 b1 b2 b3 b4 b5 b6 b7 b8 b9 N T X : Nat) (nw : Int32) (fv tn tw th tk kt kn xt xn : Nat → Int32) (sz : Nat) (t : Int32) (hT : T ≤ 32) (hN : N ≤ 48) (htr : ∀ j, j < T → q_trk N tn tw tk j ∧ q_how (th j) ∧ q_grow kt (j * 32) (tk j).toInt.toNat) : Met l yX1_time wsX1_time ({ frames := 3, cells := 0, slots := 0, locals := 86 }) (va_Pc [.ref g0, .int t] (eM sz dC dI cA g0 b1 b2 b3 b4 b5 b6 b7 b8 b9 N T X nw fv tn tw th tk kt kn xt xn)) (va_Qi (fun (r : Int32) (u : Int32 × (Nat → Int32)) => (q_time t → r = nI 1 ∧ u = (t, pls kt kn t tn tw th tk fv T)) ∧ (¬ q_time t → r = nI 0 ∧ u = (nw, fv))) (fun u => bM (va_A (wM cA g0 b1 b2 b3 b4 b5 b6 b7 b8 b9 N T X nw fv tn tw th tk kt kn xt xn) sz) dC dI cA g0 b1 b2 b3 b4 b5 b6 b7 b8 b9 N T X u.1 u.2 tn tw th tk kt kn xt xn) (va_A (wM cA g0 b1 b2 b3 b4 b5 b6 b7 b8 b9 N T X nw fv tn tw th tk kt kn xt xn) sz)) 0 0 (va_A (wM cA g0 b1 b2 b3 b4 b5 b6 b7 b8 b9 N T X nw fv tn tw th tk kt kn xt xn) sz) := by
  refine Met.ofW (cc := cX1_time) (maxL := 4) (ret := (some .boolean)) (by decide) rfl ?_
  intro p e s m args below meth c s₁ B hml hv
  obtain ⟨rfl, hsz, hP, hK, hD0⟩ := hv
  have hx := B.exec
  have hb := B.bytes
  have hr := B.returns
  have hts := atoms_spec (ws := wsX1_time) B.pre
  have hown : s.vm.findClass RX1 = some m.cls := findClass_of_methodNamed B.named
  have hlocks := B.notSynchronized
  subst hsz
  have hD := hD0.self (sz := s.heap.size)
  generalize hAe : va_A (wM cA g0 b1 b2 b3 b4 b5 b6 b7 b8 b9 N T X nw fv tn tw th tk kt kn xt xn) s.heap.size = A at hD ⊢
  have hA : ∀ q : Nat, s.heap.size ≤ q → A q := fun q h => by rw [← hAe]; exact Or.inr h
  have hS : va_S A s.heap s.heap [] := va_S.rf
  have hP : va_P (dC, dI) vwCl (wM cA g0 b1 b2 b3 b4 b5 b6 b7 b8 b9 N T X nw fv tn tw th tk kt kn xt xn) s.heap := hP
  have hl := lv_entry ([.ref g0, .int t]) (n := 4) (Nat.le_of_ble_eq_true rfl)
  rw [lg_entry_eq]
  generalize (lg_sl ([.ref g0, .int t]) ++ List.replicate (4 - (lg_sl ([.ref g0, .int t])).length) Slot.unset).toArray = ls at hl ⊢
  have hl : lv_has ls 4 [(0, .ref g0), (1, .int t)] := hl
  have t0 := z_0
  have t1 : (nI T).toInt = T := nI_toInt (by omega)
  have t3 : (1000000 : Int32).toInt = 1000000 := by decide
  refine lv_aload_n hx hb dX1_time_0 rfl (lv_at hl 0 rfl) ?_
  refine lv_iconst (v := (nI 0)) hx hb dX1_time_1 (by decide) ?_
  refine va_put (D := (dC, dI)) (ci := 1) (v := .int (nI 0)) (ty := .int) (C := RX1) (T := TX1) (N := 14) hx hb hts (by decide +kernel) tyX1 tyX1_ok nmX1 hown hK hP hD hS 0 rfl rfl 0 (by decide) (hts (.fieldLink RX1 42 "MotionDeskModel" "thrown" "I") (by decide +kernel)) (fun _ h9 => h9) rfl (by decide +kernel) rfl rfl (Nat.le_of_ble_eq_true rfl) dX1_time_2 (fun H locs hP hD hS => ?_)
  replace hP : va_P (dC, dI) vwCl (wM cA g0 b1 b2 b3 b4 b5 b6 b7 b8 b9 N T X nw fv tn tw th tk kt kn xt xn) H := hP
  replace hD : va_D A (wM cA g0 b1 b2 b3 b4 b5 b6 b7 b8 b9 N T X nw fv tn tw th tk kt kn xt xn) := hD
  refine lv_iload_n hx hb dX1_time_5 rfl (lv_at hl 1 rfl) ?_
  refine lv_if_lt (tgt := 15) hx hb dX1_time_6 (by decide) (fun c1 => ?_) (fun c1 => ?_)
  · skip
    have c1 := zlt c1
    refine lv_iconst (v := (nI 0)) hx hb dX1_time_15 (by decide) ?_
    exact W.zret (v := (nI 0)) (ty := .boolean) hx hb hr (by decide) (fun t9 ht9 hW9 => ⟨⟨(nI 0), (nw, fv), rfl, br_f (by unfold q_time; omega) ⟨rfl, rfl⟩, by rw [ht9]; exact hP, va_K.moved hW9.alike hK, hD⟩, hS.F ht9⟩) hS.2.2 dX1_time_16
  · skip
    have c1 := znlt c1
    refine lv_iload_n hx hb dX1_time_9 rfl (lv_at hl 1 rfl) ?_
    refine lv_ldc (v := 1000000) hx hb hown (hts (.constant RX1 47 1000000) (by decide +kernel)) dX1_time_10 ?_
    refine lv_icmp_le (tgt := 17) hx hb dX1_time_12 (by decide) (fun c2 => ?_) (fun c2 => ?_)
    · skip
      have c2 := zle c2
      have hv : q_time t := by unfold q_time; omega
      refine lv_aload_n hx hb dX1_time_17 rfl (lv_at hl 0 rfl) ?_
      refine lv_iload_n hx hb dX1_time_18 rfl (lv_at hl 1 rfl) ?_
      refine va_put (D := (dC, dI)) (ci := 1) (v := .int t) (ty := .int) (C := RX1) (T := TX1) (N := 14) hx hb hts (by decide +kernel) tyX1 tyX1_ok nmX1 hown hK hP hD hS 0 rfl rfl 3 (by decide) (hts (.fieldLink RX1 74 "MotionDeskModel" "now" "I") (by decide +kernel)) (fun _ h9 => h9) rfl (by decide +kernel) rfl rfl (Nat.le_of_ble_eq_true rfl) dX1_time_19 (fun H locs hP hD hS => ?_)
      replace hP : va_P (dC, dI) vwCl (wM cA g0 b1 b2 b3 b4 b5 b6 b7 b8 b9 N T X t fv tn tw th tk kt kn xt xn) H := hP
      replace hD : va_D A (wM cA g0 b1 b2 b3 b4 b5 b6 b7 b8 b9 N T X t fv tn tw th tk kt kn xt xn) := hD
      refine lv_iconst (v := (nI 0)) hx hb dX1_time_22 (by decide) ?_
      refine lv_istore_n (lv' := [(2, .int (nI 0)), (0, .ref g0), (1, .int t)]) hx hb dX1_time_23 rfl hl (by decide) rfl (fun ls hl => ?_)
      obtain ⟨n, k, hn, hP9, hD9, hl9⟩ : ∃ n k : Nat, k + n = T ∧ va_P (dC, dI) vwCl (wM cA g0 b1 b2 b3 b4 b5 b6 b7 b8 b9 N T X t (pls kt kn t tn tw th tk fv k) tn tw th tk kt kn xt xn) H ∧ va_D A (wM cA g0 b1 b2 b3 b4 b5 b6 b7 b8 b9 N T X t (pls kt kn t tn tw th tk fv k) tn tw th tk kt kn xt xn) ∧ lv_has ls 4 [(2, .int (nI k)), (0, .ref g0), (1, .int t)] := ⟨T, 0, by omega, hP, hD, hl⟩
      clear hl hP hD; have hl := hl9; have hP := hP9; have hD := hD9; clear hl9 hP9 hD9
      induction n generalizing k ls H locs with
      | zero =>
        have t2 : (nI k).toInt = k := nI_toInt (by omega)
        refine lv_iload_n hx hb dX1_time_24 rfl (lv_at hl 0 rfl) ?_
        refine lv_aload_n hx hb dX1_time_25 rfl (lv_at hl 1 rfl) ?_
        refine va_get (D := (dC, dI)) (ci := 1) (v := .int (nI T)) (C := RX1) (T := TX1) (N := 14) hx hb hts (by decide +kernel) hown hK hP 0 rfl rfl 7 (by decide) (hts (.fieldLink RX1 58 "MotionDeskModel" "tracks" "I") (by decide +kernel)) (fun _ h9 => h9) rfl dX1_time_26 ?_
        refine lv_icmp_ge (tgt := 83) hx hb dX1_time_29 (by decide) (fun c3 => ?_) (fun c3 => ?_)
        · skip
          have c3 := zle c3
          refine lv_iconst (v := (nI 1)) hx hb dX1_time_83 (by decide) ?_
          exact W.zret (v := (nI 1)) (ty := .boolean) hx hb hr (by decide) (fun t9 ht9 hW9 => ⟨⟨(nI 1), (t, (pls kt kn t tn tw th tk fv k)), rfl, br_t hv ⟨rfl, by rw [show k = T by omega]⟩, by rw [ht9]; exact hP, va_K.moved hW9.alike hK, hD⟩, hS.F ht9⟩) hS.2.2 dX1_time_84
        · skip
          have c3 := znle c3
          exfalso; omega
      | succ n ih =>
        have t2 : (nI k).toInt = k := nI_toInt (by omega)
        refine lv_iload_n hx hb dX1_time_24 rfl (lv_at hl 0 rfl) ?_
        refine lv_aload_n hx hb dX1_time_25 rfl (lv_at hl 1 rfl) ?_
        refine va_get (D := (dC, dI)) (ci := 1) (v := .int (nI T)) (C := RX1) (T := TX1) (N := 14) hx hb hts (by decide +kernel) hown hK hP 0 rfl rfl 7 (by decide) (hts (.fieldLink RX1 58 "MotionDeskModel" "tracks" "I") (by decide +kernel)) (fun _ h9 => h9) rfl dX1_time_26 ?_
        refine lv_icmp_ge (tgt := 83) hx hb dX1_time_29 (by decide) (fun c4 => ?_) (fun c4 => ?_)
        · skip
          have c4 := zle c4
          exfalso; omega
        · skip
          have c4 := znle c4
          obtain ⟨⟨g1, g2, g3, g4⟩, hw, hg⟩ := htr k (by omega)
          obtain ⟨K, hK1, hK2, etk⟩ : ∃ K : Nat, 1 ≤ K ∧ K ≤ 32 ∧ tk k = nI K := z_in1 g3 g4
          obtain ⟨n1, hn1, etn⟩ := z_in g1.1 g1.2
          obtain ⟨v1, hv1, etw⟩ : ∃ v1 : Nat, v1 < 3 ∧ tw k = nI v1 := z_in g2.1 g2.2
          have q1 : (tk k).toInt.toNat = K := by rw [etk, nI_toInt (by omega)]; omega
          have q2 : pl_of (tn k) (tw k) = (n1 * 3 + v1) * 3 := by unfold pl_of; rw [etn, etw, nI_toInt (by omega), nI_toInt (by omega)]; omega
          rw [q1] at hg
          refine lv_iconst (v := (nI 0)) hx hb dX1_time_32 (by decide) ?_
          refine lv_istore_n (lv' := [(3, .int (nI 0)), (2, .int (nI k)), (0, .ref g0), (1, .int t)]) hx hb dX1_time_33 rfl hl (by decide) rfl (fun ls hl => ?_)
          refine lv_iload_n hx hb dX1_time_34 rfl (lv_at hl 0 rfl) ?_
          refine lv_iconst (v := (nI 3)) hx hb dX1_time_35 (by decide) ?_
          refine lv_icmp_ge (tgt := 77) hx hb dX1_time_36 (by decide) (fun c5 => ?_) (fun c5 => ?_)
          · skip
            have c5 := c5
            exact absurd c5 (by decide)
          · skip
            have c5 := c5
            refine lv_aload_n hx hb dX1_time_39 rfl (lv_at hl 2 rfl) ?_
            refine va_get (D := (dC, dI)) (ci := 1) (v := .ref b1) (C := RX1) (T := TX1) (N := 14) hx hb hts (by decide +kernel) hown hK hP 0 rfl rfl 2 (by decide) (hts (.fieldLink RX1 7 "MotionDeskModel" "poses" "[I") (by decide +kernel)) (fun _ h9 => h9) rfl dX1_time_40 ?_
            refine lv_bipush (v := (nI 9)) hx hb dX1_time_43 (by decide) ?_
            refine lv_aload_n hx hb dX1_time_45 rfl (lv_at hl 2 rfl) ?_
            refine va_get (D := (dC, dI)) (ci := 1) (v := .ref b2) (C := RX1) (T := TX1) (N := 14) hx hb hts (by decide +kernel) hown hK hP 0 rfl rfl 8 (by decide) (hts (.fieldLink RX1 19 "MotionDeskModel" "nodeOf" "[I") (by decide +kernel)) (fun _ h9 => h9) rfl dX1_time_46 ?_
            refine lv_iload_n hx hb dX1_time_49 rfl (lv_at hl 1 rfl) ?_
            refine va_iald hx hb hK hP 2 0 rfl rfl (vp_in_nI (by omega) (by omega)) dX1_time_50 ?_
            refine tp_i (y := (tn k)) (by rw [nI_clamp (by omega)]) ?_
            refine tp_i (y := nI n1) (etn) ?_
            refine lv_imul hx hb dX1_time_51 ?_
            refine tp_i (y := nI (n1 * 9)) (by rw [pk_mul, Nat.mul_comm]) ?_
            refine lv_iconst (v := (nI 3)) hx hb dX1_time_52 (by decide) ?_
            refine lv_aload_n hx hb dX1_time_53 rfl (lv_at hl 2 rfl) ?_
            refine va_get (D := (dC, dI)) (ci := 1) (v := .ref b3) (C := RX1) (T := TX1) (N := 14) hx hb hts (by decide +kernel) hown hK hP 0 rfl rfl 9 (by decide) (hts (.fieldLink RX1 22 "MotionDeskModel" "whatOf" "[I") (by decide +kernel)) (fun _ h9 => h9) rfl dX1_time_54 ?_
            refine lv_iload_n hx hb dX1_time_57 rfl (lv_at hl 1 rfl) ?_
            refine va_iald hx hb hK hP 3 0 rfl rfl (vp_in_nI (by omega) (by omega)) dX1_time_58 ?_
            refine tp_i (y := (tw k)) (by rw [nI_clamp (by omega)]) ?_
            refine tp_i (y := nI v1) (etw) ?_
            refine lv_imul hx hb dX1_time_59 ?_
            refine tp_i (y := nI (v1 * 3)) (by rw [pk_mul, Nat.mul_comm]) ?_
            refine lv_iadd hx hb dX1_time_60 ?_
            refine tp_i (y := nI ((n1 * 3 + v1) * 3)) (by rw [nI_add, show n1 * 9 + v1 * 3 = (n1 * 3 + v1) * 3 by omega]) ?_
            refine lv_iload_n hx hb dX1_time_61 rfl (lv_at hl 0 rfl) ?_
            refine lv_iadd hx hb dX1_time_62 ?_
            refine tp_i (y := nI ((n1 * 3 + v1) * 3 + 0)) (nI_add _ _) ?_
            refine lv_aload_n hx hb dX1_time_63 rfl (lv_at hl 2 rfl) ?_
            refine lv_iload_n hx hb dX1_time_64 rfl (lv_at hl 1 rfl) ?_
            refine lv_iload_n hx hb dX1_time_65 rfl (lv_at hl 0 rfl) ?_
            refine lv_iload_n hx hb dX1_time_66 rfl (lv_at hl 3 rfl) ?_
            refine vp_callSi (W.runV (C := RX1) (As := [.int (nI k), .int (nI 0), .int t]) (rest := [.int (nI ((n1 * 3 + v1) * 3 + 0)), .ref b1]) ⟨hx, hb, hml, hown, hts⟩ (cm_at l dC dI cA g0 b1 b2 b3 b4 b5 b6 b7 b8 b9 N T X t (pls kt kn t tn tw th tk fv k) tn tw th tk kt kn xt xn k 0 K t hT (by omega) (by decide) hK1 hK2 etk hw hg hv) (cwV 3 hts gX1_time_X1_at rfl rfl rfl (by decide +kernel) ⟨Nat.le_of_ble_eq_true rfl, Nat.le_of_ble_eq_true rfl⟩) ⟨fun a U g mk q => ⟨q.1, q.2.1, va_K.moved (u := U) (U := U.calling g mk a) (Vm.Alike.refl U.vm) q.2.2⟩, va_recv hK hP (ci := 1) (q0 := 0) rfl rfl, fun U hU hW => ⟨rfl, by rw [hU]; exact hP, va_K.moved hW.alike hK⟩⟩ rfl rfl hl.1 rfl (lv_room (Nat.le_of_ble_eq_true rfl)) dX1_time_67 ⟨Nat.le_of_ble_eq_true rfl, Nat.le_of_ble_eq_true rfl⟩) (fun r6 h_r6 => ?_)
            refine tp_i (y := plv kt kn t (th k) (k * 32) K 0) (h_r6) ?_
            refine va_iast hx hb hK hP hD hS 1 0 rfl rfl (vp_in_nI (by omega) (by omega)) dX1_time_70 (fun H locs hP hD hS => ?_)
            rw [nI_clamp (show (n1 * 3 + v1) * 3 + 0 < 2 ^ 31 by omega)] at hP hD
            replace hP : va_P (dC, dI) vwCl (wM cA g0 b1 b2 b3 b4 b5 b6 b7 b8 b9 N T X t (upd (pls kt kn t tn tw th tk fv k) ((n1 * 3 + v1) * 3 + 0) (plv kt kn t (th k) (k * 32) K 0)) tn tw th tk kt kn xt xn) H := hP
            replace hD : va_D A (wM cA g0 b1 b2 b3 b4 b5 b6 b7 b8 b9 N T X t (upd (pls kt kn t tn tw th tk fv k) ((n1 * 3 + v1) * 3 + 0) (plv kt kn t (th k) (k * 32) K 0)) tn tw th tk kt kn xt xn) := hD
            refine lv_iinc (v := nI 1) (lv' := [(3, .int (nI 1)), (2, .int (nI k)), (0, .ref g0), (1, .int t)]) hx hb dX1_time_71 hl (k := 0) rfl (by decide) (by decide) rfl (fun ls hl => ?_)
            refine lv_goto (tgt := 34) hx hb dX1_time_74 (by decide) ?_
            refine lv_iload_n hx hb dX1_time_34 rfl (lv_at hl 0 rfl) ?_
            refine lv_iconst (v := (nI 3)) hx hb dX1_time_35 (by decide) ?_
            refine lv_icmp_ge (tgt := 77) hx hb dX1_time_36 (by decide) (fun c7 => ?_) (fun c7 => ?_)
            · skip
              have c7 := c7
              exact absurd c7 (by decide)
            · skip
              have c7 := c7
              refine lv_aload_n hx hb dX1_time_39 rfl (lv_at hl 2 rfl) ?_
              refine va_get (D := (dC, dI)) (ci := 1) (v := .ref b1) (C := RX1) (T := TX1) (N := 14) hx hb hts (by decide +kernel) hown hK hP 0 rfl rfl 2 (by decide) (hts (.fieldLink RX1 7 "MotionDeskModel" "poses" "[I") (by decide +kernel)) (fun _ h9 => h9) rfl dX1_time_40 ?_
              refine lv_bipush (v := (nI 9)) hx hb dX1_time_43 (by decide) ?_
              refine lv_aload_n hx hb dX1_time_45 rfl (lv_at hl 2 rfl) ?_
              refine va_get (D := (dC, dI)) (ci := 1) (v := .ref b2) (C := RX1) (T := TX1) (N := 14) hx hb hts (by decide +kernel) hown hK hP 0 rfl rfl 8 (by decide) (hts (.fieldLink RX1 19 "MotionDeskModel" "nodeOf" "[I") (by decide +kernel)) (fun _ h9 => h9) rfl dX1_time_46 ?_
              refine lv_iload_n hx hb dX1_time_49 rfl (lv_at hl 1 rfl) ?_
              refine va_iald hx hb hK hP 2 0 rfl rfl (vp_in_nI (by omega) (by omega)) dX1_time_50 ?_
              refine tp_i (y := (tn k)) (by rw [nI_clamp (by omega)]) ?_
              refine tp_i (y := nI n1) (etn) ?_
              refine lv_imul hx hb dX1_time_51 ?_
              refine tp_i (y := nI (n1 * 9)) (by rw [pk_mul, Nat.mul_comm]) ?_
              refine lv_iconst (v := (nI 3)) hx hb dX1_time_52 (by decide) ?_
              refine lv_aload_n hx hb dX1_time_53 rfl (lv_at hl 2 rfl) ?_
              refine va_get (D := (dC, dI)) (ci := 1) (v := .ref b3) (C := RX1) (T := TX1) (N := 14) hx hb hts (by decide +kernel) hown hK hP 0 rfl rfl 9 (by decide) (hts (.fieldLink RX1 22 "MotionDeskModel" "whatOf" "[I") (by decide +kernel)) (fun _ h9 => h9) rfl dX1_time_54 ?_
              refine lv_iload_n hx hb dX1_time_57 rfl (lv_at hl 1 rfl) ?_
              refine va_iald hx hb hK hP 3 0 rfl rfl (vp_in_nI (by omega) (by omega)) dX1_time_58 ?_
              refine tp_i (y := (tw k)) (by rw [nI_clamp (by omega)]) ?_
              refine tp_i (y := nI v1) (etw) ?_
              refine lv_imul hx hb dX1_time_59 ?_
              refine tp_i (y := nI (v1 * 3)) (by rw [pk_mul, Nat.mul_comm]) ?_
              refine lv_iadd hx hb dX1_time_60 ?_
              refine tp_i (y := nI ((n1 * 3 + v1) * 3)) (by rw [nI_add, show n1 * 9 + v1 * 3 = (n1 * 3 + v1) * 3 by omega]) ?_
              refine lv_iload_n hx hb dX1_time_61 rfl (lv_at hl 0 rfl) ?_
              refine lv_iadd hx hb dX1_time_62 ?_
              refine tp_i (y := nI ((n1 * 3 + v1) * 3 + 1)) (nI_add _ _) ?_
              refine lv_aload_n hx hb dX1_time_63 rfl (lv_at hl 2 rfl) ?_
              refine lv_iload_n hx hb dX1_time_64 rfl (lv_at hl 1 rfl) ?_
              refine lv_iload_n hx hb dX1_time_65 rfl (lv_at hl 0 rfl) ?_
              refine lv_iload_n hx hb dX1_time_66 rfl (lv_at hl 3 rfl) ?_
              refine vp_callSi (W.runV (C := RX1) (As := [.int (nI k), .int (nI 1), .int t]) (rest := [.int (nI ((n1 * 3 + v1) * 3 + 1)), .ref b1]) ⟨hx, hb, hml, hown, hts⟩ (cm_at l dC dI cA g0 b1 b2 b3 b4 b5 b6 b7 b8 b9 N T X t (upd (pls kt kn t tn tw th tk fv k) ((n1 * 3 + v1) * 3 + 0) (plv kt kn t (th k) (k * 32) K 0)) tn tw th tk kt kn xt xn k 1 K t hT (by omega) (by decide) hK1 hK2 etk hw hg hv) (cwV 3 hts gX1_time_X1_at rfl rfl rfl (by decide +kernel) ⟨Nat.le_of_ble_eq_true rfl, Nat.le_of_ble_eq_true rfl⟩) ⟨fun a U g mk q => ⟨q.1, q.2.1, va_K.moved (u := U) (U := U.calling g mk a) (Vm.Alike.refl U.vm) q.2.2⟩, va_recv hK hP (ci := 1) (q0 := 0) rfl rfl, fun U hU hW => ⟨rfl, by rw [hU]; exact hP, va_K.moved hW.alike hK⟩⟩ rfl rfl hl.1 rfl (lv_room (Nat.le_of_ble_eq_true rfl)) dX1_time_67 ⟨Nat.le_of_ble_eq_true rfl, Nat.le_of_ble_eq_true rfl⟩) (fun r8 h_r8 => ?_)
              refine tp_i (y := plv kt kn t (th k) (k * 32) K 1) (h_r8) ?_
              refine va_iast hx hb hK hP hD hS 1 0 rfl rfl (vp_in_nI (by omega) (by omega)) dX1_time_70 (fun H locs hP hD hS => ?_)
              rw [nI_clamp (show (n1 * 3 + v1) * 3 + 1 < 2 ^ 31 by omega)] at hP hD
              replace hP : va_P (dC, dI) vwCl (wM cA g0 b1 b2 b3 b4 b5 b6 b7 b8 b9 N T X t (upd (upd (pls kt kn t tn tw th tk fv k) ((n1 * 3 + v1) * 3 + 0) (plv kt kn t (th k) (k * 32) K 0)) ((n1 * 3 + v1) * 3 + 1) (plv kt kn t (th k) (k * 32) K 1)) tn tw th tk kt kn xt xn) H := hP
              replace hD : va_D A (wM cA g0 b1 b2 b3 b4 b5 b6 b7 b8 b9 N T X t (upd (upd (pls kt kn t tn tw th tk fv k) ((n1 * 3 + v1) * 3 + 0) (plv kt kn t (th k) (k * 32) K 0)) ((n1 * 3 + v1) * 3 + 1) (plv kt kn t (th k) (k * 32) K 1)) tn tw th tk kt kn xt xn) := hD
              refine lv_iinc (v := nI 2) (lv' := [(3, .int (nI 2)), (2, .int (nI k)), (0, .ref g0), (1, .int t)]) hx hb dX1_time_71 hl (k := 0) rfl (by decide) (by decide) rfl (fun ls hl => ?_)
              refine lv_goto (tgt := 34) hx hb dX1_time_74 (by decide) ?_
              refine lv_iload_n hx hb dX1_time_34 rfl (lv_at hl 0 rfl) ?_
              refine lv_iconst (v := (nI 3)) hx hb dX1_time_35 (by decide) ?_
              refine lv_icmp_ge (tgt := 77) hx hb dX1_time_36 (by decide) (fun c9 => ?_) (fun c9 => ?_)
              · skip
                have c9 := c9
                exact absurd c9 (by decide)
              · skip
                have c9 := c9
                refine lv_aload_n hx hb dX1_time_39 rfl (lv_at hl 2 rfl) ?_
                refine va_get (D := (dC, dI)) (ci := 1) (v := .ref b1) (C := RX1) (T := TX1) (N := 14) hx hb hts (by decide +kernel) hown hK hP 0 rfl rfl 2 (by decide) (hts (.fieldLink RX1 7 "MotionDeskModel" "poses" "[I") (by decide +kernel)) (fun _ h9 => h9) rfl dX1_time_40 ?_
                refine lv_bipush (v := (nI 9)) hx hb dX1_time_43 (by decide) ?_
                refine lv_aload_n hx hb dX1_time_45 rfl (lv_at hl 2 rfl) ?_
                refine va_get (D := (dC, dI)) (ci := 1) (v := .ref b2) (C := RX1) (T := TX1) (N := 14) hx hb hts (by decide +kernel) hown hK hP 0 rfl rfl 8 (by decide) (hts (.fieldLink RX1 19 "MotionDeskModel" "nodeOf" "[I") (by decide +kernel)) (fun _ h9 => h9) rfl dX1_time_46 ?_
                refine lv_iload_n hx hb dX1_time_49 rfl (lv_at hl 1 rfl) ?_
                refine va_iald hx hb hK hP 2 0 rfl rfl (vp_in_nI (by omega) (by omega)) dX1_time_50 ?_
                refine tp_i (y := (tn k)) (by rw [nI_clamp (by omega)]) ?_
                refine tp_i (y := nI n1) (etn) ?_
                refine lv_imul hx hb dX1_time_51 ?_
                refine tp_i (y := nI (n1 * 9)) (by rw [pk_mul, Nat.mul_comm]) ?_
                refine lv_iconst (v := (nI 3)) hx hb dX1_time_52 (by decide) ?_
                refine lv_aload_n hx hb dX1_time_53 rfl (lv_at hl 2 rfl) ?_
                refine va_get (D := (dC, dI)) (ci := 1) (v := .ref b3) (C := RX1) (T := TX1) (N := 14) hx hb hts (by decide +kernel) hown hK hP 0 rfl rfl 9 (by decide) (hts (.fieldLink RX1 22 "MotionDeskModel" "whatOf" "[I") (by decide +kernel)) (fun _ h9 => h9) rfl dX1_time_54 ?_
                refine lv_iload_n hx hb dX1_time_57 rfl (lv_at hl 1 rfl) ?_
                refine va_iald hx hb hK hP 3 0 rfl rfl (vp_in_nI (by omega) (by omega)) dX1_time_58 ?_
                refine tp_i (y := (tw k)) (by rw [nI_clamp (by omega)]) ?_
                refine tp_i (y := nI v1) (etw) ?_
                refine lv_imul hx hb dX1_time_59 ?_
                refine tp_i (y := nI (v1 * 3)) (by rw [pk_mul, Nat.mul_comm]) ?_
                refine lv_iadd hx hb dX1_time_60 ?_
                refine tp_i (y := nI ((n1 * 3 + v1) * 3)) (by rw [nI_add, show n1 * 9 + v1 * 3 = (n1 * 3 + v1) * 3 by omega]) ?_
                refine lv_iload_n hx hb dX1_time_61 rfl (lv_at hl 0 rfl) ?_
                refine lv_iadd hx hb dX1_time_62 ?_
                refine tp_i (y := nI ((n1 * 3 + v1) * 3 + 2)) (nI_add _ _) ?_
                refine lv_aload_n hx hb dX1_time_63 rfl (lv_at hl 2 rfl) ?_
                refine lv_iload_n hx hb dX1_time_64 rfl (lv_at hl 1 rfl) ?_
                refine lv_iload_n hx hb dX1_time_65 rfl (lv_at hl 0 rfl) ?_
                refine lv_iload_n hx hb dX1_time_66 rfl (lv_at hl 3 rfl) ?_
                refine vp_callSi (W.runV (C := RX1) (As := [.int (nI k), .int (nI 2), .int t]) (rest := [.int (nI ((n1 * 3 + v1) * 3 + 2)), .ref b1]) ⟨hx, hb, hml, hown, hts⟩ (cm_at l dC dI cA g0 b1 b2 b3 b4 b5 b6 b7 b8 b9 N T X t (upd (upd (pls kt kn t tn tw th tk fv k) ((n1 * 3 + v1) * 3 + 0) (plv kt kn t (th k) (k * 32) K 0)) ((n1 * 3 + v1) * 3 + 1) (plv kt kn t (th k) (k * 32) K 1)) tn tw th tk kt kn xt xn k 2 K t hT (by omega) (by decide) hK1 hK2 etk hw hg hv) (cwV 3 hts gX1_time_X1_at rfl rfl rfl (by decide +kernel) ⟨Nat.le_of_ble_eq_true rfl, Nat.le_of_ble_eq_true rfl⟩) ⟨fun a U g mk q => ⟨q.1, q.2.1, va_K.moved (u := U) (U := U.calling g mk a) (Vm.Alike.refl U.vm) q.2.2⟩, va_recv hK hP (ci := 1) (q0 := 0) rfl rfl, fun U hU hW => ⟨rfl, by rw [hU]; exact hP, va_K.moved hW.alike hK⟩⟩ rfl rfl hl.1 rfl (lv_room (Nat.le_of_ble_eq_true rfl)) dX1_time_67 ⟨Nat.le_of_ble_eq_true rfl, Nat.le_of_ble_eq_true rfl⟩) (fun r10 h_r10 => ?_)
                refine tp_i (y := plv kt kn t (th k) (k * 32) K 2) (h_r10) ?_
                refine va_iast hx hb hK hP hD hS 1 0 rfl rfl (vp_in_nI (by omega) (by omega)) dX1_time_70 (fun H locs hP hD hS => ?_)
                rw [nI_clamp (show (n1 * 3 + v1) * 3 + 2 < 2 ^ 31 by omega)] at hP hD
                replace hP : va_P (dC, dI) vwCl (wM cA g0 b1 b2 b3 b4 b5 b6 b7 b8 b9 N T X t (upd (upd (upd (pls kt kn t tn tw th tk fv k) ((n1 * 3 + v1) * 3 + 0) (plv kt kn t (th k) (k * 32) K 0)) ((n1 * 3 + v1) * 3 + 1) (plv kt kn t (th k) (k * 32) K 1)) ((n1 * 3 + v1) * 3 + 2) (plv kt kn t (th k) (k * 32) K 2)) tn tw th tk kt kn xt xn) H := hP
                replace hD : va_D A (wM cA g0 b1 b2 b3 b4 b5 b6 b7 b8 b9 N T X t (upd (upd (upd (pls kt kn t tn tw th tk fv k) ((n1 * 3 + v1) * 3 + 0) (plv kt kn t (th k) (k * 32) K 0)) ((n1 * 3 + v1) * 3 + 1) (plv kt kn t (th k) (k * 32) K 1)) ((n1 * 3 + v1) * 3 + 2) (plv kt kn t (th k) (k * 32) K 2)) tn tw th tk kt kn xt xn) := hD
                refine lv_iinc (v := nI 3) (lv' := [(3, .int (nI 3)), (2, .int (nI k)), (0, .ref g0), (1, .int t)]) hx hb dX1_time_71 hl (k := 0) rfl (by decide) (by decide) rfl (fun ls hl => ?_)
                refine lv_goto (tgt := 34) hx hb dX1_time_74 (by decide) ?_
                refine lv_iload_n hx hb dX1_time_34 rfl (lv_at hl 0 rfl) ?_
                refine lv_iconst (v := (nI 3)) hx hb dX1_time_35 (by decide) ?_
                refine lv_icmp_ge (tgt := 77) hx hb dX1_time_36 (by decide) (fun c11 => ?_) (fun c11 => ?_)
                · skip
                  have c11 := c11
                  refine lv_iinc (v := nI (k + 1)) (lv' := [(2, .int (nI (k + 1))), (3, .int (nI 3)), (0, .ref g0), (1, .int t)]) hx hb dX1_time_77 hl (k := 1) rfl (nI_1 k) (by decide) rfl (fun ls hl => ?_)
                  refine lv_goto (tgt := 24) hx hb dX1_time_80 (by decide) ?_
                  have hpl1 : (upd (upd (upd (pls kt kn t tn tw th tk fv k) ((n1 * 3 + v1) * 3 + 0) (plv kt kn t (th k) (k * 32) K 0)) ((n1 * 3 + v1) * 3 + 1) (plv kt kn t (th k) (k * 32) K 1)) ((n1 * 3 + v1) * 3 + 2) (plv kt kn t (th k) (k * 32) K 2)) = pls kt kn t tn tw th tk fv (k + 1) := by
                    show _ = pl1 kt kn t tn tw th tk k (pls kt kn t tn tw th tk fv k)
                    unfold pl1 put3; simp only [q1, q2, Nat.add_zero]
                  rw [hpl1] at hP hD
                  exact ih (ls := ls) (k := k + 1) (H := H) (locs := locs) hS (by omega) (lv_sub hl [0, 2, 3] rfl) hP hD
                · skip
                  have c11 := c11
                  exact absurd c11 (by decide)
    · skip
      have c2 := znle c2
      refine lv_iconst (v := (nI 0)) hx hb dX1_time_15 (by decide) ?_
      exact W.zret (v := (nI 0)) (ty := .boolean) hx hb hr (by decide) (fun t9 ht9 hW9 => ⟨⟨(nI 0), (nw, fv), rfl, br_f (by unfold q_time; omega) ⟨rfl, rfl⟩, by rw [ht9]; exact hP, va_K.moved hW9.alike hK, hD⟩, hS.F ht9⟩) hS.2.2 dX1_time_16
