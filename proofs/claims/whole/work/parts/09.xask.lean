set_option maxHeartbeats 4000000 in
set_option maxRecDepth 100000 in
/-- value(node, what, i) -/
theorem cx_value (l : Launch) (dC : Nat → ClassId) (dI : Nat → Nat → Nat) (cA : ClassId) (h0 a1 a2 a3 a4 a5 a6 a7 a8 a9 N T X : Nat) (nw : Int32) (fv tn tw th tk kt kn xt xn : Nat → Int32) (x y i : Int32) (hN : N ≤ 48) : Met l yX0_value wsX0_value ({ frames := 1, cells := 0, slots := 0, locals := 21 }) (va_Pc [.ref h0, .int x, .int y, .int i] (rX dC dI cA h0 a1 a2 a3 a4 a5 a6 a7 a8 a9 N T X nw fv tn tw th tk kt kn xt xn)) (vp_Si (fun r => (q_node N x ∧ q_what y ∧ q_what i → r = fv (pl_of x y + i.toInt.toNat)) ∧ (¬ (q_node N x ∧ q_what y ∧ q_what i) → r = nI 0))) 0 0 (fun _ => False) := by
  refine Met.ofW (cc := cX0_value) (maxL := 4) (ret := (some .int)) (by decide) rfl ?_
  intro p e s m args below meth c s₁ B hml hv
  obtain ⟨rfl, hP, hK⟩ := hv
  have hx := B.exec
  have hb := B.bytes
  have hr := B.returns
  have hts := atoms_spec (ws := wsX0_value) B.pre
  have hown : s.vm.findClass RX0 = some m.cls := findClass_of_methodNamed B.named
  have hlocks := B.notSynchronized
  have hl := lv_entry ([.ref h0, .int x, .int y, .int i]) (n := 4) (Nat.le_of_ble_eq_true rfl)
  rw [lg_entry_eq]
  generalize (lg_sl ([.ref h0, .int x, .int y, .int i]) ++ List.replicate (4 - (lg_sl ([.ref h0, .int x, .int y, .int i])).length) Slot.unset).toArray = ls at hl ⊢
  have hl : lv_has ls 4 [(0, .ref h0), (1, .int x), (2, .int y), (3, .int i)] := hl
  have t0 := z_0
  have t3 : (nI 3).toInt = 3 := by decide
  refine lv_aload_n hx hb dX0_value_0 rfl (lv_at hl 0 rfl) ?_
  refine lv_iload_n hx hb dX0_value_1 rfl (lv_at hl 1 rfl) ?_
  refine vp_callSi (W.runV (C := RX0) (As := [.int x]) (rest := []) ⟨hx, hb, hml, hown, hts⟩ (cx_isNode l dC dI cA h0 a1 a2 a3 a4 a5 a6 a7 a8 a9 N T X nw fv tn tw th tk kt kn xt xn x (by omega)) (cwV 1 hts gX0_value_X0_isNode rfl rfl rfl (by decide +kernel) ⟨Nat.le_of_ble_eq_true rfl, Nat.le_of_ble_eq_true rfl⟩) ⟨fun a U g mk q => ⟨q.1, q.2.1, va_K.moved (u := U) (U := U.calling g mk a) (Vm.Alike.refl U.vm) q.2.2⟩, va_recv hK hP (ci := 0) (q0 := 0) rfl rfl, fun U hU hW => ⟨rfl, by rw [hU]; exact hP, va_K.moved hW.alike hK⟩⟩ rfl rfl hl.1 rfl (lv_room (Nat.le_of_ble_eq_true rfl)) dX0_value_2 ⟨Nat.le_of_ble_eq_true rfl, Nat.le_of_ble_eq_true rfl⟩) (fun bo1 h_bo1 => ?_)
  refine lv_if_eq (tgt := 24) hx hb dX0_value_5 (by decide) (fun c2 => ?_) (fun c2 => ?_)
  · skip
    have c2 := btF h_bo1 c2
    refine lv_iconst (v := (nI 0)) hx hb dX0_value_24 (by decide) ?_
    exact W.iret (v := (nI 0)) hx hb hr (fun t9 ht9 hW9 => ⟨_, rfl, br_f (fun h => by exact c2 h.1) rfl, ht9⟩) (fun q h => by cases h) dX0_value_25
  · skip
    have c2 := btT h_bo1 c2
    refine lv_iload_n hx hb dX0_value_8 rfl (lv_at hl 2 rfl) ?_
    refine vp_callSi (W.runS (As := [.int y]) (rest := []) ⟨hx, hb, hml, hown, hts⟩ (cx_isWhat l y) (va_cwS 1 hts gX0_value_X0_isWhat rfl rfl rfl (by decide +kernel) ⟨Nat.le_of_ble_eq_true rfl, Nat.le_of_ble_eq_true rfl⟩) preEq rfl rfl hl.1 rfl (lv_room (Nat.le_of_ble_eq_true rfl)) dX0_value_9 ⟨Nat.le_of_ble_eq_true rfl, Nat.le_of_ble_eq_true rfl⟩) (fun bo3 h_bo3 => ?_)
    refine lv_if_eq (tgt := 24) hx hb dX0_value_12 (by decide) (fun c4 => ?_) (fun c4 => ?_)
    · skip
      have c4 := btF h_bo3 c4
      refine lv_iconst (v := (nI 0)) hx hb dX0_value_24 (by decide) ?_
      exact W.iret (v := (nI 0)) hx hb hr (fun t9 ht9 hW9 => ⟨_, rfl, br_f (fun h => by exact c4 h.2.1) rfl, ht9⟩) (fun q h => by cases h) dX0_value_25
    · skip
      have c4 := btT h_bo3 c4
      refine lv_iload_n hx hb dX0_value_15 rfl (lv_at hl 3 rfl) ?_
      refine lv_if_lt (tgt := 24) hx hb dX0_value_16 (by decide) (fun c5 => ?_) (fun c5 => ?_)
      · skip
        have c5 := zlt c5
        refine lv_iconst (v := (nI 0)) hx hb dX0_value_24 (by decide) ?_
        exact W.iret (v := (nI 0)) hx hb hr (fun t9 ht9 hW9 => ⟨_, rfl, br_f (fun h => by have := h.2.2; unfold q_what at this; omega) rfl, ht9⟩) (fun q h => by cases h) dX0_value_25
      · skip
        have c5 := znlt c5
        refine lv_iload_n hx hb dX0_value_19 rfl (lv_at hl 3 rfl) ?_
        refine lv_iconst (v := (nI 3)) hx hb dX0_value_20 (by decide) ?_
        refine lv_icmp_lt (tgt := 26) hx hb dX0_value_21 (by decide) (fun c6 => ?_) (fun c6 => ?_)
        · skip
          have c6 := zlt c6
          have hi : q_what i := by unfold q_what; omega
          have hok : q_node N x ∧ q_what y ∧ q_what i := ⟨c2, c4, hi⟩
          have e1 : x = nI x.toInt.toNat := z_nat hok.1.1
          have e2 : y = nI y.toInt.toNat := z_nat hok.2.1.1
          have e3 : i = nI i.toInt.toNat := z_nat hi.1
          have b1 : x.toInt < N := hok.1.2
          have b2 : y.toInt < 3 := hok.2.1.2
          have b0 : 0 ≤ x.toInt ∧ 0 ≤ y.toInt := ⟨hok.1.1, hok.2.1.1⟩
          have hpl : pl_of x y + 3 ≤ N * 9 := by unfold pl_of; omega
          have b3 : i.toInt < 3 := hi.2
          refine lv_aload_n hx hb dX0_value_26 rfl (lv_at hl 0 rfl) ?_
          refine va_get (D := (dC, dI)) (ci := 0) (v := .ref a1) (C := RX0) (T := TX0) (N := 13) hx hb hts (by decide +kernel) hown hK hP 0 rfl rfl 1 (by decide) (hts (.fieldLink RX0 22 "MotionDesk" "values" "[I") (by decide +kernel)) (fun _ h9 => h9) rfl dX0_value_27 ?_
          refine lv_iload_n hx hb dX0_value_30 rfl (lv_at hl 1 rfl) ?_
          refine lv_iload_n hx hb dX0_value_31 rfl (lv_at hl 2 rfl) ?_
          refine tp_i2 e2 e1 ?_
          refine vp_callSi (W.runS (As := [.int (nI x.toInt.toNat), .int (nI y.toInt.toNat)]) (rest := [.ref a1]) ⟨hx, hb, hml, hown, hts⟩ (cx_placeOf l x.toInt.toNat y.toInt.toNat) (va_cwS 2 hts gX0_value_X0_placeOf rfl rfl rfl (by decide +kernel) ⟨Nat.le_of_ble_eq_true rfl, Nat.le_of_ble_eq_true rfl⟩) preEq rfl rfl hl.1 rfl (lv_room (Nat.le_of_ble_eq_true rfl)) dX0_value_32 ⟨Nat.le_of_ble_eq_true rfl, Nat.le_of_ble_eq_true rfl⟩) (fun r7 h_r7 => ?_)
          refine tp_i (y := nI (pl_of x y)) (h_r7) ?_
          refine lv_iload_n hx hb dX0_value_35 rfl (lv_at hl 3 rfl) ?_
          refine lv_iadd hx hb dX0_value_36 ?_
          refine tp_i (y := nI (pl_of x y + i.toInt.toNat)) (by rw [← nI_add, ← e3]) ?_
          refine va_iald hx hb hK hP 1 0 rfl rfl (vp_in_nI (by omega) (by omega)) dX0_value_37 ?_
          refine tp_i (y := (fv (pl_of x y + i.toInt.toNat))) (by rw [nI_clamp (by omega)]) ?_
          exact W.iret (v := (fv (pl_of x y + i.toInt.toNat))) hx hb hr (fun t9 ht9 hW9 => ⟨_, rfl, br_t hok rfl, ht9⟩) (fun q h => by cases h) dX0_value_38
        · skip
          have c6 := znlt c6
          refine lv_iconst (v := (nI 0)) hx hb dX0_value_24 (by decide) ?_
          exact W.iret (v := (nI 0)) hx hb hr (fun t9 ht9 hW9 => ⟨_, rfl, br_f (fun h => by have := h.2.2; unfold q_what at this; omega) rfl, ht9⟩) (fun q h => by cases h) dX0_value_25
set_option maxHeartbeats 4000000 in
set_option maxRecDepth 100000 in
/-- count(what) -/
theorem cx_count (l : Launch) (dC : Nat → ClassId) (dI : Nat → Nat → Nat) (cA : ClassId) (h0 a1 a2 a3 a4 a5 a6 a7 a8 a9 N T X : Nat) (nw : Int32) (fv tn tw th tk kt kn xt xn : Nat → Int32) (a : Int32) (hT : T ≤ 32) : Met l yX0_count wsX0_count ({ frames := 1, cells := 0, slots := 0, locals := 22 }) (va_Pc [.ref h0, .int a] (rX dC dI cA h0 a1 a2 a3 a4 a5 a6 a7 a8 a9 N T X nw fv tn tw th tk kt kn xt xn)) (vp_Si (fun r => r = if a.toInt = 0 then nI N else if a.toInt = 1 then nI T else if a.toInt = 2 then bx_sum tk T else if a.toInt = 3 then nw else if a.toInt = 4 then nI X else -1)) 0 0 (fun _ => False) := by
  refine Met.ofW (cc := cX0_count) (maxL := 2) (ret := (some .int)) (by decide) rfl ?_
  intro p e s m args below meth c s₁ B hml hv
  obtain ⟨rfl, hP, hK⟩ := hv
  have hx := B.exec
  have hb := B.bytes
  have hr := B.returns
  have hts := atoms_spec (ws := wsX0_count) B.pre
  have hown : s.vm.findClass RX0 = some m.cls := findClass_of_methodNamed B.named
  have hlocks := B.notSynchronized
  have hl := lv_entry ([.ref h0, .int a]) (n := 2) (Nat.le_of_ble_eq_true rfl)
  rw [lg_entry_eq]
  generalize (lg_sl ([.ref h0, .int a]) ++ List.replicate (2 - (lg_sl ([.ref h0, .int a])).length) Slot.unset).toArray = ls at hl ⊢
  have hl : lv_has ls 2 [(0, .ref h0), (1, .int a)] := hl
  refine lv_iload_n hx hb dX0_count_0 rfl (lv_at hl 1 rfl) ?_
  by_cases hs0 : a.toInt = 0
  · refine lv_tableIn (off := 35) (tgt := 36) hx hb dX0_count_1 (by omega) (by omega) (by rw [hs0]; rfl) (by decide) ?_
    refine lv_aload_n hx hb dX0_count_36 rfl (lv_at hl 0 rfl) ?_
    refine va_get (D := (dC, dI)) (ci := 0) (v := .int (nI N)) (C := RX0) (T := TX0) (N := 13) hx hb hts (by decide +kernel) hown hK hP 0 rfl rfl 0 (by decide) (hts (.fieldLink RX0 18 "MotionDesk" "nodeCount" "I") (by decide +kernel)) (fun _ h9 => h9) rfl dX0_count_37 ?_
    exact W.iret (v := nI N) hx hb hr (fun t9 ht9 hW9 => ⟨_, rfl, by rw [if_pos hs0], ht9⟩) (fun q h => by cases h) dX0_count_40
  by_cases hs1 : a.toInt = 1
  · refine lv_tableIn (off := 40) (tgt := 41) hx hb dX0_count_1 (by omega) (by omega) (by rw [hs1]; rfl) (by decide) ?_
    refine lv_aload_n hx hb dX0_count_41 rfl (lv_at hl 0 rfl) ?_
    refine va_get (D := (dC, dI)) (ci := 0) (v := .int (nI T)) (C := RX0) (T := TX0) (N := 13) hx hb hts (by decide +kernel) hown hK hP 0 rfl rfl 2 (by decide) (hts (.fieldLink RX0 69 "MotionDesk" "trackCount" "I") (by decide +kernel)) (fun _ h9 => h9) rfl dX0_count_42 ?_
    exact W.iret (v := nI T) hx hb hr (fun t9 ht9 hW9 => ⟨_, rfl, by rw [if_neg hs0, if_pos hs1], ht9⟩) (fun q h => by cases h) dX0_count_45
  by_cases hs2 : a.toInt = 2
  · refine lv_tableIn (off := 45) (tgt := 46) hx hb dX0_count_1 (by omega) (by omega) (by rw [hs2]; rfl) (by decide) ?_
    refine lv_aload_n hx hb dX0_count_46 rfl (lv_at hl 0 rfl) ?_
    refine vp_callSi (W.runV (C := RX0) (As := []) (rest := []) ⟨hx, hb, hml, hown, hts⟩ (cx_keys l dC dI cA h0 a1 a2 a3 a4 a5 a6 a7 a8 a9 N T X nw fv tn tw th tk kt kn xt xn hT) (cwV 0 hts gX0_count_X0_keysOfAllTracks rfl rfl rfl (by decide +kernel) ⟨Nat.le_of_ble_eq_true rfl, Nat.le_of_ble_eq_true rfl⟩) ⟨fun a U g mk q => ⟨q.1, q.2.1, va_K.moved (u := U) (U := U.calling g mk a) (Vm.Alike.refl U.vm) q.2.2⟩, va_recv hK hP (ci := 0) (q0 := 0) rfl rfl, fun U hU hW => ⟨rfl, by rw [hU]; exact hP, va_K.moved hW.alike hK⟩⟩ rfl rfl hl.1 rfl (lv_room (Nat.le_of_ble_eq_true rfl)) dX0_count_47 ⟨Nat.le_of_ble_eq_true rfl, Nat.le_of_ble_eq_true rfl⟩) (fun r1 h_r1 => ?_)
    exact W.iret (v := r1) hx hb hr (fun t9 ht9 hW9 => ⟨_, rfl, by rw [if_neg hs0, if_neg hs1, if_pos hs2]; exact h_r1, ht9⟩) (fun q h => by cases h) dX0_count_50
  by_cases hs3 : a.toInt = 3
  · refine lv_tableIn (off := 50) (tgt := 51) hx hb dX0_count_1 (by omega) (by omega) (by rw [hs3]; rfl) (by decide) ?_
    refine lv_aload_n hx hb dX0_count_51 rfl (lv_at hl 0 rfl) ?_
    refine va_get (D := (dC, dI)) (ci := 0) (v := .int nw) (C := RX0) (T := TX0) (N := 13) hx hb hts (by decide +kernel) hown hK hP 0 rfl rfl 12 (by decide) (hts (.fieldLink RX0 91 "MotionDesk" "now" "I") (by decide +kernel)) (fun _ h9 => h9) rfl dX0_count_52 ?_
    exact W.iret (v := nw) hx hb hr (fun t9 ht9 hW9 => ⟨_, rfl, by rw [if_neg hs0, if_neg hs1, if_neg hs2, if_pos hs3], ht9⟩) (fun q h => by cases h) dX0_count_55
  by_cases hs4 : a.toInt = 4
  · refine lv_tableIn (off := 55) (tgt := 56) hx hb dX0_count_1 (by omega) (by omega) (by rw [hs4]; rfl) (by decide) ?_
    refine lv_aload_n hx hb dX0_count_56 rfl (lv_at hl 0 rfl) ?_
    refine va_get (D := (dC, dI)) (ci := 0) (v := .int (nI X)) (C := RX0) (T := TX0) (N := 13) hx hb hts (by decide +kernel) hown hK hP 0 rfl rfl 9 (by decide) (hts (.fieldLink RX0 54 "MotionDesk" "textCount" "I") (by decide +kernel)) (fun _ h9 => h9) rfl dX0_count_57 ?_
    exact W.iret (v := nI X) hx hb hr (fun t9 ht9 hW9 => ⟨_, rfl, by rw [if_neg hs0, if_neg hs1, if_neg hs2, if_neg hs3, if_pos hs4], ht9⟩) (fun q h => by cases h) dX0_count_60
  refine lv_tableOut (tgt := 61) hx hb dX0_count_1 (by omega) (by decide) ?_
  refine lv_iconst (v := (-1)) hx hb dX0_count_61 (by decide) ?_
  exact W.iret (v := (-1)) hx hb hr (fun t9 ht9 hW9 => ⟨_, rfl, by rw [if_neg hs0, if_neg hs1, if_neg hs2, if_neg hs3, if_neg hs4], ht9⟩) (fun q h => by cases h) dX0_count_62
set_option maxHeartbeats 4000000 in
set_option maxRecDepth 100000 in
/-- about(track, what) -/
theorem cx_about (l : Launch) (dC : Nat → ClassId) (dI : Nat → Nat → Nat) (cA : ClassId) (h0 a1 a2 a3 a4 a5 a6 a7 a8 a9 N T X : Nat) (nw : Int32) (fv tn tw th tk kt kn xt xn : Nat → Int32) (x a : Int32) (hT : T ≤ 32) : Met l yX0_about wsX0_about ({ frames := 0, cells := 0, slots := 0, locals := 0 }) (va_Pc [.ref h0, .int x, .int a] (rX dC dI cA h0 a1 a2 a3 a4 a5 a6 a7 a8 a9 N T X nw fv tn tw th tk kt kn xt xn)) (vp_Si (fun r => (q_node T x → r = if a.toInt = 0 then tn x.toInt.toNat else if a.toInt = 1 then tw x.toInt.toNat else if a.toInt = 2 then th x.toInt.toNat else if a.toInt = 3 then tk x.toInt.toNat else -1) ∧ (¬ q_node T x → r = -1))) 0 0 (fun _ => False) := by
  refine Met.ofW (cc := cX0_about) (maxL := 3) (ret := (some .int)) (by decide) rfl ?_
  intro p e s m args below meth c s₁ B hml hv
  obtain ⟨rfl, hP, hK⟩ := hv
  have hx := B.exec
  have hb := B.bytes
  have hr := B.returns
  have hts := atoms_spec (ws := wsX0_about) B.pre
  have hown : s.vm.findClass RX0 = some m.cls := findClass_of_methodNamed B.named
  have hlocks := B.notSynchronized
  have hl := lv_entry ([.ref h0, .int x, .int a]) (n := 3) (Nat.le_of_ble_eq_true rfl)
  rw [lg_entry_eq]
  generalize (lg_sl ([.ref h0, .int x, .int a]) ++ List.replicate (3 - (lg_sl ([.ref h0, .int x, .int a])).length) Slot.unset).toArray = ls at hl ⊢
  have hl : lv_has ls 3 [(0, .ref h0), (1, .int x), (2, .int a)] := hl
  have t0 := z_0
  have t1 : (nI T).toInt = T := nI_toInt (by omega)
  refine lv_iload_n hx hb dX0_about_0 rfl (lv_at hl 1 rfl) ?_
  refine lv_if_lt (tgt := 12) hx hb dX0_about_1 (by decide) (fun c1 => ?_) (fun c1 => ?_)
  · skip
    have c1 := zlt c1
    refine lv_iconst (v := (-1)) hx hb dX0_about_12 (by decide) ?_
    exact W.iret (v := (-1)) hx hb hr (fun t9 ht9 hW9 => ⟨_, rfl, br_f (by unfold q_node; omega) rfl, ht9⟩) (fun q h => by cases h) dX0_about_13
  · skip
    have c1 := znlt c1
    refine lv_iload_n hx hb dX0_about_4 rfl (lv_at hl 1 rfl) ?_
    refine lv_aload_n hx hb dX0_about_5 rfl (lv_at hl 0 rfl) ?_
    refine va_get (D := (dC, dI)) (ci := 0) (v := .int (nI T)) (C := RX0) (T := TX0) (N := 13) hx hb hts (by decide +kernel) hown hK hP 0 rfl rfl 2 (by decide) (hts (.fieldLink RX0 69 "MotionDesk" "trackCount" "I") (by decide +kernel)) (fun _ h9 => h9) rfl dX0_about_6 ?_
    refine lv_icmp_lt (tgt := 14) hx hb dX0_about_9 (by decide) (fun c2 => ?_) (fun c2 => ?_)
    · skip
      have c2 := zlt c2
      have hok : q_node T x := by unfold q_node; omega
      have e1 : x = nI x.toInt.toNat := z_nat hok.1
      have b1 : x.toInt < T := hok.2
      refine lv_iload_n hx hb dX0_about_14 rfl (lv_at hl 2 rfl) ?_
      by_cases hs0 : a.toInt = 0
      · refine lv_tableIn (off := 29) (tgt := 44) hx hb dX0_about_15 (by omega) (by omega) (by rw [hs0]; rfl) (by decide) ?_
        refine lv_aload_n hx hb dX0_about_44 rfl (lv_at hl 0 rfl) ?_
        refine va_get (D := (dC, dI)) (ci := 0) (v := .ref a2) (C := RX0) (T := TX0) (N := 13) hx hb hts (by decide +kernel) hown hK hP 0 rfl rfl 3 (by decide) (hts (.fieldLink RX0 30 "MotionDesk" "trackNode" "[I") (by decide +kernel)) (fun _ h9 => h9) rfl dX0_about_45 ?_
        refine lv_iload_n hx hb dX0_about_48 rfl (lv_at hl 1 rfl) ?_
        refine tp_i (y := nI x.toInt.toNat) (e1) ?_
        refine va_iald hx hb hK hP 2 0 rfl rfl (vp_in_nI (by omega) (by omega)) dX0_about_49 ?_
        refine tp_i (y := (tn x.toInt.toNat)) (by rw [nI_clamp (by omega)]) ?_
        exact W.iret (v := (tn x.toInt.toNat)) hx hb hr (fun t9 ht9 hW9 => ⟨_, rfl, br_t hok (by rw [if_pos hs0]), ht9⟩) (fun q h => by cases h) dX0_about_50
      by_cases hs1 : a.toInt = 1
      · refine lv_tableIn (off := 36) (tgt := 51) hx hb dX0_about_15 (by omega) (by omega) (by rw [hs1]; rfl) (by decide) ?_
        refine lv_aload_n hx hb dX0_about_51 rfl (lv_at hl 0 rfl) ?_
        refine va_get (D := (dC, dI)) (ci := 0) (v := .ref a3) (C := RX0) (T := TX0) (N := 13) hx hb hts (by decide +kernel) hown hK hP 0 rfl rfl 4 (by decide) (hts (.fieldLink RX0 33 "MotionDesk" "trackWhat" "[I") (by decide +kernel)) (fun _ h9 => h9) rfl dX0_about_52 ?_
        refine lv_iload_n hx hb dX0_about_55 rfl (lv_at hl 1 rfl) ?_
        refine tp_i (y := nI x.toInt.toNat) (e1) ?_
        refine va_iald hx hb hK hP 3 0 rfl rfl (vp_in_nI (by omega) (by omega)) dX0_about_56 ?_
        refine tp_i (y := (tw x.toInt.toNat)) (by rw [nI_clamp (by omega)]) ?_
        exact W.iret (v := (tw x.toInt.toNat)) hx hb hr (fun t9 ht9 hW9 => ⟨_, rfl, br_t hok (by rw [if_neg hs0, if_pos hs1]), ht9⟩) (fun q h => by cases h) dX0_about_57
      by_cases hs2 : a.toInt = 2
      · refine lv_tableIn (off := 43) (tgt := 58) hx hb dX0_about_15 (by omega) (by omega) (by rw [hs2]; rfl) (by decide) ?_
        refine lv_aload_n hx hb dX0_about_58 rfl (lv_at hl 0 rfl) ?_
        refine va_get (D := (dC, dI)) (ci := 0) (v := .ref a4) (C := RX0) (T := TX0) (N := 13) hx hb hts (by decide +kernel) hown hK hP 0 rfl rfl 5 (by decide) (hts (.fieldLink RX0 36 "MotionDesk" "trackHow" "[I") (by decide +kernel)) (fun _ h9 => h9) rfl dX0_about_59 ?_
        refine lv_iload_n hx hb dX0_about_62 rfl (lv_at hl 1 rfl) ?_
        refine tp_i (y := nI x.toInt.toNat) (e1) ?_
        refine va_iald hx hb hK hP 4 0 rfl rfl (vp_in_nI (by omega) (by omega)) dX0_about_63 ?_
        refine tp_i (y := (th x.toInt.toNat)) (by rw [nI_clamp (by omega)]) ?_
        exact W.iret (v := (th x.toInt.toNat)) hx hb hr (fun t9 ht9 hW9 => ⟨_, rfl, br_t hok (by rw [if_neg hs0, if_neg hs1, if_pos hs2]), ht9⟩) (fun q h => by cases h) dX0_about_64
      by_cases hs3 : a.toInt = 3
      · refine lv_tableIn (off := 50) (tgt := 65) hx hb dX0_about_15 (by omega) (by omega) (by rw [hs3]; rfl) (by decide) ?_
        refine lv_aload_n hx hb dX0_about_65 rfl (lv_at hl 0 rfl) ?_
        refine va_get (D := (dC, dI)) (ci := 0) (v := .ref a5) (C := RX0) (T := TX0) (N := 13) hx hb hts (by decide +kernel) hown hK hP 0 rfl rfl 6 (by decide) (hts (.fieldLink RX0 39 "MotionDesk" "trackKeys" "[I") (by decide +kernel)) (fun _ h9 => h9) rfl dX0_about_66 ?_
        refine lv_iload_n hx hb dX0_about_69 rfl (lv_at hl 1 rfl) ?_
        refine tp_i (y := nI x.toInt.toNat) (e1) ?_
        refine va_iald hx hb hK hP 5 0 rfl rfl (vp_in_nI (by omega) (by omega)) dX0_about_70 ?_
        refine tp_i (y := (tk x.toInt.toNat)) (by rw [nI_clamp (by omega)]) ?_
        exact W.iret (v := (tk x.toInt.toNat)) hx hb hr (fun t9 ht9 hW9 => ⟨_, rfl, br_t hok (by rw [if_neg hs0, if_neg hs1, if_neg hs2, if_pos hs3]), ht9⟩) (fun q h => by cases h) dX0_about_71
      refine lv_tableOut (tgt := 72) hx hb dX0_about_15 (by omega) (by decide) ?_
      refine lv_iconst (v := (-1)) hx hb dX0_about_72 (by decide) ?_
      exact W.iret (v := (-1)) hx hb hr (fun t9 ht9 hW9 => ⟨_, rfl, br_t hok (by rw [if_neg hs0, if_neg hs1, if_neg hs2, if_neg hs3]), ht9⟩) (fun q h => by cases h) dX0_about_73
    · skip
      have c2 := znlt c2
      refine lv_iconst (v := (-1)) hx hb dX0_about_12 (by decide) ?_
      exact W.iret (v := (-1)) hx hb hr (fun t9 ht9 hW9 => ⟨_, rfl, br_f (by unfold q_node; omega) rfl, ht9⟩) (fun q h => by cases h) dX0_about_13
set_option maxHeartbeats 4000000 in
set_option maxRecDepth 100000 in
/-- clear() -/
theorem cx_clear (l : Launch) (dC : Nat → ClassId) (dI : Nat → Nat → Nat) (cA : ClassId) (h0 a1 a2 a3 a4 a5 a6 a7 a8 a9 N T X : Nat) (nw : Int32) (fv tn tw th tk kt kn xt xn : Nat → Int32) (sz : Nat)  : Met l yX0_clear wsX0_clear ({ frames := 0, cells := 0, slots := 0, locals := 0 }) (va_Pc [.ref h0] (eX sz dC dI cA h0 a1 a2 a3 a4 a5 a6 a7 a8 a9 N T X nw fv tn tw th tk kt kn xt xn)) (va_Qv (fun (u : Unit) => True) (fun u => bX (va_A (wX cA h0 a1 a2 a3 a4 a5 a6 a7 a8 a9 N T X nw fv tn tw th tk kt kn xt xn) sz) dC dI cA h0 a1 a2 a3 a4 a5 a6 a7 a8 a9 N 0 X nw fv tn tw th tk kt kn xt xn) (va_A (wX cA h0 a1 a2 a3 a4 a5 a6 a7 a8 a9 N T X nw fv tn tw th tk kt kn xt xn) sz)) 0 0 (va_A (wX cA h0 a1 a2 a3 a4 a5 a6 a7 a8 a9 N T X nw fv tn tw th tk kt kn xt xn) sz) := by
  refine Met.ofW (cc := cX0_clear) (maxL := 1) (ret := none) (by decide) rfl ?_
  intro p e s m args below meth c s₁ B hml hv
  obtain ⟨rfl, hsz, hP, hK, hD0⟩ := hv
  have hx := B.exec
  have hb := B.bytes
  have hr := B.returns
  have hts := atoms_spec (ws := wsX0_clear) B.pre
  have hown : s.vm.findClass RX0 = some m.cls := findClass_of_methodNamed B.named
  have hlocks := B.notSynchronized
  subst hsz
  have hD := hD0.self (sz := s.heap.size)
  generalize hAe : va_A (wX cA h0 a1 a2 a3 a4 a5 a6 a7 a8 a9 N T X nw fv tn tw th tk kt kn xt xn) s.heap.size = A at hD ⊢
  have hA : ∀ q : Nat, s.heap.size ≤ q → A q := fun q h => by rw [← hAe]; exact Or.inr h
  have hS : va_S A s.heap s.heap [] := va_S.rf
  have hP : va_P (dC, dI) vwCl (wX cA h0 a1 a2 a3 a4 a5 a6 a7 a8 a9 N T X nw fv tn tw th tk kt kn xt xn) s.heap := hP
  have hl := lv_entry ([.ref h0]) (n := 1) (Nat.le_of_ble_eq_true rfl)
  rw [lg_entry_eq]
  generalize (lg_sl ([.ref h0]) ++ List.replicate (1 - (lg_sl ([.ref h0])).length) Slot.unset).toArray = ls at hl ⊢
  have hl : lv_has ls 1 [(0, .ref h0)] := hl
  refine lv_aload_n hx hb dX0_clear_0 rfl (lv_at hl 0 rfl) ?_
  refine lv_iconst (v := (nI 0)) hx hb dX0_clear_1 (by decide) ?_
  refine va_put (D := (dC, dI)) (ci := 0) (v := .int (nI 0)) (ty := .int) (C := RX0) (T := TX0) (N := 13) hx hb hts (by decide +kernel) tyX0 tyX0_ok nmX0 hown hK hP hD hS 0 rfl rfl 2 (by decide) (hts (.fieldLink RX0 69 "MotionDesk" "trackCount" "I") (by decide +kernel)) (fun _ h9 => h9) rfl (by decide +kernel) rfl rfl (Nat.le_of_ble_eq_true rfl) dX0_clear_2 (fun H locs hP hD hS => ?_)
  replace hP : va_P (dC, dI) vwCl (wX cA h0 a1 a2 a3 a4 a5 a6 a7 a8 a9 N 0 X nw fv tn tw th tk kt kn xt xn) H := hP
  replace hD : va_D A (wX cA h0 a1 a2 a3 a4 a5 a6 a7 a8 a9 N 0 X nw fv tn tw th tk kt kn xt xn) := hD
  exact W.vret hx hb hr (fun t9 ht9 hW9 => ⟨⟨(), rfl, trivial, by rw [ht9]; exact hP, va_K.moved hW9.alike hK, hD⟩, hS.F ht9⟩) hS.2.2 dX0_clear_5
