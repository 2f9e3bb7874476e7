abbrev wX (cA : ClassId) (h0 a1 a2 a3 a4 a5 a6 a7 a8 a9 N T X : Nat) (nw : Int32) (fv tn tw th tk kt kn xt xn : Nat → Int32) : va_W := [(h0, .inr (0, [.int (nI N), .ref a1, .int (nI T), .ref a2, .ref a3, .ref a4, .ref a5, .ref a6, .ref a7, .int (nI X), .ref a8, .ref a9, .int nw])), (a1, .inl (cA, N * 9, .inl fv)), (a2, .inl (cA, 32, .inl tn)), (a3, .inl (cA, 32, .inl tw)), (a4, .inl (cA, 32, .inl th)), (a5, .inl (cA, 32, .inl tk)), (a6, .inl (cA, 1024, .inl kt)), (a7, .inl (cA, 3072, .inl kn)), (a8, .inl (cA, 32, .inl xt)), (a9, .inl (cA, 96, .inl xn))]
abbrev rX (dC : Nat → ClassId) (dI : Nat → Nat → Nat) (cA : ClassId) (h0 a1 a2 a3 a4 a5 a6 a7 a8 a9 N T X : Nat) (nw : Int32) (fv tn tw th tk kt kn xt xn : Nat → Int32) (U : State) : Prop := va_P (dC, dI) vwCl (wX cA h0 a1 a2 a3 a4 a5 a6 a7 a8 a9 N T X nw fv tn tw th tk kt kn xt xn) U.heap ∧ va_K (dC, dI) vwCl [(cA, .int)] U
abbrev bX (A : Nat → Prop) (dC : Nat → ClassId) (dI : Nat → Nat → Nat) (cA : ClassId) (h0 a1 a2 a3 a4 a5 a6 a7 a8 a9 N T X : Nat) (nw : Int32) (fv tn tw th tk kt kn xt xn : Nat → Int32) (U : State) : Prop := va_P (dC, dI) vwCl (wX cA h0 a1 a2 a3 a4 a5 a6 a7 a8 a9 N T X nw fv tn tw th tk kt kn xt xn) U.heap ∧ va_K (dC, dI) vwCl [(cA, .int)] U ∧ va_D A (wX cA h0 a1 a2 a3 a4 a5 a6 a7 a8 a9 N T X nw fv tn tw th tk kt kn xt xn)
abbrev eX (sz : Nat) (dC : Nat → ClassId) (dI : Nat → Nat → Nat) (cA : ClassId) (h0 a1 a2 a3 a4 a5 a6 a7 a8 a9 N T X : Nat) (nw : Int32) (fv tn tw th tk kt kn xt xn : Nat → Int32) (U : State) : Prop := U.heap.size = sz ∧ va_P (dC, dI) vwCl (wX cA h0 a1 a2 a3 a4 a5 a6 a7 a8 a9 N T X nw fv tn tw th tk kt kn xt xn) U.heap ∧ va_K (dC, dI) vwCl [(cA, .int)] U ∧ va_D (fun _ => True) (wX cA h0 a1 a2 a3 a4 a5 a6 a7 a8 a9 N T X nw fv tn tw th tk kt kn xt xn)
set_option maxHeartbeats 4000000 in
set_option maxRecDepth 100000 in
/-- isNode(x) -/
theorem cx_isNode (l : Launch) (dC : Nat → ClassId) (dI : Nat → Nat → Nat) (cA : ClassId) (h0 a1 a2 a3 a4 a5 a6 a7 a8 a9 N T X : Nat) (nw : Int32) (fv tn tw th tk kt kn xt xn : Nat → Int32) (x : Int32) (hN : N ≤ 48) : Met l yX0_isNode wsX0_isNode ({ frames := 0, cells := 0, slots := 0, locals := 0 }) (va_Pc [.ref h0, .int x] (rX dC dI cA h0 a1 a2 a3 a4 a5 a6 a7 a8 a9 N T X nw fv tn tw th tk kt kn xt xn)) (vp_Si (fun r => r = 0 ↔ ¬ q_node N x)) 0 0 (fun _ => False) := by
  refine Met.ofW (cc := cX0_isNode) (maxL := 2) (ret := (some .boolean)) (by decide) rfl ?_
  intro p e s m args below meth c s₁ B hml hv
  obtain ⟨rfl, hP, hK⟩ := hv
  have hx := B.exec
  have hb := B.bytes
  have hr := B.returns
  have hts := atoms_spec (ws := wsX0_isNode) B.pre
  have hown : s.vm.findClass RX0 = some m.cls := findClass_of_methodNamed B.named
  have hlocks := B.notSynchronized
  have hl := lv_entry ([.ref h0, .int x]) (n := 2) (Nat.le_of_ble_eq_true rfl)
  rw [lg_entry_eq]
  generalize (lg_sl ([.ref h0, .int x]) ++ List.replicate (2 - (lg_sl ([.ref h0, .int x])).length) Slot.unset).toArray = ls at hl ⊢
  have hl : lv_has ls 2 [(0, .ref h0), (1, .int x)] := hl
  have t0 := z_0
  have t1 : (nI N).toInt = N := nI_toInt (by omega)
  refine lv_iload_n hx hb dX0_isNode_0 rfl (lv_at hl 1 rfl) ?_
  refine lv_if_lt (tgt := 16) hx hb dX0_isNode_1 (by decide) (fun c1 => ?_) (fun c1 => ?_)
  · skip
    have c1 := zlt c1
    refine lv_iconst (v := (nI 0)) hx hb dX0_isNode_16 (by decide) ?_
    exact W.zret (v := (nI 0)) (ty := .boolean) hx hb hr (by decide) (fun t9 ht9 hW9 => ⟨_, rfl, bt0 (by unfold q_node; omega), ht9⟩) (fun q h => by cases h) dX0_isNode_17
  · skip
    have c1 := znlt c1
    refine lv_iload_n hx hb dX0_isNode_4 rfl (lv_at hl 1 rfl) ?_
    refine lv_aload_n hx hb dX0_isNode_5 rfl (lv_at hl 0 rfl) ?_
    refine va_get (D := (dC, dI)) (ci := 0) (v := .int (nI N)) (C := RX0) (T := TX0) (N := 13) hx hb hts (by decide +kernel) hown hK hP 0 rfl rfl 0 (by decide) (hts (.fieldLink RX0 18 "MotionDesk" "nodeCount" "I") (by decide +kernel)) (fun _ h9 => h9) rfl dX0_isNode_6 ?_
    refine lv_icmp_ge (tgt := 16) hx hb dX0_isNode_9 (by decide) (fun c2 => ?_) (fun c2 => ?_)
    · skip
      have c2 := zle c2
      refine lv_iconst (v := (nI 0)) hx hb dX0_isNode_16 (by decide) ?_
      exact W.zret (v := (nI 0)) (ty := .boolean) hx hb hr (by decide) (fun t9 ht9 hW9 => ⟨_, rfl, bt0 (by unfold q_node; omega), ht9⟩) (fun q h => by cases h) dX0_isNode_17
    · skip
      have c2 := znle c2
      refine lv_iconst (v := (nI 1)) hx hb dX0_isNode_12 (by decide) ?_
      refine lv_goto (tgt := 17) hx hb dX0_isNode_13 (by decide) ?_
      exact W.zret (v := (nI 1)) (ty := .boolean) hx hb hr (by decide) (fun t9 ht9 hW9 => ⟨_, rfl, bt1 (by unfold q_node; omega), ht9⟩) (fun q h => by cases h) dX0_isNode_17
set_option maxHeartbeats 4000000 in
set_option maxRecDepth 100000 in
/-- keyInForce(first, last) -/
theorem cx_kif (l : Launch) (dC : Nat → ClassId) (dI : Nat → Nat → Nat) (cA : ClassId) (h0 a1 a2 a3 a4 a5 a6 a7 a8 a9 N T X : Nat) (nw : Int32) (fv tn tw th tk kt kn xt xn : Nat → Int32) (f0 g0 : Nat) (hg : f0 + g0 < 1024) : Met l yX0_keyInForce wsX0_keyInForce ({ frames := 0, cells := 0, slots := 0, locals := 0 }) (va_Pc [.ref h0, .int (nI f0), .int (nI (f0 + g0))] (rX dC dI cA h0 a1 a2 a3 a4 a5 a6 a7 a8 a9 N T X nw fv tn tw th tk kt kn xt xn)) (vp_Si (fun r => r = nI (kif kt nw f0 g0))) 0 0 (fun _ => False) := by
  refine Met.ofW (cc := cX0_keyInForce) (maxL := 4) (ret := (some .int)) (by decide) rfl ?_
  intro p e s m args below meth c s₁ B hml hv
  obtain ⟨rfl, hP, hK⟩ := hv
  have hx := B.exec
  have hb := B.bytes
  have hr := B.returns
  have hts := atoms_spec (ws := wsX0_keyInForce) B.pre
  have hown : s.vm.findClass RX0 = some m.cls := findClass_of_methodNamed B.named
  have hlocks := B.notSynchronized
  have hl := lv_entry ([.ref h0, .int (nI f0), .int (nI (f0 + g0))]) (n := 4) (Nat.le_of_ble_eq_true rfl)
  rw [lg_entry_eq]
  generalize (lg_sl ([.ref h0, .int (nI f0), .int (nI (f0 + g0))]) ++ List.replicate (4 - (lg_sl ([.ref h0, .int (nI f0), .int (nI (f0 + g0))])).length) Slot.unset).toArray = ls at hl ⊢
  have hl : lv_has ls 4 [(0, .ref h0), (1, .int (nI f0)), (2, .int (nI (f0 + g0)))] := hl
  refine lv_iload_n hx hb dX0_keyInForce_0 rfl (lv_at hl 1 rfl) ?_
  refine lv_istore_n (lv' := [(3, .int (nI f0)), (0, .ref h0), (1, .int (nI f0)), (2, .int (nI (f0 + g0)))]) hx hb dX0_keyInForce_1 rfl hl (by decide) rfl (fun ls hl => ?_)
  obtain ⟨n, k, hn, hk, hl9⟩ : ∃ n k : Nat, k + n = f0 + g0 ∧ kif kt nw k n = kif kt nw f0 g0 ∧ lv_has ls 4 [(3, .int (nI k)), (0, .ref h0), (1, .int (nI f0)), (2, .int (nI (f0 + g0)))] := ⟨g0, f0, rfl, rfl, hl⟩
  clear hl; have hl := hl9; clear hl9
  induction n generalizing k ls with
  | zero =>
    have t1 : (nI k).toInt = k := nI_toInt (by omega)
    have t2 : (nI (f0 + g0)).toInt = (f0 + g0 : Nat) := nI_toInt (by omega)
    refine lv_iload_n hx hb dX0_keyInForce_2 rfl (lv_at hl 0 rfl) ?_
    refine lv_iload_n hx hb dX0_keyInForce_3 rfl (lv_at hl 3 rfl) ?_
    refine lv_icmp_ge (tgt := 28) hx hb dX0_keyInForce_4 (by decide) (fun c1 => ?_) (fun c1 => ?_)
    · skip
      have c1 := zle c1
      refine lv_iload_n hx hb dX0_keyInForce_28 rfl (lv_at hl 0 rfl) ?_
      exact W.iret (v := nI k) hx hb hr (fun t9 ht9 hW9 => ⟨_, rfl, by rw [← hk]; rfl, ht9⟩) (fun q h => by cases h) dX0_keyInForce_29
    · skip
      have c1 := znle c1
      exfalso; omega
  | succ n ih =>
    have t1 : (nI k).toInt = k := nI_toInt (by omega)
    have t2 : (nI (f0 + g0)).toInt = (f0 + g0 : Nat) := nI_toInt (by omega)
    refine lv_iload_n hx hb dX0_keyInForce_2 rfl (lv_at hl 0 rfl) ?_
    refine lv_iload_n hx hb dX0_keyInForce_3 rfl (lv_at hl 3 rfl) ?_
    refine lv_icmp_ge (tgt := 28) hx hb dX0_keyInForce_4 (by decide) (fun c2 => ?_) (fun c2 => ?_)
    · skip
      have c2 := zle c2
      exfalso; omega
    · skip
      have c2 := znle c2
      refine lv_aload_n hx hb dX0_keyInForce_7 rfl (lv_at hl 1 rfl) ?_
      refine va_get (D := (dC, dI)) (ci := 0) (v := .ref a6) (C := RX0) (T := TX0) (N := 13) hx hb hts (by decide +kernel) hown hK hP 0 rfl rfl 7 (by decide) (hts (.fieldLink RX0 42 "MotionDesk" "keyTimes" "[I") (by decide +kernel)) (fun _ h9 => h9) rfl dX0_keyInForce_8 ?_
      refine lv_iload_n hx hb dX0_keyInForce_11 rfl (lv_at hl 0 rfl) ?_
      refine lv_iconst (v := (nI 1)) hx hb dX0_keyInForce_12 (by decide) ?_
      refine lv_iadd hx hb dX0_keyInForce_13 ?_
      refine tp_i (y := nI (k + 1)) (nI_1 k) ?_
      refine va_iald hx hb hK hP 6 0 rfl rfl (vp_in_nI (by omega) (by omega)) dX0_keyInForce_14 ?_
      refine tp_i (y := (kt (k + 1))) (by rw [nI_clamp (by omega)]) ?_
      refine lv_aload_n hx hb dX0_keyInForce_15 rfl (lv_at hl 1 rfl) ?_
      refine va_get (D := (dC, dI)) (ci := 0) (v := .int nw) (C := RX0) (T := TX0) (N := 13) hx hb hts (by decide +kernel) hown hK hP 0 rfl rfl 12 (by decide) (hts (.fieldLink RX0 91 "MotionDesk" "now" "I") (by decide +kernel)) (fun _ h9 => h9) rfl dX0_keyInForce_16 ?_
      refine lv_icmp_gt (tgt := 28) hx hb dX0_keyInForce_19 (by decide) (fun c3 => ?_) (fun c3 => ?_)
      · skip
        have c3 := zlt c3
        refine lv_iload_n hx hb dX0_keyInForce_28 rfl (lv_at hl 0 rfl) ?_
        exact W.iret (v := nI k) hx hb hr (fun t9 ht9 hW9 => ⟨_, rfl, by rw [← hk, kif_s, if_neg (by omega)], ht9⟩) (fun q h => by cases h) dX0_keyInForce_29
      · skip
        have c3 := znlt c3
        refine lv_iinc (v := nI (k + 1)) (lv' := [(3, .int (nI (k + 1))), (0, .ref h0), (1, .int (nI f0)), (2, .int (nI (f0 + g0)))]) hx hb dX0_keyInForce_22 hl (k := 0) rfl (nI_1 k) (by decide) rfl (fun ls hl => ?_)
        refine lv_goto (tgt := 2) hx hb dX0_keyInForce_25 (by decide) ?_
        exact ih (ls := ls) (k := k + 1) (by omega) (by rw [← hk, kif_s, if_pos c3]) (lv_sub hl [0, 1, 2, 3] rfl)
set_option maxHeartbeats 4000000 in
set_option maxRecDepth 100000 in
/-- keysOfAllTracks() -/
theorem cx_keys (l : Launch) (dC : Nat → ClassId) (dI : Nat → Nat → Nat) (cA : ClassId) (h0 a1 a2 a3 a4 a5 a6 a7 a8 a9 N T X : Nat) (nw : Int32) (fv tn tw th tk kt kn xt xn : Nat → Int32) (hT : T ≤ 32) : Met l yX0_keysOfAllTracks wsX0_keysOfAllTracks ({ frames := 0, cells := 0, slots := 0, locals := 0 }) (va_Pc [.ref h0] (rX dC dI cA h0 a1 a2 a3 a4 a5 a6 a7 a8 a9 N T X nw fv tn tw th tk kt kn xt xn)) (vp_Si (fun r => r = bx_sum tk T)) 0 0 (fun _ => False) := by
  refine Met.ofW (cc := cX0_keysOfAllTracks) (maxL := 3) (ret := (some .int)) (by decide) rfl ?_
  intro p e s m args below meth c s₁ B hml hv
  obtain ⟨rfl, hP, hK⟩ := hv
  have hx := B.exec
  have hb := B.bytes
  have hr := B.returns
  have hts := atoms_spec (ws := wsX0_keysOfAllTracks) B.pre
  have hown : s.vm.findClass RX0 = some m.cls := findClass_of_methodNamed B.named
  have hlocks := B.notSynchronized
  have hl := lv_entry ([.ref h0]) (n := 3) (Nat.le_of_ble_eq_true rfl)
  rw [lg_entry_eq]
  generalize (lg_sl ([.ref h0]) ++ List.replicate (3 - (lg_sl ([.ref h0])).length) Slot.unset).toArray = ls at hl ⊢
  have hl : lv_has ls 3 [(0, .ref h0)] := hl
  refine lv_iconst (v := (nI 0)) hx hb dX0_keysOfAllTracks_0 (by decide) ?_
  refine lv_istore_n (lv' := [(1, .int (nI 0)), (0, .ref h0)]) hx hb dX0_keysOfAllTracks_1 rfl hl (by decide) rfl (fun ls hl => ?_)
  refine lv_iconst (v := (nI 0)) hx hb dX0_keysOfAllTracks_2 (by decide) ?_
  refine lv_istore_n (lv' := [(2, .int (nI 0)), (1, .int (nI 0)), (0, .ref h0)]) hx hb dX0_keysOfAllTracks_3 rfl hl (by decide) rfl (fun ls hl => ?_)
  obtain ⟨n, k, hn, hl9⟩ : ∃ n k : Nat, k + n = T ∧ lv_has ls 3 [(2, .int (nI k)), (1, .int (bx_sum tk k)), (0, .ref h0)] := ⟨T, 0, by omega, hl⟩
  clear hl; have hl := hl9; clear hl9
  induction n generalizing k ls with
  | zero =>
    have t1 : (nI k).toInt = k := nI_toInt (by omega)
    have t2 : (nI T).toInt = T := nI_toInt (by omega)
    refine lv_iload_n hx hb dX0_keysOfAllTracks_4 rfl (lv_at hl 0 rfl) ?_
    refine lv_aload_n hx hb dX0_keysOfAllTracks_5 rfl (lv_at hl 2 rfl) ?_
    refine va_get (D := (dC, dI)) (ci := 0) (v := .int (nI T)) (C := RX0) (T := TX0) (N := 13) hx hb hts (by decide +kernel) hown hK hP 0 rfl rfl 2 (by decide) (hts (.fieldLink RX0 69 "MotionDesk" "trackCount" "I") (by decide +kernel)) (fun _ h9 => h9) rfl dX0_keysOfAllTracks_6 ?_
    refine lv_icmp_ge (tgt := 27) hx hb dX0_keysOfAllTracks_9 (by decide) (fun c1 => ?_) (fun c1 => ?_)
    · skip
      have c1 := zle c1
      refine lv_iload_n hx hb dX0_keysOfAllTracks_27 rfl (lv_at hl 1 rfl) ?_
      exact W.iret (v := bx_sum tk k) hx hb hr (fun t9 ht9 hW9 => ⟨_, rfl, by rw [show k = T by omega], ht9⟩) (fun q h => by cases h) dX0_keysOfAllTracks_28
    · skip
      have c1 := znle c1
      exfalso; omega
  | succ n ih =>
    have t1 : (nI k).toInt = k := nI_toInt (by omega)
    have t2 : (nI T).toInt = T := nI_toInt (by omega)
    refine lv_iload_n hx hb dX0_keysOfAllTracks_4 rfl (lv_at hl 0 rfl) ?_
    refine lv_aload_n hx hb dX0_keysOfAllTracks_5 rfl (lv_at hl 2 rfl) ?_
    refine va_get (D := (dC, dI)) (ci := 0) (v := .int (nI T)) (C := RX0) (T := TX0) (N := 13) hx hb hts (by decide +kernel) hown hK hP 0 rfl rfl 2 (by decide) (hts (.fieldLink RX0 69 "MotionDesk" "trackCount" "I") (by decide +kernel)) (fun _ h9 => h9) rfl dX0_keysOfAllTracks_6 ?_
    refine lv_icmp_ge (tgt := 27) hx hb dX0_keysOfAllTracks_9 (by decide) (fun c2 => ?_) (fun c2 => ?_)
    · skip
      have c2 := zle c2
      exfalso; omega
    · skip
      have c2 := znle c2
      refine lv_iload_n hx hb dX0_keysOfAllTracks_12 rfl (lv_at hl 1 rfl) ?_
      refine lv_aload_n hx hb dX0_keysOfAllTracks_13 rfl (lv_at hl 2 rfl) ?_
      refine va_get (D := (dC, dI)) (ci := 0) (v := .ref a5) (C := RX0) (T := TX0) (N := 13) hx hb hts (by decide +kernel) hown hK hP 0 rfl rfl 6 (by decide) (hts (.fieldLink RX0 39 "MotionDesk" "trackKeys" "[I") (by decide +kernel)) (fun _ h9 => h9) rfl dX0_keysOfAllTracks_14 ?_
      refine lv_iload_n hx hb dX0_keysOfAllTracks_17 rfl (lv_at hl 0 rfl) ?_
      refine va_iald hx hb hK hP 5 0 rfl rfl (vp_in_nI (by omega) (by omega)) dX0_keysOfAllTracks_18 ?_
      refine tp_i (y := (tk k)) (by rw [nI_clamp (by omega)]) ?_
      refine lv_iadd hx hb dX0_keysOfAllTracks_19 ?_
      refine tp_i (y := bx_sum tk (k + 1)) (rfl) ?_
      refine lv_istore_n (lv' := [(1, .int (bx_sum tk (k + 1))), (2, .int (nI k)), (0, .ref h0)]) hx hb dX0_keysOfAllTracks_20 rfl hl (by decide) rfl (fun ls hl => ?_)
      refine lv_iinc (v := nI (k + 1)) (lv' := [(2, .int (nI (k + 1))), (1, .int (bx_sum tk (k + 1))), (0, .ref h0)]) hx hb dX0_keysOfAllTracks_21 hl (k := 1) rfl (nI_1 k) (by decide) rfl (fun ls hl => ?_)
      refine lv_goto (tgt := 4) hx hb dX0_keysOfAllTracks_24 (by decide) ?_
      exact ih (ls := ls) (k := k + 1) (by omega) hl
set_option maxHeartbeats 4000000 in
set_option maxRecDepth 100000 in
/-- textFits(keys, what) -/
theorem cx_fits (l : Launch) (dC : Nat → ClassId) (dI : Nat → Nat → Nat) (cA : ClassId) (h0 a1 a2 a3 a4 a5 a6 a7 a8 a9 N T X : Nat) (nw : Int32) (fv tn tw th tk kt kn xt xn : Nat → Int32) (K : Nat) (a : Int32) (hK32 : K ≤ 32) : Met l yX0_textFits wsX0_textFits ({ frames := 2, cells := 0, slots := 0, locals := 45 }) (va_Pc [.ref h0, .int (nI K), .int a] (rX dC dI cA h0 a1 a2 a3 a4 a5 a6 a7 a8 a9 N T X nw fv tn tw th tk kt kn xt xn)) (vp_Si (fun r => r = 0 ↔ ¬ q_all a xn K)) 0 0 (fun _ => False) := by
  refine Met.ofW (cc := cX0_textFits) (maxL := 5) (ret := (some .boolean)) (by decide) rfl ?_
  intro p e s m args below meth c s₁ B hml hv
  obtain ⟨rfl, hP, hK⟩ := hv
  have hx := B.exec
  have hb := B.bytes
  have hr := B.returns
  have hts := atoms_spec (ws := wsX0_textFits) B.pre
  have hown : s.vm.findClass RX0 = some m.cls := findClass_of_methodNamed B.named
  have hlocks := B.notSynchronized
  have hl := lv_entry ([.ref h0, .int (nI K), .int a]) (n := 5) (Nat.le_of_ble_eq_true rfl)
  rw [lg_entry_eq]
  generalize (lg_sl ([.ref h0, .int (nI K), .int a]) ++ List.replicate (5 - (lg_sl ([.ref h0, .int (nI K), .int a])).length) Slot.unset).toArray = ls at hl ⊢
  have hl : lv_has ls 5 [(0, .ref h0), (1, .int (nI K)), (2, .int a)] := hl
  refine lv_iconst (v := (nI 0)) hx hb dX0_textFits_0 (by decide) ?_
  refine lv_istore_n (lv' := [(3, .int (nI 0)), (0, .ref h0), (1, .int (nI K)), (2, .int a)]) hx hb dX0_textFits_1 rfl hl (by decide) rfl (fun ls hl => ?_)
  obtain ⟨n, k, hn, ha, hl9⟩ : ∃ n k : Nat, k + n = K ∧ (∀ j, j < k → q_fits a xn j) ∧ lv_has ls 5 [(3, .int (nI k)), (0, .ref h0), (1, .int (nI K)), (2, .int a)] := ⟨K, 0, by omega, lt_0, hl⟩
  clear hl; have hl := hl9; clear hl9
  induction n generalizing k ls with
  | zero =>
    have t1 : (nI k).toInt = k := nI_toInt (by omega)
    have t2 : (nI K).toInt = K := nI_toInt (by omega)
    refine lv_iload_n hx hb dX0_textFits_2 rfl (lv_at hl 0 rfl) ?_
    refine lv_iload_n hx hb dX0_textFits_3 rfl (lv_at hl 2 rfl) ?_
    refine lv_icmp_ge (tgt := 52) hx hb dX0_textFits_4 (by decide) (fun c1 => ?_) (fun c1 => ?_)
    · skip
      have c1 := zle c1
      refine lv_iconst (v := (nI 1)) hx hb dX0_textFits_52 (by decide) ?_
      exact W.zret (v := (nI 1)) (ty := .boolean) hx hb hr (by decide) (fun t9 ht9 hW9 => ⟨_, rfl, bt1 (fun j hj => ha j (by omega)), ht9⟩) (fun q h => by cases h) dX0_textFits_53
    · skip
      have c1 := znle c1
      exfalso; omega
  | succ n ih =>
    have t1 : (nI k).toInt = k := nI_toInt (by omega)
    have t2 : (nI K).toInt = K := nI_toInt (by omega)
    refine lv_iload_n hx hb dX0_textFits_2 rfl (lv_at hl 0 rfl) ?_
    refine lv_iload_n hx hb dX0_textFits_3 rfl (lv_at hl 2 rfl) ?_
    refine lv_icmp_ge (tgt := 52) hx hb dX0_textFits_4 (by decide) (fun c2 => ?_) (fun c2 => ?_)
    · skip
      have c2 := zle c2
      exfalso; omega
    · skip
      have c2 := znle c2
      refine lv_iload_n hx hb dX0_textFits_7 rfl (lv_at hl 0 rfl) ?_
      refine lv_iconst (v := (nI 3)) hx hb dX0_textFits_8 (by decide) ?_
      refine lv_imul hx hb dX0_textFits_9 ?_
      refine tp_i (y := nI (k * 3)) (pk_mul k 3) ?_
      refine lv_istore (lv' := [(4, .int (nI (k * 3))), (3, .int (nI k)), (0, .ref h0), (1, .int (nI K)), (2, .int a)]) hx hb dX0_textFits_10 hl (by decide) rfl (fun ls hl => ?_)
      refine lv_iload_n hx hb dX0_textFits_12 rfl (lv_at hl 4 rfl) ?_
      refine lv_aload_n hx hb dX0_textFits_13 rfl (lv_at hl 2 rfl) ?_
      refine va_get (D := (dC, dI)) (ci := 0) (v := .ref a9) (C := RX0) (T := TX0) (N := 13) hx hb hts (by decide +kernel) hown hK hP 0 rfl rfl 11 (by decide) (hts (.fieldLink RX0 51 "MotionDesk" "textNumbers" "[I") (by decide +kernel)) (fun _ h9 => h9) rfl dX0_textFits_14 ?_
      refine lv_iload hx hb dX0_textFits_17 (lv_at hl 0 rfl) ?_
      refine va_iald hx hb hK hP 9 0 rfl rfl (vp_in_nI (by omega) (by omega)) dX0_textFits_19 ?_
      refine tp_i (y := (xn (k * 3))) (by rw [nI_clamp (by omega)]) ?_
      refine lv_aload_n hx hb dX0_textFits_20 rfl (lv_at hl 2 rfl) ?_
      refine va_get (D := (dC, dI)) (ci := 0) (v := .ref a9) (C := RX0) (T := TX0) (N := 13) hx hb hts (by decide +kernel) hown hK hP 0 rfl rfl 11 (by decide) (hts (.fieldLink RX0 51 "MotionDesk" "textNumbers" "[I") (by decide +kernel)) (fun _ h9 => h9) rfl dX0_textFits_21 ?_
      refine lv_iload hx hb dX0_textFits_24 (lv_at hl 0 rfl) ?_
      refine lv_iconst (v := (nI 1)) hx hb dX0_textFits_26 (by decide) ?_
      refine lv_iadd hx hb dX0_textFits_27 ?_
      refine tp_i (y := nI (k * 3 + 1)) (nI_add _ 1) ?_
      refine va_iald hx hb hK hP 9 0 rfl rfl (vp_in_nI (by omega) (by omega)) dX0_textFits_28 ?_
      refine tp_i (y := (xn (k * 3 + 1))) (by rw [nI_clamp (by omega)]) ?_
      refine lv_aload_n hx hb dX0_textFits_29 rfl (lv_at hl 2 rfl) ?_
      refine va_get (D := (dC, dI)) (ci := 0) (v := .ref a9) (C := RX0) (T := TX0) (N := 13) hx hb hts (by decide +kernel) hown hK hP 0 rfl rfl 11 (by decide) (hts (.fieldLink RX0 51 "MotionDesk" "textNumbers" "[I") (by decide +kernel)) (fun _ h9 => h9) rfl dX0_textFits_30 ?_
      refine lv_iload hx hb dX0_textFits_33 (lv_at hl 0 rfl) ?_
      refine lv_iconst (v := (nI 2)) hx hb dX0_textFits_35 (by decide) ?_
      refine lv_iadd hx hb dX0_textFits_36 ?_
      refine tp_i (y := nI (k * 3 + 2)) (nI_add _ 2) ?_
      refine va_iald hx hb hK hP 9 0 rfl rfl (vp_in_nI (by omega) (by omega)) dX0_textFits_37 ?_
      refine tp_i (y := (xn (k * 3 + 2))) (by rw [nI_clamp (by omega)]) ?_
      refine vp_callSi (W.runS (As := [.int a, .int (xn (k * 3)), .int (xn (k * 3 + 1)), .int (xn (k * 3 + 2))]) (rest := []) ⟨hx, hb, hml, hown, hts⟩ (cx_canHave l a (xn (k * 3)) (xn (k * 3 + 1)) (xn (k * 3 + 2))) (va_cwS 4 hts gX0_textFits_X0_canHave rfl rfl rfl (by decide +kernel) ⟨Nat.le_of_ble_eq_true rfl, Nat.le_of_ble_eq_true rfl⟩) preEq rfl rfl hl.1 rfl (lv_room (Nat.le_of_ble_eq_true rfl)) dX0_textFits_38 ⟨Nat.le_of_ble_eq_true rfl, Nat.le_of_ble_eq_true rfl⟩) (fun bo3 h_bo3 => ?_)
      refine lv_if_ne (tgt := 46) hx hb dX0_textFits_41 (by decide) (fun c4 => ?_) (fun c4 => ?_)
      · skip
        have c4 := btT h_bo3 c4
        refine lv_iinc (v := nI (k + 1)) (lv' := [(3, .int (nI (k + 1))), (4, .int (nI (k * 3))), (0, .ref h0), (1, .int (nI K)), (2, .int a)]) hx hb dX0_textFits_46 hl (k := 1) rfl (nI_1 k) (by decide) rfl (fun ls hl => ?_)
        refine lv_goto (tgt := 2) hx hb dX0_textFits_49 (by decide) ?_
        exact ih (ls := ls) (k := k + 1) (by omega) (lt_s ha c4) (lv_sub hl [0, 2, 3, 4] rfl)
      · skip
        have c4 := btF h_bo3 c4
        refine lv_iconst (v := (nI 0)) hx hb dX0_textFits_44 (by decide) ?_
        exact W.zret (v := (nI 0)) (ty := .boolean) hx hb hr (by decide) (fun t9 ht9 hW9 => ⟨_, rfl, bt0 (fun h => c4 (h k (by omega))), ht9⟩) (fun q h => by cases h) dX0_textFits_45
set_option maxHeartbeats 4000000 in
set_option maxRecDepth 100000 in
/-- between(how, key, i) -/
theorem cx_btw (l : Launch) (dC : Nat → ClassId) (dI : Nat → Nat → Nat) (cA : ClassId) (h0 a1 a2 a3 a4 a5 a6 a7 a8 a9 N T X : Nat) (nw : Int32) (fv tn tw th tk kt kn xt xn : Nat → Int32) (a : Int32) (k j : Nat) (hk : k + 1 < 1024) (hj : j < 3) : Met l yX0_between wsX0_between ({ frames := 4, cells := 0, slots := 0, locals := 92 }) (va_Pc [.ref h0, .int a, .int (nI k), .int (nI j)] (rX dC dI cA h0 a1 a2 a3 a4 a5 a6 a7 a8 a9 N T X nw fv tn tw th tk kt kn xt xn)) (vp_Si (fun r => r = btw kt kn nw a k j)) 0 0 (fun _ => False) := by
  refine Met.ofW (cc := cX0_between) (maxL := 12) (ret := (some .int)) (by decide) rfl ?_
  intro p e s m args below meth c s₁ B hml hv
  obtain ⟨rfl, hP, hK⟩ := hv
  have hx := B.exec
  have hb := B.bytes
  have hr := B.returns
  have hts := atoms_spec (ws := wsX0_between) B.pre
  have hown : s.vm.findClass RX0 = some m.cls := findClass_of_methodNamed B.named
  have hlocks := B.notSynchronized
  have hl := lv_entry ([.ref h0, .int a, .int (nI k), .int (nI j)]) (n := 12) (Nat.le_of_ble_eq_true rfl)
  rw [lg_entry_eq]
  generalize (lg_sl ([.ref h0, .int a, .int (nI k), .int (nI j)]) ++ List.replicate (12 - (lg_sl ([.ref h0, .int a, .int (nI k), .int (nI j)])).length) Slot.unset).toArray = ls at hl ⊢
  have hl : lv_has ls 12 [(0, .ref h0), (1, .int a), (2, .int (nI k)), (3, .int (nI j))] := hl
  have t1 : (nI 1).toInt = 1 := by decide
  have t2 : (nI 2).toInt = 2 := by decide
  refine lv_aload_n hx hb dX0_between_0 rfl (lv_at hl 0 rfl) ?_
  refine va_get (D := (dC, dI)) (ci := 0) (v := .ref a7) (C := RX0) (T := TX0) (N := 13) hx hb hts (by decide +kernel) hown hK hP 0 rfl rfl 8 (by decide) (hts (.fieldLink RX0 45 "MotionDesk" "keyNumbers" "[I") (by decide +kernel)) (fun _ h9 => h9) rfl dX0_between_1 ?_
  refine lv_iload_n hx hb dX0_between_4 rfl (lv_at hl 2 rfl) ?_
  refine lv_iconst (v := (nI 3)) hx hb dX0_between_5 (by decide) ?_
  refine lv_imul hx hb dX0_between_6 ?_
  refine tp_i (y := nI (k * 3)) (pk_mul k 3) ?_
  refine lv_iload_n hx hb dX0_between_7 rfl (lv_at hl 3 rfl) ?_
  refine lv_iadd hx hb dX0_between_8 ?_
  refine tp_i (y := nI (k * 3 + j)) (nI_add _ _) ?_
  refine va_iald hx hb hK hP 7 0 rfl rfl (vp_in_nI (by omega) (by omega)) dX0_between_9 ?_
  refine tp_i (y := (kn (k * 3 + j))) (by rw [nI_clamp (by omega)]) ?_
  refine lv_i2l (v := (kn (k * 3 + j)).toInt64) hx hb dX0_between_10 rfl ?_
  refine lv_lstore (lv' := [(4, .long ((kn (k * 3 + j)).toInt64)), (0, .ref h0), (1, .int a), (2, .int (nI k)), (3, .int (nI j))]) hx hb dX0_between_11 hl (by decide) rfl (fun ls hl => ?_)
  refine lv_aload_n hx hb dX0_between_13 rfl (lv_at hl 1 rfl) ?_
  refine va_get (D := (dC, dI)) (ci := 0) (v := .ref a7) (C := RX0) (T := TX0) (N := 13) hx hb hts (by decide +kernel) hown hK hP 0 rfl rfl 8 (by decide) (hts (.fieldLink RX0 45 "MotionDesk" "keyNumbers" "[I") (by decide +kernel)) (fun _ h9 => h9) rfl dX0_between_14 ?_
  refine lv_iload_n hx hb dX0_between_17 rfl (lv_at hl 3 rfl) ?_
  refine lv_iconst (v := (nI 1)) hx hb dX0_between_18 (by decide) ?_
  refine lv_iadd hx hb dX0_between_19 ?_
  refine tp_i (y := nI (k + 1)) (nI_1 k) ?_
  refine lv_iconst (v := (nI 3)) hx hb dX0_between_20 (by decide) ?_
  refine lv_imul hx hb dX0_between_21 ?_
  refine tp_i (y := nI ((k + 1) * 3)) (pk_mul (k + 1) 3) ?_
  refine lv_iload_n hx hb dX0_between_22 rfl (lv_at hl 4 rfl) ?_
  refine lv_iadd hx hb dX0_between_23 ?_
  refine tp_i (y := nI ((k + 1) * 3 + j)) (nI_add _ _) ?_
  refine va_iald hx hb hK hP 7 0 rfl rfl (vp_in_nI (by omega) (by omega)) dX0_between_24 ?_
  refine tp_i (y := (kn ((k + 1) * 3 + j))) (by rw [nI_clamp (by omega)]) ?_
  refine lv_i2l (v := (kn ((k + 1) * 3 + j)).toInt64) hx hb dX0_between_25 rfl ?_
  refine lv_lload hx hb dX0_between_26 (lv_at hl 0 rfl) ?_
  refine lv_lsub hx hb dX0_between_28 ?_
  refine lv_lstore (lv' := [(6, .long (((kn ((k + 1) * 3 + j)).toInt64) - ((kn (k * 3 + j)).toInt64))), (4, .long ((kn (k * 3 + j)).toInt64)), (0, .ref h0), (1, .int a), (2, .int (nI k)), (3, .int (nI j))]) hx hb dX0_between_29 hl (by decide) rfl (fun ls hl => ?_)
  refine lv_aload_n hx hb dX0_between_31 rfl (lv_at hl 2 rfl) ?_
  refine va_get (D := (dC, dI)) (ci := 0) (v := .int nw) (C := RX0) (T := TX0) (N := 13) hx hb hts (by decide +kernel) hown hK hP 0 rfl rfl 12 (by decide) (hts (.fieldLink RX0 91 "MotionDesk" "now" "I") (by decide +kernel)) (fun _ h9 => h9) rfl dX0_between_32 ?_
  refine lv_aload_n hx hb dX0_between_35 rfl (lv_at hl 2 rfl) ?_
  refine va_get (D := (dC, dI)) (ci := 0) (v := .ref a6) (C := RX0) (T := TX0) (N := 13) hx hb hts (by decide +kernel) hown hK hP 0 rfl rfl 7 (by decide) (hts (.fieldLink RX0 42 "MotionDesk" "keyTimes" "[I") (by decide +kernel)) (fun _ h9 => h9) rfl dX0_between_36 ?_
  refine lv_iload_n hx hb dX0_between_39 rfl (lv_at hl 4 rfl) ?_
  refine va_iald hx hb hK hP 6 0 rfl rfl (vp_in_nI (by omega) (by omega)) dX0_between_40 ?_
  refine tp_i (y := (kt k)) (by rw [nI_clamp (by omega)]) ?_
  refine lv_isub hx hb dX0_between_41 ?_
  refine lv_i2l (v := (nw - (kt k)).toInt64) hx hb dX0_between_42 rfl ?_
  refine lv_lstore (lv' := [(8, .long ((nw - (kt k)).toInt64)), (6, .long (((kn ((k + 1) * 3 + j)).toInt64) - ((kn (k * 3 + j)).toInt64))), (4, .long ((kn (k * 3 + j)).toInt64)), (0, .ref h0), (1, .int a), (2, .int (nI k)), (3, .int (nI j))]) hx hb dX0_between_43 hl (by decide) rfl (fun ls hl => ?_)
  refine lv_aload_n hx hb dX0_between_45 rfl (lv_at hl 3 rfl) ?_
  refine va_get (D := (dC, dI)) (ci := 0) (v := .ref a6) (C := RX0) (T := TX0) (N := 13) hx hb hts (by decide +kernel) hown hK hP 0 rfl rfl 7 (by decide) (hts (.fieldLink RX0 42 "MotionDesk" "keyTimes" "[I") (by decide +kernel)) (fun _ h9 => h9) rfl dX0_between_46 ?_
  refine lv_iload_n hx hb dX0_between_49 rfl (lv_at hl 5 rfl) ?_
  refine lv_iconst (v := (nI 1)) hx hb dX0_between_50 (by decide) ?_
  refine lv_iadd hx hb dX0_between_51 ?_
  refine tp_i (y := nI (k + 1)) (nI_1 k) ?_
  refine va_iald hx hb hK hP 6 0 rfl rfl (vp_in_nI (by omega) (by omega)) dX0_between_52 ?_
  refine tp_i (y := (kt (k + 1))) (by rw [nI_clamp (by omega)]) ?_
  refine lv_aload_n hx hb dX0_between_53 rfl (lv_at hl 3 rfl) ?_
  refine va_get (D := (dC, dI)) (ci := 0) (v := .ref a6) (C := RX0) (T := TX0) (N := 13) hx hb hts (by decide +kernel) hown hK hP 0 rfl rfl 7 (by decide) (hts (.fieldLink RX0 42 "MotionDesk" "keyTimes" "[I") (by decide +kernel)) (fun _ h9 => h9) rfl dX0_between_54 ?_
  refine lv_iload_n hx hb dX0_between_57 rfl (lv_at hl 5 rfl) ?_
  refine va_iald hx hb hK hP 6 0 rfl rfl (vp_in_nI (by omega) (by omega)) dX0_between_58 ?_
  refine tp_i (y := (kt k)) (by rw [nI_clamp (by omega)]) ?_
  refine lv_isub hx hb dX0_between_59 ?_
  refine lv_i2l (v := ((kt (k + 1)) - (kt k)).toInt64) hx hb dX0_between_60 rfl ?_
  refine lv_lstore (lv' := [(10, .long (((kt (k + 1)) - (kt k)).toInt64)), (8, .long ((nw - (kt k)).toInt64)), (6, .long (((kn ((k + 1) * 3 + j)).toInt64) - ((kn (k * 3 + j)).toInt64))), (4, .long ((kn (k * 3 + j)).toInt64)), (0, .ref h0), (1, .int a), (2, .int (nI k)), (3, .int (nI j))]) hx hb dX0_between_61 hl (by decide) rfl (fun ls hl => ?_)
  refine lv_iload_n hx hb dX0_between_63 rfl (lv_at hl 5 rfl) ?_
  refine lv_iconst (v := (nI 1)) hx hb dX0_between_64 (by decide) ?_
  refine lv_icmp_ne (tgt := 83) hx hb dX0_between_65 (by decide) (fun c1 => ?_) (fun c1 => ?_)
  · skip
    have c1 := zne c1
    refine lv_iload_n hx hb dX0_between_83 rfl (lv_at hl 5 rfl) ?_
    refine lv_iconst (v := (nI 2)) hx hb dX0_between_84 (by decide) ?_
    refine lv_icmp_ne (tgt := 112) hx hb dX0_between_85 (by decide) (fun c2 => ?_) (fun c2 => ?_)
    · skip
      have c2 := zne c2
      refine lv_lload hx hb dX0_between_112 (lv_at hl 3 rfl) ?_
      refine lv_l2i (v := ((kn (k * 3 + j)).toInt64).toInt32) hx hb dX0_between_114 rfl ?_
      exact W.iret (v := ((kn (k * 3 + j)).toInt64).toInt32) hx hb hr (fun t9 ht9 hW9 => ⟨_, rfl, by unfold btw; rw [if_neg (by omega), if_neg (by omega)], ht9⟩) (fun q h => by cases h) dX0_between_115
    · skip
      have c2 := zeq c2
      refine lv_lload hx hb dX0_between_88 (lv_at hl 3 rfl) ?_
      refine lv_lload hx hb dX0_between_90 (lv_at hl 2 rfl) ?_
      refine lv_lload hx hb dX0_between_92 (lv_at hl 1 rfl) ?_
      refine lv_ldc2 (v := 65536) hx hb hown (hts (.constantLong RX0 119 65536) (by decide +kernel)) dX0_between_94 ?_
      refine lv_lmul hx hb dX0_between_97 ?_
      refine lv_lload hx hb dX0_between_98 (lv_at hl 0 rfl) ?_
      refine vp_callSl (W.runS (As := [.long (((nw - (kt k)).toInt64) * 65536), .long (((kt (k + 1)) - (kt k)).toInt64)]) (rest := [.long (((kn ((k + 1) * 3 + j)).toInt64) - ((kn (k * 3 + j)).toInt64)), .long ((kn (k * 3 + j)).toInt64)]) ⟨hx, hb, hml, hown, hts⟩ (cx_div l (((nw - (kt k)).toInt64) * 65536) (((kt (k + 1)) - (kt k)).toInt64)) (va_cwS 2 hts gX0_between_X0_div rfl rfl rfl (by decide +kernel) ⟨Nat.le_of_ble_eq_true rfl, Nat.le_of_ble_eq_true rfl⟩) preEq rfl rfl hl.1 rfl (lv_room (Nat.le_of_ble_eq_true rfl)) dX0_between_100 ⟨Nat.le_of_ble_eq_true rfl, Nat.le_of_ble_eq_true rfl⟩) (fun r3 h_r3 => ?_)
      refine vp_callSl (W.runS (As := [.long r3]) (rest := [.long (((kn ((k + 1) * 3 + j)).toInt64) - ((kn (k * 3 + j)).toInt64)), .long ((kn (k * 3 + j)).toInt64)]) ⟨hx, hb, hml, hown, hts⟩ (cx_smoothed l r3) (va_cwS 1 hts gX0_between_X0_smoothed rfl rfl rfl (by decide +kernel) ⟨Nat.le_of_ble_eq_true rfl, Nat.le_of_ble_eq_true rfl⟩) preEq rfl rfl hl.1 rfl (lv_room (Nat.le_of_ble_eq_true rfl)) dX0_between_103 ⟨Nat.le_of_ble_eq_true rfl, Nat.le_of_ble_eq_true rfl⟩) (fun r4 h_r4 => ?_)
      refine vp_callSl (W.runS (As := [.long (((kn ((k + 1) * 3 + j)).toInt64) - ((kn (k * 3 + j)).toInt64)), .long r4]) (rest := [.long ((kn (k * 3 + j)).toInt64)]) ⟨hx, hb, hml, hown, hts⟩ (cx_mul l (((kn ((k + 1) * 3 + j)).toInt64) - ((kn (k * 3 + j)).toInt64)) r4) (va_cwS 2 hts gX0_between_X0_mul rfl rfl rfl (by decide +kernel) ⟨Nat.le_of_ble_eq_true rfl, Nat.le_of_ble_eq_true rfl⟩) preEq rfl rfl hl.1 rfl (lv_room (Nat.le_of_ble_eq_true rfl)) dX0_between_106 ⟨Nat.le_of_ble_eq_true rfl, Nat.le_of_ble_eq_true rfl⟩) (fun r5 h_r5 => ?_)
      refine lv_ladd hx hb dX0_between_109 ?_
      refine lv_l2i (v := (((kn (k * 3 + j)).toInt64) + r5).toInt32) hx hb dX0_between_110 rfl ?_
      exact W.iret (v := (((kn (k * 3 + j)).toInt64) + r5).toInt32) hx hb hr (fun t9 ht9 hW9 => ⟨_, rfl, by unfold btw; rw [if_neg (by omega), if_pos (by omega)]; rw [h_r5, h_r4, h_r3], ht9⟩) (fun q h => by cases h) dX0_between_111
  · skip
    have c1 := zeq c1
    refine lv_lload hx hb dX0_between_68 (lv_at hl 3 rfl) ?_
    refine lv_lload hx hb dX0_between_70 (lv_at hl 2 rfl) ?_
    refine lv_lload hx hb dX0_between_72 (lv_at hl 1 rfl) ?_
    refine lv_lmul hx hb dX0_between_74 ?_
    refine lv_lload hx hb dX0_between_75 (lv_at hl 0 rfl) ?_
    refine vp_callSl (W.runS (As := [.long ((((kn ((k + 1) * 3 + j)).toInt64) - ((kn (k * 3 + j)).toInt64)) * ((nw - (kt k)).toInt64)), .long (((kt (k + 1)) - (kt k)).toInt64)]) (rest := [.long ((kn (k * 3 + j)).toInt64)]) ⟨hx, hb, hml, hown, hts⟩ (cx_div l ((((kn ((k + 1) * 3 + j)).toInt64) - ((kn (k * 3 + j)).toInt64)) * ((nw - (kt k)).toInt64)) (((kt (k + 1)) - (kt k)).toInt64)) (va_cwS 2 hts gX0_between_X0_div rfl rfl rfl (by decide +kernel) ⟨Nat.le_of_ble_eq_true rfl, Nat.le_of_ble_eq_true rfl⟩) preEq rfl rfl hl.1 rfl (lv_room (Nat.le_of_ble_eq_true rfl)) dX0_between_77 ⟨Nat.le_of_ble_eq_true rfl, Nat.le_of_ble_eq_true rfl⟩) (fun r6 h_r6 => ?_)
    refine lv_ladd hx hb dX0_between_80 ?_
    refine lv_l2i (v := (((kn (k * 3 + j)).toInt64) + r6).toInt32) hx hb dX0_between_81 rfl ?_
    exact W.iret (v := (((kn (k * 3 + j)).toInt64) + r6).toInt32) hx hb hr (fun t9 ht9 hW9 => ⟨_, rfl, by unfold btw; rw [if_pos (by omega)]; rw [h_r6], ht9⟩) (fun q h => by cases h) dX0_between_82
