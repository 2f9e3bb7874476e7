abbrev wM (cA : ClassId) (g0 b1 b2 b3 b4 b5 b6 b7 b8 b9 N T X : Nat) (nw : Int32) (fv tn tw th tk kt kn xt xn : Nat → Int32) : va_W := [(g0, .inr (1, [.int (nI 0), .int (nI N), .ref b1, .int nw, .int (nI X), .ref b8, .ref b9, .int (nI T), .ref b2, .ref b3, .ref b4, .ref b5, .ref b6, .ref b7])), (b1, .inl (cA, 432, .inl fv)), (b2, .inl (cA, 32, .inl tn)), (b3, .inl (cA, 32, .inl tw)), (b4, .inl (cA, 32, .inl th)), (b5, .inl (cA, 32, .inl tk)), (b6, .inl (cA, 1024, .inl kt)), (b7, .inl (cA, 3072, .inl kn)), (b8, .inl (cA, 32, .inl xt)), (b9, .inl (cA, 96, .inl xn))]
abbrev rM (dC : Nat → ClassId) (dI : Nat → Nat → Nat) (cA : ClassId) (g0 b1 b2 b3 b4 b5 b6 b7 b8 b9 N T X : Nat) (nw : Int32) (fv tn tw th tk kt kn xt xn : Nat → Int32) (U : State) : Prop := va_P (dC, dI) vwCl (wM cA g0 b1 b2 b3 b4 b5 b6 b7 b8 b9 N T X nw fv tn tw th tk kt kn xt xn) U.heap ∧ va_K (dC, dI) vwCl [(cA, .int)] U
abbrev bM (A : Nat → Prop) (dC : Nat → ClassId) (dI : Nat → Nat → Nat) (cA : ClassId) (g0 b1 b2 b3 b4 b5 b6 b7 b8 b9 N T X : Nat) (nw : Int32) (fv tn tw th tk kt kn xt xn : Nat → Int32) (U : State) : Prop := va_P (dC, dI) vwCl (wM cA g0 b1 b2 b3 b4 b5 b6 b7 b8 b9 N T X nw fv tn tw th tk kt kn xt xn) U.heap ∧ va_K (dC, dI) vwCl [(cA, .int)] U ∧ va_D A (wM cA g0 b1 b2 b3 b4 b5 b6 b7 b8 b9 N T X nw fv tn tw th tk kt kn xt xn)
abbrev eM (sz : Nat) (dC : Nat → ClassId) (dI : Nat → Nat → Nat) (cA : ClassId) (g0 b1 b2 b3 b4 b5 b6 b7 b8 b9 N T X : Nat) (nw : Int32) (fv tn tw th tk kt kn xt xn : Nat → Int32) (U : State) : Prop := U.heap.size = sz ∧ va_P (dC, dI) vwCl (wM cA g0 b1 b2 b3 b4 b5 b6 b7 b8 b9 N T X nw fv tn tw th tk kt kn xt xn) U.heap ∧ va_K (dC, dI) vwCl [(cA, .int)] U ∧ va_D (fun _ => True) (wM cA g0 b1 b2 b3 b4 b5 b6 b7 b8 b9 N T X nw fv tn tw th tk kt kn xt xn)
set_option maxHeartbeats 4000000 in
set_option maxRecDepth 100000 in
/-- fits(what, v) -/
theorem cm_fits (l : Launch) (a x : Int32) : Met l yX1_fits wsX1_fits ({ frames := 0, cells := 0, slots := 0, locals := 0 }) (fun v _ => v = [Value.int a, Value.int x].toArray) (vp_Si (fun b => b = 0 ↔ ¬ q_in x (q_reach a))) 0 0 (fun _ => False) := by
  refine Met.ofW (cc := cX1_fits) (maxL := 3) (ret := (some .boolean)) (by decide) rfl ?_
  intro p e s m args below meth c s₁ B hml hv
  have hv : args = ([.int a, .int x]).toArray := hv
  subst hv
  have hx := B.exec
  have hb := B.bytes
  have hr := B.returns
  have hts := atoms_spec (ws := wsX1_fits) B.pre
  have hown : s.vm.findClass RX1 = some m.cls := findClass_of_methodNamed B.named
  have hlocks := B.notSynchronized
  have hl := lv_entry ([.int a, .int x]) (n := 3) (Nat.le_of_ble_eq_true rfl)
  rw [lg_entry_eq]
  generalize (lg_sl ([.int a, .int x]) ++ List.replicate (3 - (lg_sl ([.int a, .int x])).length) Slot.unset).toArray = ls at hl ⊢
  have hl : lv_has ls 3 [(0, .int a), (1, .int x)] := hl
  have t0 := z_0
  have t1 : (4194304 : Int32).toInt = 4194304 := by decide
  have t2 : (1048576 : Int32).toInt = 1048576 := by decide
  have t3 : (-4194304 : Int32).toInt = -4194304 := by decide
  have t4 : (-1048576 : Int32).toInt = -1048576 := by decide
  refine lv_iload_n hx hb dX1_fits_0 rfl (lv_at hl 0 rfl) ?_
  refine lv_if_ne (tgt := 9) hx hb dX1_fits_1 (by decide) (fun c1 => ?_) (fun c1 => ?_)
  · skip
    have c1 := zne c1
    have hrch : q_reach a = 1048576 := by unfold q_reach; rw [if_neg (by omega)]
    refine lv_ldc (v := 1048576) hx hb hown (hts (.constant RX1 46 1048576) (by decide +kernel)) dX1_fits_9 ?_
    refine lv_istore_n (lv' := [(2, .int 1048576), (0, .int a), (1, .int x)]) hx hb dX1_fits_11 rfl hl (by decide) rfl (fun ls hl => ?_)
    refine lv_iload_n hx hb dX1_fits_12 rfl (lv_at hl 2 rfl) ?_
    refine lv_iload_n hx hb dX1_fits_13 rfl (lv_at hl 0 rfl) ?_
    refine lv_ineg hx hb dX1_fits_14 ?_
    refine tp_i (y := (-1048576)) (rfl) ?_
    refine lv_icmp_lt (tgt := 27) hx hb dX1_fits_15 (by decide) (fun c2 => ?_) (fun c2 => ?_)
    · skip
      have c2 := zlt c2
      refine lv_iconst (v := (nI 0)) hx hb dX1_fits_27 (by decide) ?_
      exact W.zret (v := (nI 0)) (ty := .boolean) hx hb hr (by decide) (fun t9 ht9 hW9 => ⟨_, rfl, bt0 (by unfold q_in; rw [hrch]; omega), ht9⟩) (fun q h => by cases h) dX1_fits_28
    · skip
      have c2 := znlt c2
      refine lv_iload_n hx hb dX1_fits_18 rfl (lv_at hl 2 rfl) ?_
      refine lv_iload_n hx hb dX1_fits_19 rfl (lv_at hl 0 rfl) ?_
      refine lv_icmp_gt (tgt := 27) hx hb dX1_fits_20 (by decide) (fun c3 => ?_) (fun c3 => ?_)
      · skip
        have c3 := zlt c3
        refine lv_iconst (v := (nI 0)) hx hb dX1_fits_27 (by decide) ?_
        exact W.zret (v := (nI 0)) (ty := .boolean) hx hb hr (by decide) (fun t9 ht9 hW9 => ⟨_, rfl, bt0 (by unfold q_in; rw [hrch]; omega), ht9⟩) (fun q h => by cases h) dX1_fits_28
      · skip
        have c3 := znlt c3
        refine lv_iconst (v := (nI 1)) hx hb dX1_fits_23 (by decide) ?_
        refine lv_goto (tgt := 28) hx hb dX1_fits_24 (by decide) ?_
        exact W.zret (v := (nI 1)) (ty := .boolean) hx hb hr (by decide) (fun t9 ht9 hW9 => ⟨_, rfl, bt1 (by unfold q_in; rw [hrch]; omega), ht9⟩) (fun q h => by cases h) dX1_fits_28
  · skip
    have c1 := zeq c1
    have hrch : q_reach a = 4194304 := by unfold q_reach; rw [if_pos (by omega)]
    refine lv_ldc (v := 4194304) hx hb hown (hts (.constant RX1 45 4194304) (by decide +kernel)) dX1_fits_4 ?_
    refine lv_goto (tgt := 11) hx hb dX1_fits_6 (by decide) ?_
    refine lv_istore_n (lv' := [(2, .int 4194304), (0, .int a), (1, .int x)]) hx hb dX1_fits_11 rfl hl (by decide) rfl (fun ls hl => ?_)
    refine lv_iload_n hx hb dX1_fits_12 rfl (lv_at hl 2 rfl) ?_
    refine lv_iload_n hx hb dX1_fits_13 rfl (lv_at hl 0 rfl) ?_
    refine lv_ineg hx hb dX1_fits_14 ?_
    refine tp_i (y := (-4194304)) (rfl) ?_
    refine lv_icmp_lt (tgt := 27) hx hb dX1_fits_15 (by decide) (fun c4 => ?_) (fun c4 => ?_)
    · skip
      have c4 := zlt c4
      refine lv_iconst (v := (nI 0)) hx hb dX1_fits_27 (by decide) ?_
      exact W.zret (v := (nI 0)) (ty := .boolean) hx hb hr (by decide) (fun t9 ht9 hW9 => ⟨_, rfl, bt0 (by unfold q_in; rw [hrch]; omega), ht9⟩) (fun q h => by cases h) dX1_fits_28
    · skip
      have c4 := znlt c4
      refine lv_iload_n hx hb dX1_fits_18 rfl (lv_at hl 2 rfl) ?_
      refine lv_iload_n hx hb dX1_fits_19 rfl (lv_at hl 0 rfl) ?_
      refine lv_icmp_gt (tgt := 27) hx hb dX1_fits_20 (by decide) (fun c5 => ?_) (fun c5 => ?_)
      · skip
        have c5 := zlt c5
        refine lv_iconst (v := (nI 0)) hx hb dX1_fits_27 (by decide) ?_
        exact W.zret (v := (nI 0)) (ty := .boolean) hx hb hr (by decide) (fun t9 ht9 hW9 => ⟨_, rfl, bt0 (by unfold q_in; rw [hrch]; omega), ht9⟩) (fun q h => by cases h) dX1_fits_28
      · skip
        have c5 := znlt c5
        refine lv_iconst (v := (nI 1)) hx hb dX1_fits_23 (by decide) ?_
        refine lv_goto (tgt := 28) hx hb dX1_fits_24 (by decide) ?_
        exact W.zret (v := (nI 1)) (ty := .boolean) hx hb hr (by decide) (fun t9 ht9 hW9 => ⟨_, rfl, bt1 (by unfold q_in; rw [hrch]; omega), ht9⟩) (fun q h => by cases h) dX1_fits_28
set_option maxHeartbeats 4000000 in
set_option maxRecDepth 100000 in
/-- there(node, what) -/
theorem cm_there (l : Launch) (dC : Nat → ClassId) (dI : Nat → Nat → Nat) (cA : ClassId) (g0 b1 b2 b3 b4 b5 b6 b7 b8 b9 N T X : Nat) (nw : Int32) (fv tn tw th tk kt kn xt xn : Nat → Int32) (x y : Int32) (hN : N ≤ 48) : Met l yX1_there wsX1_there ({ frames := 0, cells := 0, slots := 0, locals := 0 }) (va_Pc [.ref g0, .int x, .int y] (rM dC dI cA g0 b1 b2 b3 b4 b5 b6 b7 b8 b9 N T X nw fv tn tw th tk kt kn xt xn)) (vp_Si (fun r => r = 0 ↔ ¬ (q_node N x ∧ q_what y))) 0 0 (fun _ => False) := by
  refine Met.ofW (cc := cX1_there) (maxL := 3) (ret := (some .boolean)) (by decide) rfl ?_
  intro p e s m args below meth c s₁ B hml hv
  obtain ⟨rfl, hP, hK⟩ := hv
  have hx := B.exec
  have hb := B.bytes
  have hr := B.returns
  have hts := atoms_spec (ws := wsX1_there) B.pre
  have hown : s.vm.findClass RX1 = some m.cls := findClass_of_methodNamed B.named
  have hlocks := B.notSynchronized
  have hl := lv_entry ([.ref g0, .int x, .int y]) (n := 3) (Nat.le_of_ble_eq_true rfl)
  rw [lg_entry_eq]
  generalize (lg_sl ([.ref g0, .int x, .int y]) ++ List.replicate (3 - (lg_sl ([.ref g0, .int x, .int y])).length) Slot.unset).toArray = ls at hl ⊢
  have hl : lv_has ls 3 [(0, .ref g0), (1, .int x), (2, .int y)] := hl
  have t0 := z_0
  have t1 : (nI N).toInt = N := nI_toInt (by omega)
  have t2 : (nI 3).toInt = 3 := by decide
  refine lv_iload_n hx hb dX1_there_0 rfl (lv_at hl 1 rfl) ?_
  refine lv_if_lt (tgt := 25) hx hb dX1_there_1 (by decide) (fun c1 => ?_) (fun c1 => ?_)
  · skip
    have c1 := zlt c1
    refine lv_iconst (v := (nI 0)) hx hb dX1_there_25 (by decide) ?_
    exact W.zret (v := (nI 0)) (ty := .boolean) hx hb hr (by decide) (fun t9 ht9 hW9 => ⟨_, rfl, bt0 (by unfold q_node q_what; omega), ht9⟩) (fun q h => by cases h) dX1_there_26
  · skip
    have c1 := znlt c1
    refine lv_iload_n hx hb dX1_there_4 rfl (lv_at hl 1 rfl) ?_
    refine lv_aload_n hx hb dX1_there_5 rfl (lv_at hl 0 rfl) ?_
    refine va_get (D := (dC, dI)) (ci := 1) (v := .int (nI N)) (C := RX1) (T := TX1) (N := 14) hx hb hts (by decide +kernel) hown hK hP 0 rfl rfl 1 (by decide) (hts (.fieldLink RX1 37 "MotionDeskModel" "nodes" "I") (by decide +kernel)) (fun _ h9 => h9) rfl dX1_there_6 ?_
    refine lv_icmp_ge (tgt := 25) hx hb dX1_there_9 (by decide) (fun c2 => ?_) (fun c2 => ?_)
    · skip
      have c2 := zle c2
      refine lv_iconst (v := (nI 0)) hx hb dX1_there_25 (by decide) ?_
      exact W.zret (v := (nI 0)) (ty := .boolean) hx hb hr (by decide) (fun t9 ht9 hW9 => ⟨_, rfl, bt0 (by unfold q_node q_what; omega), ht9⟩) (fun q h => by cases h) dX1_there_26
    · skip
      have c2 := znle c2
      refine lv_iload_n hx hb dX1_there_12 rfl (lv_at hl 2 rfl) ?_
      refine lv_if_lt (tgt := 25) hx hb dX1_there_13 (by decide) (fun c3 => ?_) (fun c3 => ?_)
      · skip
        have c3 := zlt c3
        refine lv_iconst (v := (nI 0)) hx hb dX1_there_25 (by decide) ?_
        exact W.zret (v := (nI 0)) (ty := .boolean) hx hb hr (by decide) (fun t9 ht9 hW9 => ⟨_, rfl, bt0 (by unfold q_node q_what; omega), ht9⟩) (fun q h => by cases h) dX1_there_26
      · skip
        have c3 := znlt c3
        refine lv_iload_n hx hb dX1_there_16 rfl (lv_at hl 2 rfl) ?_
        refine lv_iconst (v := (nI 3)) hx hb dX1_there_17 (by decide) ?_
        refine lv_icmp_ge (tgt := 25) hx hb dX1_there_18 (by decide) (fun c4 => ?_) (fun c4 => ?_)
        · skip
          have c4 := zle c4
          refine lv_iconst (v := (nI 0)) hx hb dX1_there_25 (by decide) ?_
          exact W.zret (v := (nI 0)) (ty := .boolean) hx hb hr (by decide) (fun t9 ht9 hW9 => ⟨_, rfl, bt0 (by unfold q_node q_what; omega), ht9⟩) (fun q h => by cases h) dX1_there_26
        · skip
          have c4 := znle c4
          refine lv_iconst (v := (nI 1)) hx hb dX1_there_21 (by decide) ?_
          refine lv_goto (tgt := 26) hx hb dX1_there_22 (by decide) ?_
          exact W.zret (v := (nI 1)) (ty := .boolean) hx hb hr (by decide) (fun t9 ht9 hW9 => ⟨_, rfl, bt1 (by unfold q_node q_what; omega), ht9⟩) (fun q h => by cases h) dX1_there_26
set_option maxHeartbeats 4000000 in
set_option maxRecDepth 100000 in
/-- div(a, b) -/
theorem cm_div (l : Launch) (x y : Int64) (hy : 0 < y.toInt) : Met l yX1_div wsX1_div ({ frames := 0, cells := 0, slots := 0, locals := 0 }) (fun v _ => v = [Value.long x, Value.long y].toArray) (vp_Sl (fun r => r = dvL x y)) 0 0 (fun _ => False) := by
  refine Met.ofW (cc := cX1_div) (maxL := 6) (ret := (some .long)) (by decide) rfl ?_
  intro p e s m args below meth c s₁ B hml hv
  have hv : args = ([.long x, .long y]).toArray := hv
  subst hv
  have hx := B.exec
  have hb := B.bytes
  have hr := B.returns
  have hts := atoms_spec (ws := wsX1_div) B.pre
  have hown : s.vm.findClass RX1 = some m.cls := findClass_of_methodNamed B.named
  have hlocks := B.notSynchronized
  have hl := lv_entry ([.long x, .long y]) (n := 6) (Nat.le_of_ble_eq_true rfl)
  rw [lg_entry_eq]
  generalize (lg_sl ([.long x, .long y]) ++ List.replicate (6 - (lg_sl ([.long x, .long y])).length) Slot.unset).toArray = ls at hl ⊢
  have hl : lv_has ls 6 [(0, .long x), (2, .long y)] := hl
  have hy0 : ¬ y = 0 := fun h => by rw [h] at hy; exact absurd hy (by decide)
  refine lv_lload_n hx hb dX1_div_0 rfl (lv_at hl 0 rfl) ?_
  refine lv_lload_n hx hb dX1_div_1 rfl (lv_at hl 1 rfl) ?_
  refine lv_ldiv hx hb dX1_div_2 hy0 ?_
  refine lv_lstore (lv' := [(4, .long (x / y)), (0, .long x), (2, .long y)]) hx hb dX1_div_3 hl (by decide) rfl (fun ls hl => ?_)
  refine lv_lload hx hb dX1_div_5 (lv_at hl 0 rfl) ?_
  refine lv_lload_n hx hb dX1_div_7 rfl (lv_at hl 2 rfl) ?_
  refine lv_lmul hx hb dX1_div_8 ?_
  refine lv_lload_n hx hb dX1_div_9 rfl (lv_at hl 1 rfl) ?_
  refine W.lcmp hx hb dX1_div_10 ?_
  refine lv_if_le (tgt := 21) hx hb dX1_div_11 (by decide) (fun c1 => ?_) (fun c1 => ?_)
  · skip
    have c1 := (lg_cmp_le _ _).mp c1
    refine lv_lload hx hb dX1_div_21 (lv_at hl 0 rfl) ?_
    exact W.lret (v := (x / y)) hx hb hr (fun t9 ht9 hW9 => ⟨_, rfl, by unfold dvL; rw [if_neg hy0, ← mdv_eq x y hy]; unfold mdv; rw [if_neg (Int64.not_lt.mpr c1)], ht9⟩) (fun q h => by cases h) dX1_div_23
  · skip
    have c1 := (fun q => c1 ((lg_cmp_le _ _).mpr q))
    refine lv_lload hx hb dX1_div_14 (lv_at hl 0 rfl) ?_
    refine lv_lconst (v := 1) hx hb dX1_div_16 (by decide) ?_
    refine lv_lsub hx hb dX1_div_17 ?_
    refine lv_goto (tgt := 23) hx hb dX1_div_18 (by decide) ?_
    exact W.lret (v := ((x / y) - 1)) hx hb hr (fun t9 ht9 hW9 => ⟨_, rfl, by unfold dvL; rw [if_neg hy0, ← mdv_eq x y hy]; unfold mdv; rw [if_pos (Int64.not_le.mp c1)], ht9⟩) (fun q h => by cases h) dX1_div_23
set_option maxHeartbeats 4000000 in
set_option maxRecDepth 100000 in
/-- mul(a, b) -/
theorem cm_mul (l : Launch) (x y : Int64) : Met l yX1_mul wsX1_mul ({ frames := 1, cells := 0, slots := 0, locals := 25 }) (fun v _ => v = [Value.long x, Value.long y].toArray) (vp_Sl (fun r => r = mlL x y)) 0 0 (fun _ => False) := by
  refine Met.ofW (cc := cX1_mul) (maxL := 4) (ret := (some .long)) (by decide) rfl ?_
  intro p e s m args below meth c s₁ B hml hv
  have hv : args = ([.long x, .long y]).toArray := hv
  subst hv
  have hx := B.exec
  have hb := B.bytes
  have hr := B.returns
  have hts := atoms_spec (ws := wsX1_mul) B.pre
  have hown : s.vm.findClass RX1 = some m.cls := findClass_of_methodNamed B.named
  have hlocks := B.notSynchronized
  have hl := lv_entry ([.long x, .long y]) (n := 4) (Nat.le_of_ble_eq_true rfl)
  rw [lg_entry_eq]
  generalize (lg_sl ([.long x, .long y]) ++ List.replicate (4 - (lg_sl ([.long x, .long y])).length) Slot.unset).toArray = ls at hl ⊢
  have hl : lv_has ls 4 [(0, .long x), (2, .long y)] := hl
  refine lv_lload_n hx hb dX1_mul_0 rfl (lv_at hl 0 rfl) ?_
  refine lv_lload_n hx hb dX1_mul_1 rfl (lv_at hl 1 rfl) ?_
  refine lv_lmul hx hb dX1_mul_2 ?_
  refine lv_ldc2 (v := 65536) hx hb hown (hts (.constantLong RX1 61 65536) (by decide +kernel)) dX1_mul_3 ?_
  refine vp_callSl (W.runS (As := [.long (x * y), .long 65536]) (rest := []) ⟨hx, hb, hml, hown, hts⟩ (cm_div l (x * y) 65536 (by decide)) (va_cwS 2 hts gX1_mul_X1_div rfl rfl rfl (by decide +kernel) ⟨Nat.le_of_ble_eq_true rfl, Nat.le_of_ble_eq_true rfl⟩) preEq rfl rfl hl.1 rfl (lv_room (Nat.le_of_ble_eq_true rfl)) dX1_mul_6 ⟨Nat.le_of_ble_eq_true rfl, Nat.le_of_ble_eq_true rfl⟩) (fun r1 h_r1 => ?_)
  exact W.lret (v := r1) hx hb hr (fun t9 ht9 hW9 => ⟨_, rfl, h_r1, ht9⟩) (fun q h => by cases h) dX1_mul_9
set_option maxHeartbeats 4000000 in
set_option maxRecDepth 100000 in
/-- clear() -/
theorem cm_clear (l : Launch) (dC : Nat → ClassId) (dI : Nat → Nat → Nat) (cA : ClassId) (g0 b1 b2 b3 b4 b5 b6 b7 b8 b9 N T X : Nat) (nw : Int32) (fv tn tw th tk kt kn xt xn : Nat → Int32) (sz : Nat)  : Met l yX1_clear wsX1_clear ({ frames := 0, cells := 0, slots := 0, locals := 0 }) (va_Pc [.ref g0] (eM sz dC dI cA g0 b1 b2 b3 b4 b5 b6 b7 b8 b9 N T X nw fv tn tw th tk kt kn xt xn)) (va_Qv (fun (u : Unit) => True) (fun u => bM (va_A (wM cA g0 b1 b2 b3 b4 b5 b6 b7 b8 b9 N T X nw fv tn tw th tk kt kn xt xn) sz) dC dI cA g0 b1 b2 b3 b4 b5 b6 b7 b8 b9 N 0 X nw fv tn tw th tk kt kn xt xn) (va_A (wM cA g0 b1 b2 b3 b4 b5 b6 b7 b8 b9 N T X nw fv tn tw th tk kt kn xt xn) sz)) 0 0 (va_A (wM cA g0 b1 b2 b3 b4 b5 b6 b7 b8 b9 N T X nw fv tn tw th tk kt kn xt xn) sz) := by
  refine Met.ofW (cc := cX1_clear) (maxL := 1) (ret := none) (by decide) rfl ?_
  intro p e s m args below meth c s₁ B hml hv
  obtain ⟨rfl, hsz, hP, hK, hD0⟩ := hv
  have hx := B.exec
  have hb := B.bytes
  have hr := B.returns
  have hts := atoms_spec (ws := wsX1_clear) B.pre
  have hown : s.vm.findClass RX1 = some m.cls := findClass_of_methodNamed B.named
  have hlocks := B.notSynchronized
  subst hsz
  have hD := hD0.self (sz := s.heap.size)
  generalize hAe : va_A (wM cA g0 b1 b2 b3 b4 b5 b6 b7 b8 b9 N T X nw fv tn tw th tk kt kn xt xn) s.heap.size = A at hD ⊢
  have hA : ∀ q : Nat, s.heap.size ≤ q → A q := fun q h => by rw [← hAe]; exact Or.inr h
  have hS : va_S A s.heap s.heap [] := va_S.rf
  have hP : va_P (dC, dI) vwCl (wM cA g0 b1 b2 b3 b4 b5 b6 b7 b8 b9 N T X nw fv tn tw th tk kt kn xt xn) s.heap := hP
  have hl := lv_entry ([.ref g0]) (n := 1) (Nat.le_of_ble_eq_true rfl)
  rw [lg_entry_eq]
  generalize (lg_sl ([.ref g0]) ++ List.replicate (1 - (lg_sl ([.ref g0])).length) Slot.unset).toArray = ls at hl ⊢
  have hl : lv_has ls 1 [(0, .ref g0)] := hl
  refine lv_aload_n hx hb dX1_clear_0 rfl (lv_at hl 0 rfl) ?_
  refine lv_iconst (v := (nI 0)) hx hb dX1_clear_1 (by decide) ?_
  refine va_put (D := (dC, dI)) (ci := 1) (v := .int (nI 0)) (ty := .int) (C := RX1) (T := TX1) (N := 14) hx hb hts (by decide +kernel) tyX1 tyX1_ok nmX1 hown hK hP hD hS 0 rfl rfl 0 (by decide) (hts (.fieldLink RX1 42 "MotionDeskModel" "thrown" "I") (by decide +kernel)) (fun _ h9 => h9) rfl (by decide +kernel) rfl rfl (Nat.le_of_ble_eq_true rfl) dX1_clear_2 (fun H locs hP hD hS => ?_)
  replace hP : va_P (dC, dI) vwCl (wM cA g0 b1 b2 b3 b4 b5 b6 b7 b8 b9 N T X nw fv tn tw th tk kt kn xt xn) H := hP
  replace hD : va_D A (wM cA g0 b1 b2 b3 b4 b5 b6 b7 b8 b9 N T X nw fv tn tw th tk kt kn xt xn) := hD
  refine lv_aload_n hx hb dX1_clear_5 rfl (lv_at hl 0 rfl) ?_
  refine lv_iconst (v := (nI 0)) hx hb dX1_clear_6 (by decide) ?_
  refine va_put (D := (dC, dI)) (ci := 1) (v := .int (nI 0)) (ty := .int) (C := RX1) (T := TX1) (N := 14) hx hb hts (by decide +kernel) tyX1 tyX1_ok nmX1 hown hK hP hD hS 0 rfl rfl 7 (by decide) (hts (.fieldLink RX1 58 "MotionDeskModel" "tracks" "I") (by decide +kernel)) (fun _ h9 => h9) rfl (by decide +kernel) rfl rfl (Nat.le_of_ble_eq_true rfl) dX1_clear_7 (fun H locs hP hD hS => ?_)
  replace hP : va_P (dC, dI) vwCl (wM cA g0 b1 b2 b3 b4 b5 b6 b7 b8 b9 N 0 X nw fv tn tw th tk kt kn xt xn) H := hP
  replace hD : va_D A (wM cA g0 b1 b2 b3 b4 b5 b6 b7 b8 b9 N 0 X nw fv tn tw th tk kt kn xt xn) := hD
  exact W.vret hx hb hr (fun t9 ht9 hW9 => ⟨⟨(), rfl, trivial, by rw [ht9]; exact hP, va_K.moved hW9.alike hK, hD⟩, hS.F ht9⟩) hS.2.2 dX1_clear_10
set_option maxHeartbeats 4000000 in
set_option maxRecDepth 100000 in
/-- value(node, what, i) -/
theorem cm_value (l : Launch) (dC : Nat → ClassId) (dI : Nat → Nat → Nat) (cA : ClassId) (g0 b1 b2 b3 b4 b5 b6 b7 b8 b9 N T X : Nat) (nw : Int32) (fv tn tw th tk kt kn xt xn : Nat → Int32) (sz : Nat) (x y i : Int32) (hN : N ≤ 48) : Met l yX1_value wsX1_value ({ frames := 1, cells := 0, slots := 0, locals := 22 }) (va_Pc [.ref g0, .int x, .int y, .int i] (eM sz dC dI cA g0 b1 b2 b3 b4 b5 b6 b7 b8 b9 N T X nw fv tn tw th tk kt kn xt xn)) (va_Qi (fun (r : Int32) (u : Unit) => ((q_node N x ∧ q_what y ∧ q_what i) → r = fv (pl_of x y + i.toInt.toNat)) ∧ (¬ (q_node N x ∧ q_what y ∧ q_what i) → r = nI 0)) (fun u => bM (va_A (wM cA g0 b1 b2 b3 b4 b5 b6 b7 b8 b9 N T X nw fv tn tw th tk kt kn xt xn) sz) dC dI cA g0 b1 b2 b3 b4 b5 b6 b7 b8 b9 N T X nw fv tn tw th tk kt kn xt xn) (va_A (wM cA g0 b1 b2 b3 b4 b5 b6 b7 b8 b9 N T X nw fv tn tw th tk kt kn xt xn) sz)) 0 0 (va_A (wM cA g0 b1 b2 b3 b4 b5 b6 b7 b8 b9 N T X nw fv tn tw th tk kt kn xt xn) sz) := by
  refine Met.ofW (cc := cX1_value) (maxL := 4) (ret := (some .int)) (by decide) rfl ?_
  intro p e s m args below meth c s₁ B hml hv
  obtain ⟨rfl, hsz, hP, hK, hD0⟩ := hv
  have hx := B.exec
  have hb := B.bytes
  have hr := B.returns
  have hts := atoms_spec (ws := wsX1_value) B.pre
  have hown : s.vm.findClass RX1 = some m.cls := findClass_of_methodNamed B.named
  have hlocks := B.notSynchronized
  subst hsz
  have hD := hD0.self (sz := s.heap.size)
  generalize hAe : va_A (wM cA g0 b1 b2 b3 b4 b5 b6 b7 b8 b9 N T X nw fv tn tw th tk kt kn xt xn) s.heap.size = A at hD ⊢
  have hA : ∀ q : Nat, s.heap.size ≤ q → A q := fun q h => by rw [← hAe]; exact Or.inr h
  have hS : va_S A s.heap s.heap [] := va_S.rf
  have hP : va_P (dC, dI) vwCl (wM cA g0 b1 b2 b3 b4 b5 b6 b7 b8 b9 N T X nw fv tn tw th tk kt kn xt xn) s.heap := hP
  have hl := lv_entry ([.ref g0, .int x, .int y, .int i]) (n := 4) (Nat.le_of_ble_eq_true rfl)
  rw [lg_entry_eq]
  generalize (lg_sl ([.ref g0, .int x, .int y, .int i]) ++ List.replicate (4 - (lg_sl ([.ref g0, .int x, .int y, .int i])).length) Slot.unset).toArray = ls at hl ⊢
  have hl : lv_has ls 4 [(0, .ref g0), (1, .int x), (2, .int y), (3, .int i)] := hl
  have t0 := z_0
  have t3 : (nI 3).toInt = 3 := by decide
  refine lv_aload_n hx hb dX1_value_0 rfl (lv_at hl 0 rfl) ?_
  refine lv_iconst (v := (nI 0)) hx hb dX1_value_1 (by decide) ?_
  refine va_put (D := (dC, dI)) (ci := 1) (v := .int (nI 0)) (ty := .int) (C := RX1) (T := TX1) (N := 14) hx hb hts (by decide +kernel) tyX1 tyX1_ok nmX1 hown hK hP hD hS 0 rfl rfl 0 (by decide) (hts (.fieldLink RX1 42 "MotionDeskModel" "thrown" "I") (by decide +kernel)) (fun _ h9 => h9) rfl (by decide +kernel) rfl rfl (Nat.le_of_ble_eq_true rfl) dX1_value_2 (fun H locs hP hD hS => ?_)
  replace hP : va_P (dC, dI) vwCl (wM cA g0 b1 b2 b3 b4 b5 b6 b7 b8 b9 N T X nw fv tn tw th tk kt kn xt xn) H := hP
  replace hD : va_D A (wM cA g0 b1 b2 b3 b4 b5 b6 b7 b8 b9 N T X nw fv tn tw th tk kt kn xt xn) := hD
  refine lv_aload_n hx hb dX1_value_5 rfl (lv_at hl 0 rfl) ?_
  refine lv_iload_n hx hb dX1_value_6 rfl (lv_at hl 1 rfl) ?_
  refine lv_iload_n hx hb dX1_value_7 rfl (lv_at hl 2 rfl) ?_
  refine vp_callSi (W.runV (C := RX1) (As := [.int x, .int y]) (rest := []) ⟨hx, hb, hml, hown, hts⟩ (cm_there l dC dI cA g0 b1 b2 b3 b4 b5 b6 b7 b8 b9 N T X nw fv tn tw th tk kt kn xt xn x y (by omega)) (cwV 2 hts gX1_value_X1_there rfl rfl rfl (by decide +kernel) ⟨Nat.le_of_ble_eq_true rfl, Nat.le_of_ble_eq_true rfl⟩) ⟨fun a U g mk q => ⟨q.1, q.2.1, va_K.moved (u := U) (U := U.calling g mk a) (Vm.Alike.refl U.vm) q.2.2⟩, va_recv hK hP (ci := 1) (q0 := 0) rfl rfl, fun U hU hW => ⟨rfl, by rw [hU]; exact hP, va_K.moved hW.alike hK⟩⟩ rfl rfl hl.1 rfl (lv_room (Nat.le_of_ble_eq_true rfl)) dX1_value_8 ⟨Nat.le_of_ble_eq_true rfl, Nat.le_of_ble_eq_true rfl⟩) (fun bo1 h_bo1 => ?_)
  refine lv_if_eq (tgt := 41) hx hb dX1_value_11 (by decide) (fun c2 => ?_) (fun c2 => ?_)
  · skip
    have c2 := btF h_bo1 c2
    refine lv_iconst (v := (nI 0)) hx hb dX1_value_41 (by decide) ?_
    exact W.iret (v := (nI 0)) hx hb hr (fun t9 ht9 hW9 => ⟨⟨(nI 0), (), rfl, br_f (fun h => c2 ⟨h.1, h.2.1⟩) rfl, by rw [ht9]; exact hP, va_K.moved hW9.alike hK, hD⟩, hS.F ht9⟩) hS.2.2 dX1_value_42
  · skip
    have c2 := btT h_bo1 c2
    refine lv_iload_n hx hb dX1_value_14 rfl (lv_at hl 3 rfl) ?_
    refine lv_if_lt (tgt := 41) hx hb dX1_value_15 (by decide) (fun c3 => ?_) (fun c3 => ?_)
    · skip
      have c3 := zlt c3
      refine lv_iconst (v := (nI 0)) hx hb dX1_value_41 (by decide) ?_
      exact W.iret (v := (nI 0)) hx hb hr (fun t9 ht9 hW9 => ⟨⟨(nI 0), (), rfl, br_f (fun h => by have := h.2.2; unfold q_what at this; omega) rfl, by rw [ht9]; exact hP, va_K.moved hW9.alike hK, hD⟩, hS.F ht9⟩) hS.2.2 dX1_value_42
    · skip
      have c3 := znlt c3
      refine lv_iload_n hx hb dX1_value_18 rfl (lv_at hl 3 rfl) ?_
      refine lv_iconst (v := (nI 3)) hx hb dX1_value_19 (by decide) ?_
      refine lv_icmp_ge (tgt := 41) hx hb dX1_value_20 (by decide) (fun c4 => ?_) (fun c4 => ?_)
      · skip
        have c4 := zle c4
        refine lv_iconst (v := (nI 0)) hx hb dX1_value_41 (by decide) ?_
        exact W.iret (v := (nI 0)) hx hb hr (fun t9 ht9 hW9 => ⟨⟨(nI 0), (), rfl, br_f (fun h => by have := h.2.2; unfold q_what at this; omega) rfl, by rw [ht9]; exact hP, va_K.moved hW9.alike hK, hD⟩, hS.F ht9⟩) hS.2.2 dX1_value_42
      · skip
        have c4 := znle c4
        have hi : q_what i := by unfold q_what; omega
        have hok : (q_node N x ∧ q_what y ∧ q_what i) := ⟨c2.1, c2.2, hi⟩
        have e1 : x = nI x.toInt.toNat := z_nat hok.1.1
        have e2 : y = nI y.toInt.toNat := z_nat hok.2.1.1
        have pb1 : x.toInt < N := hok.1.2
        have pb2 : y.toInt < 3 := hok.2.1.2
        have pb0 : 0 ≤ x.toInt ∧ 0 ≤ y.toInt := ⟨hok.1.1, hok.2.1.1⟩
        have hpl : pl_of x y + 3 ≤ N * 9 := by unfold pl_of; omega
        have e3 : i = nI i.toInt.toNat := z_nat hi.1
        have pb3 : i.toInt < 3 := hi.2
        refine lv_aload_n hx hb dX1_value_23 rfl (lv_at hl 0 rfl) ?_
        refine va_get (D := (dC, dI)) (ci := 1) (v := .ref b1) (C := RX1) (T := TX1) (N := 14) hx hb hts (by decide +kernel) hown hK hP 0 rfl rfl 2 (by decide) (hts (.fieldLink RX1 7 "MotionDeskModel" "poses" "[I") (by decide +kernel)) (fun _ h9 => h9) rfl dX1_value_24 ?_
        refine lv_bipush (v := (nI 9)) hx hb dX1_value_27 (by decide) ?_
        refine lv_iload_n hx hb dX1_value_29 rfl (lv_at hl 1 rfl) ?_
        refine lv_imul hx hb dX1_value_30 ?_
        refine tp_i (y := nI (x.toInt.toNat * 9)) (by rw [e1, pk_mul, nI_toInt (by omega)]; congr 1; omega) ?_
        refine lv_iconst (v := (nI 3)) hx hb dX1_value_31 (by decide) ?_
        refine lv_iload_n hx hb dX1_value_32 rfl (lv_at hl 2 rfl) ?_
        refine lv_imul hx hb dX1_value_33 ?_
        refine tp_i (y := nI (y.toInt.toNat * 3)) (by rw [e2, pk_mul, nI_toInt (by omega)]; congr 1; omega) ?_
        refine lv_iadd hx hb dX1_value_34 ?_
        refine tp_i (y := nI (pl_of x y)) (by rw [nI_add]; congr 1; unfold pl_of; omega) ?_
        refine lv_iload_n hx hb dX1_value_35 rfl (lv_at hl 3 rfl) ?_
        refine lv_iadd hx hb dX1_value_36 ?_
        refine tp_i (y := nI (pl_of x y + i.toInt.toNat)) (by rw [← nI_add, ← e3]) ?_
        refine va_iald hx hb hK hP 1 0 rfl rfl (vp_in_nI (by omega) (by omega)) dX1_value_37 ?_
        refine tp_i (y := (fv (pl_of x y + i.toInt.toNat))) (by rw [nI_clamp (by omega)]) ?_
        refine lv_goto (tgt := 42) hx hb dX1_value_38 (by decide) ?_
        exact W.iret (v := (fv (pl_of x y + i.toInt.toNat))) hx hb hr (fun t9 ht9 hW9 => ⟨⟨(fv (pl_of x y + i.toInt.toNat)), (), rfl, br_t hok rfl, by rw [ht9]; exact hP, va_K.moved hW9.alike hK, hD⟩, hS.F ht9⟩) hS.2.2 dX1_value_42
set_option maxHeartbeats 4000000 in
set_option maxRecDepth 100000 in
/-- about(track, what) -/
theorem cm_about (l : Launch) (dC : Nat → ClassId) (dI : Nat → Nat → Nat) (cA : ClassId) (g0 b1 b2 b3 b4 b5 b6 b7 b8 b9 N T X : Nat) (nw : Int32) (fv tn tw th tk kt kn xt xn : Nat → Int32) (sz : Nat) (x a : Int32) (hT : T ≤ 32) : Met l yX1_about wsX1_about ({ frames := 0, cells := 0, slots := 0, locals := 0 }) (va_Pc [.ref g0, .int x, .int a] (eM sz dC dI cA g0 b1 b2 b3 b4 b5 b6 b7 b8 b9 N T X nw fv tn tw th tk kt kn xt xn)) (va_Qi (fun (r : Int32) (u : Unit) => (q_node T x → r = if a.toInt = 0 then tn x.toInt.toNat else if a.toInt = 1 then tw x.toInt.toNat else if a.toInt = 2 then th x.toInt.toNat else if a.toInt = 3 then tk x.toInt.toNat else -1) ∧ (¬ q_node T x → r = -1)) (fun u => bM (va_A (wM cA g0 b1 b2 b3 b4 b5 b6 b7 b8 b9 N T X nw fv tn tw th tk kt kn xt xn) sz) dC dI cA g0 b1 b2 b3 b4 b5 b6 b7 b8 b9 N T X nw fv tn tw th tk kt kn xt xn) (va_A (wM cA g0 b1 b2 b3 b4 b5 b6 b7 b8 b9 N T X nw fv tn tw th tk kt kn xt xn) sz)) 0 0 (va_A (wM cA g0 b1 b2 b3 b4 b5 b6 b7 b8 b9 N T X nw fv tn tw th tk kt kn xt xn) sz) := by
  refine Met.ofW (cc := cX1_about) (maxL := 3) (ret := (some .int)) (by decide) rfl ?_
  intro p e s m args below meth c s₁ B hml hv
  obtain ⟨rfl, hsz, hP, hK, hD0⟩ := hv
  have hx := B.exec
  have hb := B.bytes
  have hr := B.returns
  have hts := atoms_spec (ws := wsX1_about) B.pre
  have hown : s.vm.findClass RX1 = some m.cls := findClass_of_methodNamed B.named
  have hlocks := B.notSynchronized
  subst hsz
  have hD := hD0.self (sz := s.heap.size)
  generalize hAe : va_A (wM cA g0 b1 b2 b3 b4 b5 b6 b7 b8 b9 N T X nw fv tn tw th tk kt kn xt xn) s.heap.size = A at hD ⊢
  have hA : ∀ q : Nat, s.heap.size ≤ q → A q := fun q h => by rw [← hAe]; exact Or.inr h
  have hS : va_S A s.heap s.heap [] := va_S.rf
  have hP : va_P (dC, dI) vwCl (wM cA g0 b1 b2 b3 b4 b5 b6 b7 b8 b9 N T X nw fv tn tw th tk kt kn xt xn) s.heap := hP
  have hl := lv_entry ([.ref g0, .int x, .int a]) (n := 3) (Nat.le_of_ble_eq_true rfl)
  rw [lg_entry_eq]
  generalize (lg_sl ([.ref g0, .int x, .int a]) ++ List.replicate (3 - (lg_sl ([.ref g0, .int x, .int a])).length) Slot.unset).toArray = ls at hl ⊢
  have hl : lv_has ls 3 [(0, .ref g0), (1, .int x), (2, .int a)] := hl
  have t0 := z_0
  have t1 : (nI T).toInt = T := nI_toInt (by omega)
  have k1 : (nI 1).toInt = 1 := by decide
  have k2 : (nI 2).toInt = 2 := by decide
  have k3 : (nI 3).toInt = 3 := by decide
  refine lv_aload_n hx hb dX1_about_0 rfl (lv_at hl 0 rfl) ?_
  refine lv_iconst (v := (nI 0)) hx hb dX1_about_1 (by decide) ?_
  refine va_put (D := (dC, dI)) (ci := 1) (v := .int (nI 0)) (ty := .int) (C := RX1) (T := TX1) (N := 14) hx hb hts (by decide +kernel) tyX1 tyX1_ok nmX1 hown hK hP hD hS 0 rfl rfl 0 (by decide) (hts (.fieldLink RX1 42 "MotionDeskModel" "thrown" "I") (by decide +kernel)) (fun _ h9 => h9) rfl (by decide +kernel) rfl rfl (Nat.le_of_ble_eq_true rfl) dX1_about_2 (fun H locs hP hD hS => ?_)
  replace hP : va_P (dC, dI) vwCl (wM cA g0 b1 b2 b3 b4 b5 b6 b7 b8 b9 N T X nw fv tn tw th tk kt kn xt xn) H := hP
  replace hD : va_D A (wM cA g0 b1 b2 b3 b4 b5 b6 b7 b8 b9 N T X nw fv tn tw th tk kt kn xt xn) := hD
  refine lv_iload_n hx hb dX1_about_5 rfl (lv_at hl 1 rfl) ?_
  refine lv_if_lt (tgt := 17) hx hb dX1_about_6 (by decide) (fun c1 => ?_) (fun c1 => ?_)
  · skip
    have c1 := zlt c1
    refine lv_iconst (v := (-1)) hx hb dX1_about_17 (by decide) ?_
    exact W.iret (v := (-1)) hx hb hr (fun t9 ht9 hW9 => ⟨⟨(-1), (), rfl, br_f (by unfold q_node; omega) rfl, by rw [ht9]; exact hP, va_K.moved hW9.alike hK, hD⟩, hS.F ht9⟩) hS.2.2 dX1_about_18
  · skip
    have c1 := znlt c1
    refine lv_iload_n hx hb dX1_about_9 rfl (lv_at hl 1 rfl) ?_
    refine lv_aload_n hx hb dX1_about_10 rfl (lv_at hl 0 rfl) ?_
    refine va_get (D := (dC, dI)) (ci := 1) (v := .int (nI T)) (C := RX1) (T := TX1) (N := 14) hx hb hts (by decide +kernel) hown hK hP 0 rfl rfl 7 (by decide) (hts (.fieldLink RX1 58 "MotionDeskModel" "tracks" "I") (by decide +kernel)) (fun _ h9 => h9) rfl dX1_about_11 ?_
    refine lv_icmp_lt (tgt := 19) hx hb dX1_about_14 (by decide) (fun c2 => ?_) (fun c2 => ?_)
    · skip
      have c2 := zlt c2
      have hok : q_node T x := by unfold q_node; omega
      have e1 : x = nI x.toInt.toNat := z_nat hok.1
      have pb1 : x.toInt < T := hok.2
      refine lv_iload_n hx hb dX1_about_19 rfl (lv_at hl 2 rfl) ?_
      refine lv_if_ne (tgt := 32) hx hb dX1_about_20 (by decide) (fun c3 => ?_) (fun c3 => ?_)
      · skip
        have c3 := zne c3
        refine lv_iload_n hx hb dX1_about_32 rfl (lv_at hl 2 rfl) ?_
        refine lv_iconst (v := (nI 1)) hx hb dX1_about_33 (by decide) ?_
        refine lv_icmp_ne (tgt := 46) hx hb dX1_about_34 (by decide) (fun c4 => ?_) (fun c4 => ?_)
        · skip
          have c4 := zne c4
          refine lv_iload_n hx hb dX1_about_46 rfl (lv_at hl 2 rfl) ?_
          refine lv_iconst (v := (nI 2)) hx hb dX1_about_47 (by decide) ?_
          refine lv_icmp_ne (tgt := 60) hx hb dX1_about_48 (by decide) (fun c5 => ?_) (fun c5 => ?_)
          · skip
            have c5 := zne c5
            refine lv_iload_n hx hb dX1_about_60 rfl (lv_at hl 2 rfl) ?_
            refine lv_iconst (v := (nI 3)) hx hb dX1_about_61 (by decide) ?_
            refine lv_icmp_ne (tgt := 74) hx hb dX1_about_62 (by decide) (fun c6 => ?_) (fun c6 => ?_)
            · skip
              have c6 := zne c6
              refine lv_iconst (v := (-1)) hx hb dX1_about_74 (by decide) ?_
              exact W.iret (v := (-1)) hx hb hr (fun t9 ht9 hW9 => ⟨⟨(-1), (), rfl, br_t hok (by rw [if_neg (by omega), if_neg (by omega), if_neg (by omega), if_neg (by omega)]), by rw [ht9]; exact hP, va_K.moved hW9.alike hK, hD⟩, hS.F ht9⟩) hS.2.2 dX1_about_75
            · skip
              have c6 := zeq c6
              refine lv_aload_n hx hb dX1_about_65 rfl (lv_at hl 0 rfl) ?_
              refine va_get (D := (dC, dI)) (ci := 1) (v := .ref b5) (C := RX1) (T := TX1) (N := 14) hx hb hts (by decide +kernel) hown hK hP 0 rfl rfl 11 (by decide) (hts (.fieldLink RX1 28 "MotionDeskModel" "keysOf" "[I") (by decide +kernel)) (fun _ h9 => h9) rfl dX1_about_66 ?_
              refine lv_iload_n hx hb dX1_about_69 rfl (lv_at hl 1 rfl) ?_
              refine tp_i (y := nI x.toInt.toNat) (e1) ?_
              refine va_iald hx hb hK hP 5 0 rfl rfl (vp_in_nI (by omega) (by omega)) dX1_about_70 ?_
              refine tp_i (y := (tk x.toInt.toNat)) (by rw [nI_clamp (by omega)]) ?_
              refine lv_goto (tgt := 75) hx hb dX1_about_71 (by decide) ?_
              exact W.iret (v := (tk x.toInt.toNat)) hx hb hr (fun t9 ht9 hW9 => ⟨⟨(tk x.toInt.toNat), (), rfl, br_t hok (by rw [if_neg (by omega), if_neg (by omega), if_neg (by omega), if_pos (by omega)]), by rw [ht9]; exact hP, va_K.moved hW9.alike hK, hD⟩, hS.F ht9⟩) hS.2.2 dX1_about_75
          · skip
            have c5 := zeq c5
            refine lv_aload_n hx hb dX1_about_51 rfl (lv_at hl 0 rfl) ?_
            refine va_get (D := (dC, dI)) (ci := 1) (v := .ref b4) (C := RX1) (T := TX1) (N := 14) hx hb hts (by decide +kernel) hown hK hP 0 rfl rfl 10 (by decide) (hts (.fieldLink RX1 25 "MotionDeskModel" "howOf" "[I") (by decide +kernel)) (fun _ h9 => h9) rfl dX1_about_52 ?_
            refine lv_iload_n hx hb dX1_about_55 rfl (lv_at hl 1 rfl) ?_
            refine tp_i (y := nI x.toInt.toNat) (e1) ?_
            refine va_iald hx hb hK hP 4 0 rfl rfl (vp_in_nI (by omega) (by omega)) dX1_about_56 ?_
            refine tp_i (y := (th x.toInt.toNat)) (by rw [nI_clamp (by omega)]) ?_
            refine lv_goto (tgt := 75) hx hb dX1_about_57 (by decide) ?_
            exact W.iret (v := (th x.toInt.toNat)) hx hb hr (fun t9 ht9 hW9 => ⟨⟨(th x.toInt.toNat), (), rfl, br_t hok (by rw [if_neg (by omega), if_neg (by omega), if_pos (by omega)]), by rw [ht9]; exact hP, va_K.moved hW9.alike hK, hD⟩, hS.F ht9⟩) hS.2.2 dX1_about_75
        · skip
          have c4 := zeq c4
          refine lv_aload_n hx hb dX1_about_37 rfl (lv_at hl 0 rfl) ?_
          refine va_get (D := (dC, dI)) (ci := 1) (v := .ref b3) (C := RX1) (T := TX1) (N := 14) hx hb hts (by decide +kernel) hown hK hP 0 rfl rfl 9 (by decide) (hts (.fieldLink RX1 22 "MotionDeskModel" "whatOf" "[I") (by decide +kernel)) (fun _ h9 => h9) rfl dX1_about_38 ?_
          refine lv_iload_n hx hb dX1_about_41 rfl (lv_at hl 1 rfl) ?_
          refine tp_i (y := nI x.toInt.toNat) (e1) ?_
          refine va_iald hx hb hK hP 3 0 rfl rfl (vp_in_nI (by omega) (by omega)) dX1_about_42 ?_
          refine tp_i (y := (tw x.toInt.toNat)) (by rw [nI_clamp (by omega)]) ?_
          refine lv_goto (tgt := 75) hx hb dX1_about_43 (by decide) ?_
          exact W.iret (v := (tw x.toInt.toNat)) hx hb hr (fun t9 ht9 hW9 => ⟨⟨(tw x.toInt.toNat), (), rfl, br_t hok (by rw [if_neg (by omega), if_pos (by omega)]), by rw [ht9]; exact hP, va_K.moved hW9.alike hK, hD⟩, hS.F ht9⟩) hS.2.2 dX1_about_75
      · skip
        have c3 := zeq c3
        refine lv_aload_n hx hb dX1_about_23 rfl (lv_at hl 0 rfl) ?_
        refine va_get (D := (dC, dI)) (ci := 1) (v := .ref b2) (C := RX1) (T := TX1) (N := 14) hx hb hts (by decide +kernel) hown hK hP 0 rfl rfl 8 (by decide) (hts (.fieldLink RX1 19 "MotionDeskModel" "nodeOf" "[I") (by decide +kernel)) (fun _ h9 => h9) rfl dX1_about_24 ?_
        refine lv_iload_n hx hb dX1_about_27 rfl (lv_at hl 1 rfl) ?_
        refine tp_i (y := nI x.toInt.toNat) (e1) ?_
        refine va_iald hx hb hK hP 2 0 rfl rfl (vp_in_nI (by omega) (by omega)) dX1_about_28 ?_
        refine tp_i (y := (tn x.toInt.toNat)) (by rw [nI_clamp (by omega)]) ?_
        refine lv_goto (tgt := 75) hx hb dX1_about_29 (by decide) ?_
        exact W.iret (v := (tn x.toInt.toNat)) hx hb hr (fun t9 ht9 hW9 => ⟨⟨(tn x.toInt.toNat), (), rfl, br_t hok (by rw [if_pos (by omega)]), by rw [ht9]; exact hP, va_K.moved hW9.alike hK, hD⟩, hS.F ht9⟩) hS.2.2 dX1_about_75
    · skip
      have c2 := znlt c2
      refine lv_iconst (v := (-1)) hx hb dX1_about_17 (by decide) ?_
      exact W.iret (v := (-1)) hx hb hr (fun t9 ht9 hW9 => ⟨⟨(-1), (), rfl, br_f (by unfold q_node; omega) rfl, by rw [ht9]; exact hP, va_K.moved hW9.alike hK, hD⟩, hS.F ht9⟩) hS.2.2 dX1_about_18
