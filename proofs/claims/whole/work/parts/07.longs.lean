set_option maxHeartbeats 4000000 in
set_option maxRecDepth 100000 in
/-- Math.floorDiv(x, y) of longs -/
theorem cj_floorDiv (l : Launch) (x y : Int64) (hy : ¬ y = 0) : Met l yJ9_floorDiv_f86c9 wsJ9_floorDiv_f86c9 ({ frames := 0, cells := 0, slots := 0, locals := 0 }) (fun v _ => v = [Value.long x, Value.long y].toArray) (vp_Sl (fun r => r = fdv x y)) 0 0 (fun _ => False) := by
  refine va_MetF (cc := cJ9_floorDiv_f86c9) (maxL := 6) (ret := (some .long)) (by decide +kernel) rfl ?_
  intro p e s m args below meth c s₁ B hml hv
  have hv : args = ([.long x, .long y]).toArray := hv
  subst hv
  have hx := B.exec
  have hb := B.bytes
  have hr := B.returns
  have hts := atoms_spec (ws := wsJ9_floorDiv_f86c9) B.pre
  have hown : s.vm.findClass RJ9 = some m.cls := findClass_of_methodNamed B.named
  have hlocks := B.notSynchronized
  have hl := lv_entry ([.long x, .long y]) (n := 6) (Nat.le_of_ble_eq_true rfl)
  rw [lg_entry_eq]
  generalize (lg_sl ([.long x, .long y]) ++ List.replicate (6 - (lg_sl ([.long x, .long y])).length) Slot.unset).toArray = ls at hl ⊢
  have hl : lv_has ls 6 [(0, .long x), (2, .long y)] := hl
  refine lv_lload_n hx hb dJ9_floorDiv_f86c9_0 rfl (lv_at hl 0 rfl) ?_
  refine lv_lload_n hx hb dJ9_floorDiv_f86c9_1 rfl (lv_at hl 1 rfl) ?_
  refine lv_ldiv hx hb dJ9_floorDiv_f86c9_2 hy ?_
  refine lv_lstore (lv' := [(4, .long (x / y)), (0, .long x), (2, .long y)]) hx hb dJ9_floorDiv_f86c9_3 hl (by decide) rfl (fun ls hl => ?_)
  refine lv_lload_n hx hb dJ9_floorDiv_f86c9_5 rfl (lv_at hl 1 rfl) ?_
  refine lv_lload_n hx hb dJ9_floorDiv_f86c9_6 rfl (lv_at hl 2 rfl) ?_
  refine lv_lxor hx hb dJ9_floorDiv_f86c9_7 ?_
  refine lv_lconst (v := 0) hx hb dJ9_floorDiv_f86c9_8 (by decide) ?_
  refine W.lcmp hx hb dJ9_floorDiv_f86c9_9 ?_
  refine lv_if_ge (tgt := 27) hx hb dJ9_floorDiv_f86c9_10 (by decide) (fun c1 => ?_) (fun c1 => ?_)
  · skip
    have c1 := (lg_cmp_ge _ _).mp c1
    refine lv_lload hx hb dJ9_floorDiv_f86c9_27 (lv_at hl 0 rfl) ?_
    exact W.lret (v := (x / y)) hx hb hr (fun t9 ht9 hW9 => ⟨_, rfl, by unfold fdv; rw [if_neg (fun h => Int64.not_lt.mpr c1 h.1)], ht9⟩) (fun q h => by cases h) dJ9_floorDiv_f86c9_29
  · skip
    have c1 := (fun q => c1 ((lg_cmp_ge _ _).mpr q))
    refine lv_lload hx hb dJ9_floorDiv_f86c9_13 (lv_at hl 0 rfl) ?_
    refine lv_lload_n hx hb dJ9_floorDiv_f86c9_15 rfl (lv_at hl 2 rfl) ?_
    refine lv_lmul hx hb dJ9_floorDiv_f86c9_16 ?_
    refine lv_lload_n hx hb dJ9_floorDiv_f86c9_17 rfl (lv_at hl 1 rfl) ?_
    refine W.lcmp hx hb dJ9_floorDiv_f86c9_18 ?_
    refine lv_if_eq (tgt := 27) hx hb dJ9_floorDiv_f86c9_19 (by decide) (fun c2 => ?_) (fun c2 => ?_)
    · skip
      have c2 := (lg_cmp_eq _ _).mp c2
      refine lv_lload hx hb dJ9_floorDiv_f86c9_27 (lv_at hl 0 rfl) ?_
      exact W.lret (v := (x / y)) hx hb hr (fun t9 ht9 hW9 => ⟨_, rfl, by unfold fdv; rw [if_neg (fun h => h.2 c2)], ht9⟩) (fun q h => by cases h) dJ9_floorDiv_f86c9_29
    · skip
      have c2 := (fun q => c2 ((lg_cmp_eq _ _).mpr q))
      refine lv_lload hx hb dJ9_floorDiv_f86c9_22 (lv_at hl 0 rfl) ?_
      refine lv_lconst (v := 1) hx hb dJ9_floorDiv_f86c9_24 (by decide) ?_
      refine lv_lsub hx hb dJ9_floorDiv_f86c9_25 ?_
      exact W.lret (v := ((x / y) - 1)) hx hb hr (fun t9 ht9 hW9 => ⟨_, rfl, by unfold fdv; rw [if_pos ⟨Int64.not_le.mp c1, c2⟩], ht9⟩) (fun q h => by cases h) dJ9_floorDiv_f86c9_26
set_option maxHeartbeats 4000000 in
set_option maxRecDepth 100000 in
/-- div(a, b) -/
theorem cx_div (l : Launch) (x y : Int64) : Met l yX0_div wsX0_div ({ frames := 1, cells := 0, slots := 0, locals := 25 }) (fun v _ => v = [Value.long x, Value.long y].toArray) (vp_Sl (fun r => r = dvL x y)) 0 0 (fun _ => False) := by
  refine Met.ofW (cc := cX0_div) (maxL := 4) (ret := (some .long)) (by decide) rfl ?_
  intro p e s m args below meth c s₁ B hml hv
  have hv : args = ([.long x, .long y]).toArray := hv
  subst hv
  have hx := B.exec
  have hb := B.bytes
  have hr := B.returns
  have hts := atoms_spec (ws := wsX0_div) B.pre
  have hown : s.vm.findClass RX0 = some m.cls := findClass_of_methodNamed B.named
  have hlocks := B.notSynchronized
  have hl := lv_entry ([.long x, .long y]) (n := 4) (Nat.le_of_ble_eq_true rfl)
  rw [lg_entry_eq]
  generalize (lg_sl ([.long x, .long y]) ++ List.replicate (4 - (lg_sl ([.long x, .long y])).length) Slot.unset).toArray = ls at hl ⊢
  have hl : lv_has ls 4 [(0, .long x), (2, .long y)] := hl
  refine lv_lload_n hx hb dX0_div_0 rfl (lv_at hl 1 rfl) ?_
  refine lv_lconst (v := 0) hx hb dX0_div_1 (by decide) ?_
  refine W.lcmp hx hb dX0_div_2 ?_
  refine lv_if_ne (tgt := 10) hx hb dX0_div_3 (by decide) (fun c1 => ?_) (fun c1 => ?_)
  · skip
    have c1 := (fun q => c1 ((lg_cmp_eq y 0).mpr q))
    refine lv_lload_n hx hb dX0_div_10 rfl (lv_at hl 0 rfl) ?_
    refine lv_lload_n hx hb dX0_div_11 rfl (lv_at hl 1 rfl) ?_
    refine vp_callSl (W.runS (As := [.long x, .long y]) (rest := []) ⟨hx, hb, hml, hown, hts⟩ (cj_floorDiv l x y c1) (va_cwS 2 hts gX0_div_J9_floorDiv_f86c9 rfl rfl rfl (by decide +kernel) ⟨Nat.le_of_ble_eq_true rfl, Nat.le_of_ble_eq_true rfl⟩) preEq rfl rfl hl.1 rfl (lv_room (Nat.le_of_ble_eq_true rfl)) dX0_div_12 ⟨Nat.le_of_ble_eq_true rfl, Nat.le_of_ble_eq_true rfl⟩) (fun r1 h_r1 => ?_)
    exact W.lret (v := r1) hx hb hr (fun t9 ht9 hW9 => ⟨_, rfl, by unfold dvL; rw [if_neg c1]; exact h_r1, ht9⟩) (fun q h => by cases h) dX0_div_15
  · skip
    have c1 := (lg_cmp_eq y 0).mp c1
    refine lv_lconst (v := 0) hx hb dX0_div_6 (by decide) ?_
    refine lv_goto (tgt := 15) hx hb dX0_div_7 (by decide) ?_
    exact W.lret (v := 0) hx hb hr (fun t9 ht9 hW9 => ⟨_, rfl, by unfold dvL; rw [if_pos c1], ht9⟩) (fun q h => by cases h) dX0_div_15
set_option maxHeartbeats 4000000 in
set_option maxRecDepth 100000 in
/-- mul(a, b) -/
theorem cx_mul (l : Launch) (x y : Int64) : Met l yX0_mul wsX0_mul ({ frames := 2, cells := 0, slots := 0, locals := 48 }) (fun v _ => v = [Value.long x, Value.long y].toArray) (vp_Sl (fun r => r = mlL x y)) 0 0 (fun _ => False) := by
  refine Met.ofW (cc := cX0_mul) (maxL := 4) (ret := (some .long)) (by decide) rfl ?_
  intro p e s m args below meth c s₁ B hml hv
  have hv : args = ([.long x, .long y]).toArray := hv
  subst hv
  have hx := B.exec
  have hb := B.bytes
  have hr := B.returns
  have hts := atoms_spec (ws := wsX0_mul) B.pre
  have hown : s.vm.findClass RX0 = some m.cls := findClass_of_methodNamed B.named
  have hlocks := B.notSynchronized
  have hl := lv_entry ([.long x, .long y]) (n := 4) (Nat.le_of_ble_eq_true rfl)
  rw [lg_entry_eq]
  generalize (lg_sl ([.long x, .long y]) ++ List.replicate (4 - (lg_sl ([.long x, .long y])).length) Slot.unset).toArray = ls at hl ⊢
  have hl : lv_has ls 4 [(0, .long x), (2, .long y)] := hl
  refine lv_lload_n hx hb dX0_mul_0 rfl (lv_at hl 0 rfl) ?_
  refine lv_lload_n hx hb dX0_mul_1 rfl (lv_at hl 1 rfl) ?_
  refine lv_lmul hx hb dX0_mul_2 ?_
  refine lv_ldc2 (v := 65536) hx hb hown (hts (.constantLong RX0 119 65536) (by decide +kernel)) dX0_mul_3 ?_
  refine vp_callSl (W.runS (As := [.long (x * y), .long 65536]) (rest := []) ⟨hx, hb, hml, hown, hts⟩ (cx_div l (x * y) 65536) (va_cwS 2 hts gX0_mul_X0_div rfl rfl rfl (by decide +kernel) ⟨Nat.le_of_ble_eq_true rfl, Nat.le_of_ble_eq_true rfl⟩) preEq rfl rfl hl.1 rfl (lv_room (Nat.le_of_ble_eq_true rfl)) dX0_mul_6 ⟨Nat.le_of_ble_eq_true rfl, Nat.le_of_ble_eq_true rfl⟩) (fun r1 h_r1 => ?_)
  exact W.lret (v := r1) hx hb hr (fun t9 ht9 hW9 => ⟨_, rfl, h_r1, ht9⟩) (fun q h => by cases h) dX0_mul_9
set_option maxHeartbeats 4000000 in
set_option maxRecDepth 100000 in
/-- smoothed(f) -/
theorem cx_smoothed (l : Launch) (x : Int64) : Met l yX0_smoothed wsX0_smoothed ({ frames := 3, cells := 0, slots := 0, locals := 71 }) (fun v _ => v = [Value.long x].toArray) (vp_Sl (fun r => r = smL x)) 0 0 (fun _ => False) := by
  refine Met.ofW (cc := cX0_smoothed) (maxL := 2) (ret := (some .long)) (by decide) rfl ?_
  intro p e s m args below meth c s₁ B hml hv
  have hv : args = ([.long x]).toArray := hv
  subst hv
  have hx := B.exec
  have hb := B.bytes
  have hr := B.returns
  have hts := atoms_spec (ws := wsX0_smoothed) B.pre
  have hown : s.vm.findClass RX0 = some m.cls := findClass_of_methodNamed B.named
  have hlocks := B.notSynchronized
  have hl := lv_entry ([.long x]) (n := 2) (Nat.le_of_ble_eq_true rfl)
  rw [lg_entry_eq]
  generalize (lg_sl ([.long x]) ++ List.replicate (2 - (lg_sl ([.long x])).length) Slot.unset).toArray = ls at hl ⊢
  have hl : lv_has ls 2 [(0, .long x)] := hl
  refine lv_lload_n hx hb dX0_smoothed_0 rfl (lv_at hl 0 rfl) ?_
  refine lv_lload_n hx hb dX0_smoothed_1 rfl (lv_at hl 0 rfl) ?_
  refine vp_callSl (W.runS (As := [.long x, .long x]) (rest := []) ⟨hx, hb, hml, hown, hts⟩ (cx_mul l x x) (va_cwS 2 hts gX0_smoothed_X0_mul rfl rfl rfl (by decide +kernel) ⟨Nat.le_of_ble_eq_true rfl, Nat.le_of_ble_eq_true rfl⟩) preEq rfl rfl hl.1 rfl (lv_room (Nat.le_of_ble_eq_true rfl)) dX0_smoothed_2 ⟨Nat.le_of_ble_eq_true rfl, Nat.le_of_ble_eq_true rfl⟩) (fun r1 h_r1 => ?_)
  refine lv_ldc2 (v := 196608) hx hb hown (hts (.constantLong RX0 128 196608) (by decide +kernel)) dX0_smoothed_5 ?_
  refine lv_ldc2 (v := 2) hx hb hown (hts (.constantLong RX0 130 2) (by decide +kernel)) dX0_smoothed_8 ?_
  refine lv_lload_n hx hb dX0_smoothed_11 rfl (lv_at hl 0 rfl) ?_
  refine lv_lmul hx hb dX0_smoothed_12 ?_
  refine lv_lsub hx hb dX0_smoothed_13 ?_
  refine vp_callSl (W.runS (As := [.long r1, .long (196608 - (2 * x))]) (rest := []) ⟨hx, hb, hml, hown, hts⟩ (cx_mul l r1 (196608 - (2 * x))) (va_cwS 2 hts gX0_smoothed_X0_mul rfl rfl rfl (by decide +kernel) ⟨Nat.le_of_ble_eq_true rfl, Nat.le_of_ble_eq_true rfl⟩) preEq rfl rfl hl.1 rfl (lv_room (Nat.le_of_ble_eq_true rfl)) dX0_smoothed_14 ⟨Nat.le_of_ble_eq_true rfl, Nat.le_of_ble_eq_true rfl⟩) (fun r2 h_r2 => ?_)
  exact W.lret (v := r2) hx hb hr (fun t9 ht9 hW9 => ⟨_, rfl, by rw [h_r2, h_r1]; rfl, ht9⟩) (fun q h => by cases h) dX0_smoothed_17
