set_option maxHeartbeats 4000000 in
set_option maxRecDepth 100000 in
/-- isWhat(x) -/
theorem cx_isWhat (l : Launch) (x : Int32) : Met l yX0_isWhat wsX0_isWhat ({ frames := 0, cells := 0, slots := 0, locals := 0 }) (fun v _ => v = [Value.int x].toArray) (vp_Si (fun r => r = 0 ↔ ¬ q_what x)) 0 0 (fun _ => False) := by
  refine Met.ofW (cc := cX0_isWhat) (maxL := 1) (ret := (some .boolean)) (by decide) rfl ?_
  intro p e s m args below meth c s₁ B hml hv
  have hv : args = ([.int x]).toArray := hv
  subst hv
  have hx := B.exec
  have hb := B.bytes
  have hr := B.returns
  have hts := atoms_spec (ws := wsX0_isWhat) B.pre
  have hown : s.vm.findClass RX0 = some m.cls := findClass_of_methodNamed B.named
  have hlocks := B.notSynchronized
  have hl := lv_entry ([.int x]) (n := 1) (Nat.le_of_ble_eq_true rfl)
  rw [lg_entry_eq]
  generalize (lg_sl ([.int x]) ++ List.replicate (1 - (lg_sl ([.int x])).length) Slot.unset).toArray = ls at hl ⊢
  have hl : lv_has ls 1 [(0, .int x)] := hl
  have t0 := z_0
  have t1 : (nI 3).toInt = 3 := by decide
  refine lv_iload_n hx hb dX0_isWhat_0 rfl (lv_at hl 0 rfl) ?_
  refine lv_if_lt (tgt := 13) hx hb dX0_isWhat_1 (by decide) (fun c1 => ?_) (fun c1 => ?_)
  · skip
    have c1 := zlt c1
    refine lv_iconst (v := (nI 0)) hx hb dX0_isWhat_13 (by decide) ?_
    exact W.zret (v := (nI 0)) (ty := .boolean) hx hb hr (by decide) (fun t9 ht9 hW9 => ⟨_, rfl, bt0 (by unfold q_what; omega), ht9⟩) (fun q h => by cases h) dX0_isWhat_14
  · skip
    have c1 := znlt c1
    refine lv_iload_n hx hb dX0_isWhat_4 rfl (lv_at hl 0 rfl) ?_
    refine lv_iconst (v := (nI 3)) hx hb dX0_isWhat_5 (by decide) ?_
    refine lv_icmp_ge (tgt := 13) hx hb dX0_isWhat_6 (by decide) (fun c2 => ?_) (fun c2 => ?_)
    · skip
      have c2 := zle c2
      refine lv_iconst (v := (nI 0)) hx hb dX0_isWhat_13 (by decide) ?_
      exact W.zret (v := (nI 0)) (ty := .boolean) hx hb hr (by decide) (fun t9 ht9 hW9 => ⟨_, rfl, bt0 (by unfold q_what; omega), ht9⟩) (fun q h => by cases h) dX0_isWhat_14
    · skip
      have c2 := znle c2
      refine lv_iconst (v := (nI 1)) hx hb dX0_isWhat_9 (by decide) ?_
      refine lv_goto (tgt := 14) hx hb dX0_isWhat_10 (by decide) ?_
      exact W.zret (v := (nI 1)) (ty := .boolean) hx hb hr (by decide) (fun t9 ht9 hW9 => ⟨_, rfl, bt1 (by unfold q_what; omega), ht9⟩) (fun q h => by cases h) dX0_isWhat_14
set_option maxHeartbeats 4000000 in
set_option maxRecDepth 100000 in
/-- isHow(x) -/
theorem cx_isHow (l : Launch) (x : Int32) : Met l yX0_isHow wsX0_isHow ({ frames := 0, cells := 0, slots := 0, locals := 0 }) (fun v _ => v = [Value.int x].toArray) (vp_Si (fun r => r = 0 ↔ ¬ q_how x)) 0 0 (fun _ => False) := by
  refine Met.ofW (cc := cX0_isHow) (maxL := 1) (ret := (some .boolean)) (by decide) rfl ?_
  intro p e s m args below meth c s₁ B hml hv
  have hv : args = ([.int x]).toArray := hv
  subst hv
  have hx := B.exec
  have hb := B.bytes
  have hr := B.returns
  have hts := atoms_spec (ws := wsX0_isHow) B.pre
  have hown : s.vm.findClass RX0 = some m.cls := findClass_of_methodNamed B.named
  have hlocks := B.notSynchronized
  have hl := lv_entry ([.int x]) (n := 1) (Nat.le_of_ble_eq_true rfl)
  rw [lg_entry_eq]
  generalize (lg_sl ([.int x]) ++ List.replicate (1 - (lg_sl ([.int x])).length) Slot.unset).toArray = ls at hl ⊢
  have hl : lv_has ls 1 [(0, .int x)] := hl
  have t0 := z_0
  have t1 : (nI 2).toInt = 2 := by decide
  refine lv_iload_n hx hb dX0_isHow_0 rfl (lv_at hl 0 rfl) ?_
  refine lv_if_lt (tgt := 13) hx hb dX0_isHow_1 (by decide) (fun c1 => ?_) (fun c1 => ?_)
  · skip
    have c1 := zlt c1
    refine lv_iconst (v := (nI 0)) hx hb dX0_isHow_13 (by decide) ?_
    exact W.zret (v := (nI 0)) (ty := .boolean) hx hb hr (by decide) (fun t9 ht9 hW9 => ⟨_, rfl, bt0 (by unfold q_how; omega), ht9⟩) (fun q h => by cases h) dX0_isHow_14
  · skip
    have c1 := znlt c1
    refine lv_iload_n hx hb dX0_isHow_4 rfl (lv_at hl 0 rfl) ?_
    refine lv_iconst (v := (nI 2)) hx hb dX0_isHow_5 (by decide) ?_
    refine lv_icmp_gt (tgt := 13) hx hb dX0_isHow_6 (by decide) (fun c2 => ?_) (fun c2 => ?_)
    · skip
      have c2 := zlt c2
      refine lv_iconst (v := (nI 0)) hx hb dX0_isHow_13 (by decide) ?_
      exact W.zret (v := (nI 0)) (ty := .boolean) hx hb hr (by decide) (fun t9 ht9 hW9 => ⟨_, rfl, bt0 (by unfold q_how; omega), ht9⟩) (fun q h => by cases h) dX0_isHow_14
    · skip
      have c2 := znlt c2
      refine lv_iconst (v := (nI 1)) hx hb dX0_isHow_9 (by decide) ?_
      refine lv_goto (tgt := 14) hx hb dX0_isHow_10 (by decide) ?_
      exact W.zret (v := (nI 1)) (ty := .boolean) hx hb hr (by decide) (fun t9 ht9 hW9 => ⟨_, rfl, bt1 (by unfold q_how; omega), ht9⟩) (fun q h => by cases h) dX0_isHow_14
set_option maxHeartbeats 4000000 in
set_option maxRecDepth 100000 in
/-- isTime(x) -/
theorem cx_isTime (l : Launch) (x : Int32) : Met l yX0_isTime wsX0_isTime ({ frames := 0, cells := 0, slots := 0, locals := 0 }) (fun v _ => v = [Value.int x].toArray) (vp_Si (fun r => r = 0 ↔ ¬ q_time x)) 0 0 (fun _ => False) := by
  refine Met.ofW (cc := cX0_isTime) (maxL := 1) (ret := (some .boolean)) (by decide) rfl ?_
  intro p e s m args below meth c s₁ B hml hv
  have hv : args = ([.int x]).toArray := hv
  subst hv
  have hx := B.exec
  have hb := B.bytes
  have hr := B.returns
  have hts := atoms_spec (ws := wsX0_isTime) B.pre
  have hown : s.vm.findClass RX0 = some m.cls := findClass_of_methodNamed B.named
  have hlocks := B.notSynchronized
  have hl := lv_entry ([.int x]) (n := 1) (Nat.le_of_ble_eq_true rfl)
  rw [lg_entry_eq]
  generalize (lg_sl ([.int x]) ++ List.replicate (1 - (lg_sl ([.int x])).length) Slot.unset).toArray = ls at hl ⊢
  have hl : lv_has ls 1 [(0, .int x)] := hl
  have t0 := z_0
  have t1 : (1000000 : Int32).toInt = 1000000 := by decide
  refine lv_iload_n hx hb dX0_isTime_0 rfl (lv_at hl 0 rfl) ?_
  refine lv_if_lt (tgt := 14) hx hb dX0_isTime_1 (by decide) (fun c1 => ?_) (fun c1 => ?_)
  · skip
    have c1 := zlt c1
    refine lv_iconst (v := (nI 0)) hx hb dX0_isTime_14 (by decide) ?_
    exact W.zret (v := (nI 0)) (ty := .boolean) hx hb hr (by decide) (fun t9 ht9 hW9 => ⟨_, rfl, bt0 (by unfold q_time; omega), ht9⟩) (fun q h => by cases h) dX0_isTime_15
  · skip
    have c1 := znlt c1
    refine lv_iload_n hx hb dX0_isTime_4 rfl (lv_at hl 0 rfl) ?_
    refine lv_ldc (v := 1000000) hx hb hown (hts (.constant RX0 102 1000000) (by decide +kernel)) dX0_isTime_5 ?_
    refine lv_icmp_gt (tgt := 14) hx hb dX0_isTime_7 (by decide) (fun c2 => ?_) (fun c2 => ?_)
    · skip
      have c2 := zlt c2
      refine lv_iconst (v := (nI 0)) hx hb dX0_isTime_14 (by decide) ?_
      exact W.zret (v := (nI 0)) (ty := .boolean) hx hb hr (by decide) (fun t9 ht9 hW9 => ⟨_, rfl, bt0 (by unfold q_time; omega), ht9⟩) (fun q h => by cases h) dX0_isTime_15
    · skip
      have c2 := znlt c2
      refine lv_iconst (v := (nI 1)) hx hb dX0_isTime_10 (by decide) ?_
      refine lv_goto (tgt := 15) hx hb dX0_isTime_11 (by decide) ?_
      exact W.zret (v := (nI 1)) (ty := .boolean) hx hb hr (by decide) (fun t9 ht9 hW9 => ⟨_, rfl, bt1 (by unfold q_time; omega), ht9⟩) (fun q h => by cases h) dX0_isTime_15
set_option maxHeartbeats 4000000 in
set_option maxRecDepth 100000 in
/-- isWithin(x, r) -/
theorem cx_isWithin (l : Launch) (x r : Int32) (h0 : 0 ≤ r.toInt) : Met l yX0_isWithin wsX0_isWithin ({ frames := 0, cells := 0, slots := 0, locals := 0 }) (fun v _ => v = [Value.int x, Value.int r].toArray) (vp_Si (fun b => b = 0 ↔ ¬ q_in x r.toInt)) 0 0 (fun _ => False) := by
  refine Met.ofW (cc := cX0_isWithin) (maxL := 2) (ret := (some .boolean)) (by decide) rfl ?_
  intro p e s m args below meth c s₁ B hml hv
  have hv : args = ([.int x, .int r]).toArray := hv
  subst hv
  have hx := B.exec
  have hb := B.bytes
  have hr := B.returns
  have hts := atoms_spec (ws := wsX0_isWithin) B.pre
  have hown : s.vm.findClass RX0 = some m.cls := findClass_of_methodNamed B.named
  have hlocks := B.notSynchronized
  have hl := lv_entry ([.int x, .int r]) (n := 2) (Nat.le_of_ble_eq_true rfl)
  rw [lg_entry_eq]
  generalize (lg_sl ([.int x, .int r]) ++ List.replicate (2 - (lg_sl ([.int x, .int r])).length) Slot.unset).toArray = ls at hl ⊢
  have hl : lv_has ls 2 [(0, .int x), (1, .int r)] := hl
  have t1 := z_neg h0
  refine lv_iload_n hx hb dX0_isWithin_0 rfl (lv_at hl 0 rfl) ?_
  refine lv_iload_n hx hb dX0_isWithin_1 rfl (lv_at hl 1 rfl) ?_
  refine lv_ineg hx hb dX0_isWithin_2 ?_
  refine lv_icmp_lt (tgt := 15) hx hb dX0_isWithin_3 (by decide) (fun c1 => ?_) (fun c1 => ?_)
  · skip
    have c1 := zlt c1
    refine lv_iconst (v := (nI 0)) hx hb dX0_isWithin_15 (by decide) ?_
    exact W.zret (v := (nI 0)) (ty := .boolean) hx hb hr (by decide) (fun t9 ht9 hW9 => ⟨_, rfl, bt0 (by unfold q_in; omega), ht9⟩) (fun q h => by cases h) dX0_isWithin_16
  · skip
    have c1 := znlt c1
    refine lv_iload_n hx hb dX0_isWithin_6 rfl (lv_at hl 0 rfl) ?_
    refine lv_iload_n hx hb dX0_isWithin_7 rfl (lv_at hl 1 rfl) ?_
    refine lv_icmp_gt (tgt := 15) hx hb dX0_isWithin_8 (by decide) (fun c2 => ?_) (fun c2 => ?_)
    · skip
      have c2 := zlt c2
      refine lv_iconst (v := (nI 0)) hx hb dX0_isWithin_15 (by decide) ?_
      exact W.zret (v := (nI 0)) (ty := .boolean) hx hb hr (by decide) (fun t9 ht9 hW9 => ⟨_, rfl, bt0 (by unfold q_in; omega), ht9⟩) (fun q h => by cases h) dX0_isWithin_16
    · skip
      have c2 := znlt c2
      refine lv_iconst (v := (nI 1)) hx hb dX0_isWithin_11 (by decide) ?_
      refine lv_goto (tgt := 16) hx hb dX0_isWithin_12 (by decide) ?_
      exact W.zret (v := (nI 1)) (ty := .boolean) hx hb hr (by decide) (fun t9 ht9 hW9 => ⟨_, rfl, bt1 (by unfold q_in; omega), ht9⟩) (fun q h => by cases h) dX0_isWithin_16
set_option maxHeartbeats 4000000 in
set_option maxRecDepth 100000 in
/-- canHave(what, x, y, z) -/
theorem cx_canHave (l : Launch) (a x y z : Int32) : Met l yX0_canHave wsX0_canHave ({ frames := 1, cells := 0, slots := 0, locals := 21 }) (fun v _ => v = [Value.int a, Value.int x, Value.int y, Value.int z].toArray) (vp_Si (fun b => b = 0 ↔ ¬ q_can a x y z)) 0 0 (fun _ => False) := by
  refine Met.ofW (cc := cX0_canHave) (maxL := 5) (ret := (some .boolean)) (by decide) rfl ?_
  intro p e s m args below meth c s₁ B hml hv
  have hv : args = ([.int a, .int x, .int y, .int z]).toArray := hv
  subst hv
  have hx := B.exec
  have hb := B.bytes
  have hr := B.returns
  have hts := atoms_spec (ws := wsX0_canHave) B.pre
  have hown : s.vm.findClass RX0 = some m.cls := findClass_of_methodNamed B.named
  have hlocks := B.notSynchronized
  have hl := lv_entry ([.int a, .int x, .int y, .int z]) (n := 5) (Nat.le_of_ble_eq_true rfl)
  rw [lg_entry_eq]
  generalize (lg_sl ([.int a, .int x, .int y, .int z]) ++ List.replicate (5 - (lg_sl ([.int a, .int x, .int y, .int z])).length) Slot.unset).toArray = ls at hl ⊢
  have hl : lv_has ls 5 [(0, .int a), (1, .int x), (2, .int y), (3, .int z)] := hl
  have t0 := z_0
  have t1 : (4194304 : Int32).toInt = 4194304 := by decide
  have t2 : (1048576 : Int32).toInt = 1048576 := by decide
  refine lv_iload_n hx hb dX0_canHave_0 rfl (lv_at hl 0 rfl) ?_
  refine lv_if_ne (tgt := 9) hx hb dX0_canHave_1 (by decide) (fun c1 => ?_) (fun c1 => ?_)
  · skip
    have c1 := zne c1
    have hrch : q_reach a = 1048576 := by unfold q_reach; rw [if_neg (by omega)]
    refine lv_ldc (v := 1048576) hx hb hown (hts (.constant RX0 104 1048576) (by decide +kernel)) dX0_canHave_9 ?_
    refine lv_istore (lv' := [(4, .int 1048576), (0, .int a), (1, .int x), (2, .int y), (3, .int z)]) hx hb dX0_canHave_11 hl (by decide) rfl (fun ls hl => ?_)
    refine lv_iload_n hx hb dX0_canHave_13 rfl (lv_at hl 2 rfl) ?_
    refine lv_iload hx hb dX0_canHave_14 (lv_at hl 0 rfl) ?_
    refine vp_callSi (W.runS (As := [.int x, .int 1048576]) (rest := []) ⟨hx, hb, hml, hown, hts⟩ (cx_isWithin l x 1048576 (by omega)) (va_cwS 2 hts gX0_canHave_X0_isWithin rfl rfl rfl (by decide +kernel) ⟨Nat.le_of_ble_eq_true rfl, Nat.le_of_ble_eq_true rfl⟩) preEq rfl rfl hl.1 rfl (lv_room (Nat.le_of_ble_eq_true rfl)) dX0_canHave_16 ⟨Nat.le_of_ble_eq_true rfl, Nat.le_of_ble_eq_true rfl⟩) (fun bo2 h_bo2 => ?_)
    refine lv_if_eq (tgt := 44) hx hb dX0_canHave_19 (by decide) (fun c3 => ?_) (fun c3 => ?_)
    · skip
      have c3 := btF h_bo2 c3
      refine lv_iconst (v := (nI 0)) hx hb dX0_canHave_44 (by decide) ?_
      exact W.zret (v := (nI 0)) (ty := .boolean) hx hb hr (by decide) (fun t9 ht9 hW9 => ⟨_, rfl, bt0 (by unfold q_can; rw [hrch]; rw [t2] at c3; intro h; exact c3 (h.1)), ht9⟩) (fun q h => by cases h) dX0_canHave_45
    · skip
      have c3 := btT h_bo2 c3
      refine lv_iload_n hx hb dX0_canHave_22 rfl (lv_at hl 3 rfl) ?_
      refine lv_iload hx hb dX0_canHave_23 (lv_at hl 0 rfl) ?_
      refine vp_callSi (W.runS (As := [.int y, .int 1048576]) (rest := []) ⟨hx, hb, hml, hown, hts⟩ (cx_isWithin l y 1048576 (by omega)) (va_cwS 2 hts gX0_canHave_X0_isWithin rfl rfl rfl (by decide +kernel) ⟨Nat.le_of_ble_eq_true rfl, Nat.le_of_ble_eq_true rfl⟩) preEq rfl rfl hl.1 rfl (lv_room (Nat.le_of_ble_eq_true rfl)) dX0_canHave_25 ⟨Nat.le_of_ble_eq_true rfl, Nat.le_of_ble_eq_true rfl⟩) (fun bo4 h_bo4 => ?_)
      refine lv_if_eq (tgt := 44) hx hb dX0_canHave_28 (by decide) (fun c5 => ?_) (fun c5 => ?_)
      · skip
        have c5 := btF h_bo4 c5
        refine lv_iconst (v := (nI 0)) hx hb dX0_canHave_44 (by decide) ?_
        exact W.zret (v := (nI 0)) (ty := .boolean) hx hb hr (by decide) (fun t9 ht9 hW9 => ⟨_, rfl, bt0 (by unfold q_can; rw [hrch]; rw [t2] at c3 c5; intro h; exact c5 (h.2.1)), ht9⟩) (fun q h => by cases h) dX0_canHave_45
      · skip
        have c5 := btT h_bo4 c5
        refine lv_iload_n hx hb dX0_canHave_31 rfl (lv_at hl 4 rfl) ?_
        refine lv_iload hx hb dX0_canHave_32 (lv_at hl 0 rfl) ?_
        refine vp_callSi (W.runS (As := [.int z, .int 1048576]) (rest := []) ⟨hx, hb, hml, hown, hts⟩ (cx_isWithin l z 1048576 (by omega)) (va_cwS 2 hts gX0_canHave_X0_isWithin rfl rfl rfl (by decide +kernel) ⟨Nat.le_of_ble_eq_true rfl, Nat.le_of_ble_eq_true rfl⟩) preEq rfl rfl hl.1 rfl (lv_room (Nat.le_of_ble_eq_true rfl)) dX0_canHave_34 ⟨Nat.le_of_ble_eq_true rfl, Nat.le_of_ble_eq_true rfl⟩) (fun bo6 h_bo6 => ?_)
        refine lv_if_eq (tgt := 44) hx hb dX0_canHave_37 (by decide) (fun c7 => ?_) (fun c7 => ?_)
        · skip
          have c7 := btF h_bo6 c7
          refine lv_iconst (v := (nI 0)) hx hb dX0_canHave_44 (by decide) ?_
          exact W.zret (v := (nI 0)) (ty := .boolean) hx hb hr (by decide) (fun t9 ht9 hW9 => ⟨_, rfl, bt0 (by unfold q_can; rw [hrch]; rw [t2] at c3 c5 c7; intro h; exact c7 (h.2.2)), ht9⟩) (fun q h => by cases h) dX0_canHave_45
        · skip
          have c7 := btT h_bo6 c7
          refine lv_iconst (v := (nI 1)) hx hb dX0_canHave_40 (by decide) ?_
          refine lv_goto (tgt := 45) hx hb dX0_canHave_41 (by decide) ?_
          exact W.zret (v := (nI 1)) (ty := .boolean) hx hb hr (by decide) (fun t9 ht9 hW9 => ⟨_, rfl, bt1 (by unfold q_can; rw [hrch]; rw [t2] at c3 c5 c7; exact ⟨c3, c5, c7⟩), ht9⟩) (fun q h => by cases h) dX0_canHave_45
  · skip
    have c1 := zeq c1
    have hrch : q_reach a = 4194304 := by unfold q_reach; rw [if_pos (by omega)]
    refine lv_ldc (v := 4194304) hx hb hown (hts (.constant RX0 103 4194304) (by decide +kernel)) dX0_canHave_4 ?_
    refine lv_goto (tgt := 11) hx hb dX0_canHave_6 (by decide) ?_
    refine lv_istore (lv' := [(4, .int 4194304), (0, .int a), (1, .int x), (2, .int y), (3, .int z)]) hx hb dX0_canHave_11 hl (by decide) rfl (fun ls hl => ?_)
    refine lv_iload_n hx hb dX0_canHave_13 rfl (lv_at hl 2 rfl) ?_
    refine lv_iload hx hb dX0_canHave_14 (lv_at hl 0 rfl) ?_
    refine vp_callSi (W.runS (As := [.int x, .int 4194304]) (rest := []) ⟨hx, hb, hml, hown, hts⟩ (cx_isWithin l x 4194304 (by omega)) (va_cwS 2 hts gX0_canHave_X0_isWithin rfl rfl rfl (by decide +kernel) ⟨Nat.le_of_ble_eq_true rfl, Nat.le_of_ble_eq_true rfl⟩) preEq rfl rfl hl.1 rfl (lv_room (Nat.le_of_ble_eq_true rfl)) dX0_canHave_16 ⟨Nat.le_of_ble_eq_true rfl, Nat.le_of_ble_eq_true rfl⟩) (fun bo8 h_bo8 => ?_)
    refine lv_if_eq (tgt := 44) hx hb dX0_canHave_19 (by decide) (fun c9 => ?_) (fun c9 => ?_)
    · skip
      have c9 := btF h_bo8 c9
      refine lv_iconst (v := (nI 0)) hx hb dX0_canHave_44 (by decide) ?_
      exact W.zret (v := (nI 0)) (ty := .boolean) hx hb hr (by decide) (fun t9 ht9 hW9 => ⟨_, rfl, bt0 (by unfold q_can; rw [hrch]; rw [t1] at c9; intro h; exact c9 (h.1)), ht9⟩) (fun q h => by cases h) dX0_canHave_45
    · skip
      have c9 := btT h_bo8 c9
      refine lv_iload_n hx hb dX0_canHave_22 rfl (lv_at hl 3 rfl) ?_
      refine lv_iload hx hb dX0_canHave_23 (lv_at hl 0 rfl) ?_
      refine vp_callSi (W.runS (As := [.int y, .int 4194304]) (rest := []) ⟨hx, hb, hml, hown, hts⟩ (cx_isWithin l y 4194304 (by omega)) (va_cwS 2 hts gX0_canHave_X0_isWithin rfl rfl rfl (by decide +kernel) ⟨Nat.le_of_ble_eq_true rfl, Nat.le_of_ble_eq_true rfl⟩) preEq rfl rfl hl.1 rfl (lv_room (Nat.le_of_ble_eq_true rfl)) dX0_canHave_25 ⟨Nat.le_of_ble_eq_true rfl, Nat.le_of_ble_eq_true rfl⟩) (fun bo10 h_bo10 => ?_)
      refine lv_if_eq (tgt := 44) hx hb dX0_canHave_28 (by decide) (fun c11 => ?_) (fun c11 => ?_)
      · skip
        have c11 := btF h_bo10 c11
        refine lv_iconst (v := (nI 0)) hx hb dX0_canHave_44 (by decide) ?_
        exact W.zret (v := (nI 0)) (ty := .boolean) hx hb hr (by decide) (fun t9 ht9 hW9 => ⟨_, rfl, bt0 (by unfold q_can; rw [hrch]; rw [t1] at c9 c11; intro h; exact c11 (h.2.1)), ht9⟩) (fun q h => by cases h) dX0_canHave_45
      · skip
        have c11 := btT h_bo10 c11
        refine lv_iload_n hx hb dX0_canHave_31 rfl (lv_at hl 4 rfl) ?_
        refine lv_iload hx hb dX0_canHave_32 (lv_at hl 0 rfl) ?_
        refine vp_callSi (W.runS (As := [.int z, .int 4194304]) (rest := []) ⟨hx, hb, hml, hown, hts⟩ (cx_isWithin l z 4194304 (by omega)) (va_cwS 2 hts gX0_canHave_X0_isWithin rfl rfl rfl (by decide +kernel) ⟨Nat.le_of_ble_eq_true rfl, Nat.le_of_ble_eq_true rfl⟩) preEq rfl rfl hl.1 rfl (lv_room (Nat.le_of_ble_eq_true rfl)) dX0_canHave_34 ⟨Nat.le_of_ble_eq_true rfl, Nat.le_of_ble_eq_true rfl⟩) (fun bo12 h_bo12 => ?_)
        refine lv_if_eq (tgt := 44) hx hb dX0_canHave_37 (by decide) (fun c13 => ?_) (fun c13 => ?_)
        · skip
          have c13 := btF h_bo12 c13
          refine lv_iconst (v := (nI 0)) hx hb dX0_canHave_44 (by decide) ?_
          exact W.zret (v := (nI 0)) (ty := .boolean) hx hb hr (by decide) (fun t9 ht9 hW9 => ⟨_, rfl, bt0 (by unfold q_can; rw [hrch]; rw [t1] at c9 c11 c13; intro h; exact c13 (h.2.2)), ht9⟩) (fun q h => by cases h) dX0_canHave_45
        · skip
          have c13 := btT h_bo12 c13
          refine lv_iconst (v := (nI 1)) hx hb dX0_canHave_40 (by decide) ?_
          refine lv_goto (tgt := 45) hx hb dX0_canHave_41 (by decide) ?_
          exact W.zret (v := (nI 1)) (ty := .boolean) hx hb hr (by decide) (fun t9 ht9 hW9 => ⟨_, rfl, bt1 (by unfold q_can; rw [hrch]; rw [t1] at c9 c11 c13; exact ⟨c9, c11, c13⟩), ht9⟩) (fun q h => by cases h) dX0_canHave_45
set_option maxHeartbeats 4000000 in
set_option maxRecDepth 100000 in
/-- placeOf(node, what) -/
theorem cx_placeOf (l : Launch) (n k : Nat) : Met l yX0_placeOf wsX0_placeOf ({ frames := 0, cells := 0, slots := 0, locals := 0 }) (fun v _ => v = [Value.int (nI n), Value.int (nI k)].toArray) (vp_Si (fun b => b = nI ((n * 3 + k) * 3))) 0 0 (fun _ => False) := by
  refine Met.ofW (cc := cX0_placeOf) (maxL := 2) (ret := (some .int)) (by decide) rfl ?_
  intro p e s m args below meth c s₁ B hml hv
  have hv : args = ([.int (nI n), .int (nI k)]).toArray := hv
  subst hv
  have hx := B.exec
  have hb := B.bytes
  have hr := B.returns
  have hts := atoms_spec (ws := wsX0_placeOf) B.pre
  have hown : s.vm.findClass RX0 = some m.cls := findClass_of_methodNamed B.named
  have hlocks := B.notSynchronized
  have hl := lv_entry ([.int (nI n), .int (nI k)]) (n := 2) (Nat.le_of_ble_eq_true rfl)
  rw [lg_entry_eq]
  generalize (lg_sl ([.int (nI n), .int (nI k)]) ++ List.replicate (2 - (lg_sl ([.int (nI n), .int (nI k)])).length) Slot.unset).toArray = ls at hl ⊢
  have hl : lv_has ls 2 [(0, .int (nI n)), (1, .int (nI k))] := hl
  refine lv_iload_n hx hb dX0_placeOf_0 rfl (lv_at hl 0 rfl) ?_
  refine lv_iconst (v := (nI 3)) hx hb dX0_placeOf_1 (by decide) ?_
  refine lv_imul hx hb dX0_placeOf_2 ?_
  refine lv_iload_n hx hb dX0_placeOf_3 rfl (lv_at hl 1 rfl) ?_
  refine lv_iadd hx hb dX0_placeOf_4 ?_
  refine lv_iconst (v := (nI 3)) hx hb dX0_placeOf_5 (by decide) ?_
  refine lv_imul hx hb dX0_placeOf_6 ?_
  exact W.iret (v := ((((nI n) * (nI 3)) + (nI k)) * (nI 3))) hx hb hr (fun t9 ht9 hW9 => ⟨_, rfl, by rw [pk_mul, nI_add, pk_mul], ht9⟩) (fun q h => by cases h) dX0_placeOf_7
