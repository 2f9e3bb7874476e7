set_option maxHeartbeats 4000000 in
set_option maxRecDepth 100000 in
/-- the law's loop -/
theorem law_loop {p : Program} {e : Env} {s : State} {m : MethodId} {below : List Frame} {meth : Method} {c : Code} (l : Launch) {b L : Nat} {xs : Nat → Int32} (hL : L ≤ 3073) (C0 : lw_At p s m meth c b L xs) (dC : Nat → ClassId) (dI : Nat → Nat → Nat) (cA : ClassId) (hK : va_K (dC, dI) vwCl [(cA, .int)] s) (h0 a1 a2 a3 a4 a5 a6 a7 a8 a9 g0 b1 b2 b3 b4 b5 b6 b7 b8 b9 N : Nat) : ∀ (n i : Nat), i ≤ 3080 → L + 1 ≤ i + n → ∀ (T X : Nat) (nw : Int32) (fv tn tw th tk kt kn xt xn : Nat → Int32) (H : Heap) (locs : List Loc) (ls : Array Slot), iG N T X tn tw th tk kt xt → va_P (dC, dI) vwCl ((wX cA h0 a1 a2 a3 a4 a5 a6 a7 a8 a9 N T X nw fv tn tw th tk kt kn xt xn) ++ (wM cA g0 b1 b2 b3 b4 b5 b6 b7 b8 b9 N T X nw fv tn tw th tk kt kn xt xn)) H → va_D (fun q : Nat => s.heap.size ≤ q) ((wX cA h0 a1 a2 a3 a4 a5 a6 a7 a8 a9 N T X nw fv tn tw th tk kt kn xt xn) ++ (wM cA g0 b1 b2 b3 b4 b5 b6 b7 b8 b9 N T X nw fv tn tw th tk kt kn xt xn)) → va_S (fun q : Nat => s.heap.size ≤ q) s.heap H locs → lv_has ls 4 [(3, .int (nI i)), (0, .ref b), (1, .ref h0), (2, .ref g0)] → W p l e room_1 s m #[Value.ref b] below meth c H locs 20 9595 (lw_Z below #[Value.ref b] s) (F0 m 28 ls []) := by
  obtain ⟨hx, hb, hr, hml, hown0, hts, hX, hbl, hlocks, hgv⟩ := id C0
  have hown : s.vm.findClass RL = some m.cls := hown0
  have hA : ∀ q : Nat, s.heap.size ≤ q → (fun q : Nat => s.heap.size ≤ q) q := fun _ h => h
  have hbA : ¬ (fun q : Nat => s.heap.size ≤ q) b := Nat.not_le.mpr hbl
  intro n
  induction n with
  | zero =>
    intro i hi3 hin T X nw fv tn tw th tk kt kn xt xn H locs ls hG hP hD hS hl
    have t1 : (nI i).toInt = i := nI_toInt (by omega)
    have t2 : (nI L - nI 6).toInt = (L : Int) - 6 := pk_sub_toInt (by omega) (by omega)
    refine lv_iload_n hx hb dL_law_28 rfl (lv_at hl 0 rfl) ?_
    refine lv_aload_n hx hb dL_law_29 rfl (lv_at hl 1 rfl) ?_
    refine va_slen hx hb hX hbl hbA hS dL_law_30 ?_
    refine tp_i (y := nI L) rfl ?_
    refine lv_bipush (v := (nI 6)) hx hb dL_law_31 (by decide) ?_
    refine lv_isub hx hb dL_law_33 ?_
    refine lv_icmp_gt (tgt := 386) hx hb dL_law_34 (by decide) (fun c1 => ?_) (fun c1 => ?_)
    · skip
      have c1 := zlt c1
      refine lv_iconst (v := 1) hx hb dL_law_386 (by decide) ?_
      refine va_forget hS.2.2 ?_
      refine W.widen (k := 600000) (n := 7302250) (by omega) (by omega) ?_
      exact lw_ret hx hb hr hlocks dL_law_387
    · skip
      have c1 := znlt c1
      exfalso; omega
  | succ n ih =>
    intro i hi3 hin T X nw fv tn tw th tk kt kn xt xn H locs ls hG hP hD hS hl
    have t1 : (nI i).toInt = i := nI_toInt (by omega)
    have t2 : (nI L - nI 6).toInt = (L : Int) - 6 := pk_sub_toInt (by omega) (by omega)
    refine lv_iload_n hx hb dL_law_28 rfl (lv_at hl 0 rfl) ?_
    refine lv_aload_n hx hb dL_law_29 rfl (lv_at hl 1 rfl) ?_
    refine va_slen hx hb hX hbl hbA hS dL_law_30 ?_
    refine tp_i (y := nI L) rfl ?_
    refine lv_bipush (v := (nI 6)) hx hb dL_law_31 (by decide) ?_
    refine lv_isub hx hb dL_law_33 ?_
    refine lv_icmp_gt (tgt := 386) hx hb dL_law_34 (by decide) (fun c2 => ?_) (fun c2 => ?_)
    · skip
      have c2 := zlt c2
      refine lv_iconst (v := 1) hx hb dL_law_386 (by decide) ?_
      refine va_forget hS.2.2 ?_
      refine W.widen (k := 600000) (n := 7302250) (by omega) (by omega) ?_
      exact lw_ret hx hb hr hlocks dL_law_387
    · skip
      have c2 := znlt c2
      have hi : i + 6 ≤ L := by omega
      refine lv_aload_n hx hb dL_law_37 rfl (lv_at hl 1 rfl) ?_
      refine lv_iload_n hx hb dL_law_38 rfl (lv_at hl 0 rfl) ?_
      refine va_sld hx hb hX hbl hbA hS (vp_in_nI (n := i) (by omega) (by omega)) dL_law_39 ?_
      refine tp_i (y := (xs i)) (by rw [nI_clamp (by omega)]) ?_
      refine lv_bipush (v := (nI 7)) hx hb dL_law_40 (by decide) ?_
      refine lv_iand hx hb dL_law_42 ?_
      obtain ⟨j, hj, ej⟩ := pk_andE (xs i) (m := nI 7) 3 (by decide)
      refine tp_i (y := nI j) ej ?_
      have hC : lw_C p l e s m below meth c b dC dI cA h0 a1 a2 a3 a4 a5 a6 a7 a8 a9 g0 b1 b2 b3 b4 b5 b6 b7 b8 b9 N i := by
        intro T X nw fv tn tw th tk kt kn xt xn H locs ls hG hP hD hS hl
        refine lv_iinc (v := nI (i + 6)) (lv' := [(3, .int (nI (i + 6))), (0, .ref b), (1, .ref h0), (2, .ref g0)]) hx hb dL_law_380 hl (k := 0) rfl (nI_add i 6) (by decide) rfl (fun ls hl => ?_)
        refine lv_goto (tgt := 28) hx hb dL_law_383 (by decide) ?_
        exact ih (i + 6) (by omega) (by omega) T X nw fv tn tw th tk kt kn xt xn H locs ls hG hP hD hS hl
      rcases (show j = 0 ∨ j = 1 ∨ j = 2 ∨ j = 3 ∨ j = 4 ∨ j = 5 ∨ j = 6 ∨ j = 7 by omega) with rfl | rfl | rfl | rfl | rfl | rfl | rfl | rfl
      · refine lv_tableIn (off := 45) (tgt := 88) hx hb dL_law_43 (by decide) (by decide) (by decide) (by decide) ?_
        exact law_c0 l hL C0 dC dI cA hK h0 a1 a2 a3 a4 a5 a6 a7 a8 a9 g0 b1 b2 b3 b4 b5 b6 b7 b8 b9 N i hi hC T X nw fv tn tw th tk kt kn xt xn H locs ls hG hP hD hS hl
      · refine lv_tableIn (off := 98) (tgt := 141) hx hb dL_law_43 (by decide) (by decide) (by decide) (by decide) ?_
        exact law_c1 l hL C0 dC dI cA hK h0 a1 a2 a3 a4 a5 a6 a7 a8 a9 g0 b1 b2 b3 b4 b5 b6 b7 b8 b9 N i hi hC T X nw fv tn tw th tk kt kn xt xn H locs ls hG hP hD hS hl
      · refine lv_tableIn (off := 141) (tgt := 184) hx hb dL_law_43 (by decide) (by decide) (by decide) (by decide) ?_
        exact law_c2 l hL C0 dC dI cA hK h0 a1 a2 a3 a4 a5 a6 a7 a8 a9 g0 b1 b2 b3 b4 b5 b6 b7 b8 b9 N i hi hC T X nw fv tn tw th tk kt kn xt xn H locs ls hG hP hD hS hl
      · refine lv_tableIn (off := 204) (tgt := 247) hx hb dL_law_43 (by decide) (by decide) (by decide) (by decide) ?_
        exact law_c3 l hL C0 dC dI cA hK h0 a1 a2 a3 a4 a5 a6 a7 a8 a9 g0 b1 b2 b3 b4 b5 b6 b7 b8 b9 N i hi hC T X nw fv tn tw th tk kt kn xt xn H locs ls hG hP hD hS hl
      · refine lv_tableIn (off := 227) (tgt := 270) hx hb dL_law_43 (by decide) (by decide) (by decide) (by decide) ?_
        exact law_c4 l hL C0 dC dI cA hK h0 a1 a2 a3 a4 a5 a6 a7 a8 a9 g0 b1 b2 b3 b4 b5 b6 b7 b8 b9 N i hi hC T X nw fv tn tw th tk kt kn xt xn H locs ls hG hP hD hS hl
      · refine lv_tableIn (off := 270) (tgt := 313) hx hb dL_law_43 (by decide) (by decide) (by decide) (by decide) ?_
        exact law_c5 l hL C0 dC dI cA hK h0 a1 a2 a3 a4 a5 a6 a7 a8 a9 g0 b1 b2 b3 b4 b5 b6 b7 b8 b9 N i hi hC T X nw fv tn tw th tk kt kn xt xn H locs ls hG hP hD hS hl
      · refine lv_tableIn (off := 293) (tgt := 336) hx hb dL_law_43 (by decide) (by decide) (by decide) (by decide) ?_
        exact law_c6 l hL C0 dC dI cA hK h0 a1 a2 a3 a4 a5 a6 a7 a8 a9 g0 b1 b2 b3 b4 b5 b6 b7 b8 b9 N i hi hC T X nw fv tn tw th tk kt kn xt xn H locs ls hG hP hD hS hl
      · refine lv_tableIn (off := 326) (tgt := 369) hx hb dL_law_43 (by decide) (by decide) (by decide) (by decide) ?_
        exact law_c7 l hL C0 dC dI cA hK h0 a1 a2 a3 a4 a5 a6 a7 a8 a9 g0 b1 b2 b3 b4 b5 b6 b7 b8 b9 N i hi hC T X nw fv tn tw th tk kt kn xt xn H locs ls hG hP hD hS hl
set_option maxHeartbeats 4000000 in
set_option maxRecDepth 100000 in
/-- cell(script, 0) -/
theorem cl_cell (l : Launch) (b L : Nat) (xs : Nat → Int32) (hL : L ≤ 3073) : Met l yL_cell wsL_cell ({ frames := 0, cells := 0, slots := 0, locals := 0 }) (va_Pc [.ref b, .int (nI 0)] (fun U => b < U.heap.size ∧ va_X b L xs U U.heap)) (vp_Si (fun r => r = if 0 < L then xs 0 else nI 0)) 0 0 (fun _ => False) := by
  refine Met.ofW (cc := cL_cell) (maxL := 2) (ret := (some .int)) (by decide) rfl ?_
  intro p e s m args below meth c s₁ B hml hv
  obtain ⟨rfl, hbl, hX⟩ := hv
  have hx := B.exec
  have hb := B.bytes
  have hr := B.returns
  have hts := atoms_spec (ws := wsL_cell) B.pre
  have hown : s.vm.findClass RL = some m.cls := findClass_of_methodNamed B.named
  have hlocks := B.notSynchronized
  have hl := lv_entry ([.ref b, .int (nI 0)]) (n := 2) (Nat.le_of_ble_eq_true rfl)
  rw [lg_entry_eq]
  generalize (lg_sl ([.ref b, .int (nI 0)]) ++ List.replicate (2 - (lg_sl ([.ref b, .int (nI 0)])).length) Slot.unset).toArray = ls at hl ⊢
  have hl : lv_has ls 2 [(0, .ref b), (1, .int (nI 0))] := hl
  have hbA : ¬ (fun _ : Nat => False) b := fun h => h
  have hS : va_S (fun _ => False) s.heap s.heap [] := va_S.rf
  have t0 : (nI 0).toInt = 0 := by decide
  have t1 : (nI L).toInt = L := nI_toInt (by omega)
  refine lv_iload_n hx hb dL_cell_0 rfl (lv_at hl 1 rfl) ?_
  refine lv_aload_n hx hb dL_cell_1 rfl (lv_at hl 0 rfl) ?_
  refine va_slen hx hb hX hbl hbA hS dL_cell_2 ?_
  refine tp_i (y := nI L) rfl ?_
  refine lv_icmp_ge (tgt := 12) hx hb dL_cell_3 (by decide) (fun c1 => ?_) (fun c1 => ?_)
  · skip
    have c1 := zle c1
    refine lv_iconst (v := (nI 0)) hx hb dL_cell_12 (by decide) ?_
    exact W.iret (v := (nI 0)) hx hb hr (fun t9 ht9 hW9 => ⟨_, rfl, by rw [if_neg (by omega)], ht9⟩) (fun q h => by cases h) dL_cell_13
  · skip
    have c1 := znle c1
    refine lv_aload_n hx hb dL_cell_6 rfl (lv_at hl 0 rfl) ?_
    refine lv_iload_n hx hb dL_cell_7 rfl (lv_at hl 1 rfl) ?_
    refine va_sld hx hb hX hbl hbA hS (vp_in_nI (n := 0) (by omega) (by omega)) dL_cell_8 ?_
    refine tp_i (y := (xs 0)) (by rw [nI_clamp (by omega)]) ?_
    refine lv_goto (tgt := 13) hx hb dL_cell_9 (by decide) ?_
    exact W.iret (v := (xs 0)) hx hb hr (fun t9 ht9 hW9 => ⟨_, rfl, by rw [if_pos (by omega)], ht9⟩) (fun q h => by cases h) dL_cell_13
set_option maxHeartbeats 4000000 in
set_option maxRecDepth 100000 in
/-- THE LAW, from its entry -/
theorem whole_start {p : Program} {e : Env} {s : State} {m : MethodId} {below : List Frame} {meth : Method} {c : Code} (l : Launch) {b L : Nat} {xs : Nat → Int32} (hL : L ≤ 3073) (C0 : lw_At p s m meth c b L xs) : W p l e room_1 s m #[Value.ref b] below meth c s.heap [] 0 0 (lw_Z below #[Value.ref b] s) (entryFrame m ([Value.ref b] : List Value).toArray 4) := by
  obtain ⟨hx, hb, hr, hml, hown0, hts, hX, hbl, hlocks, hgv⟩ := id C0
  have hown : s.vm.findClass RL = some m.cls := hown0
  have hA : ∀ q : Nat, s.heap.size ≤ q → (fun q : Nat => s.heap.size ≤ q) q := fun _ h => h
  have hbA : ¬ (fun q : Nat => s.heap.size ≤ q) b := Nat.not_le.mpr hbl
  obtain ⟨c0, iS0, hKn0⟩ := u_known (C := RX0) (T := TX0) (N := 13) (n := 13) hts inX0 (hts (.instantiable RX0 13) (by decide +kernel))
  obtain ⟨c1, iS1, hKn1⟩ := u_known (C := RX1) (T := TX1) (N := 14) (n := 14) hts inX1 (hts (.instantiable RX1 14) (by decide +kernel))
  obtain ⟨cA, hAr, hRA⟩ := arr_of (hts (.arrayClass .int) (by decide +kernel))
  obtain ⟨dC, dI, hKc⟩ : ∃ (dC : Nat → ClassId) (dI : Nat → Nat → Nat), ∀ (k : Nat) (q : vw_C), vwCl[k]? = some q → u_Kn s q.1 q.2.1 q.2.2 (dC k) (dI k) := by
    refine ⟨fun k => if k = 0 then c0 else c1, fun k => if k = 0 then iS0 else iS1, ?_⟩
    intro k q hq
    match k, hq with
    | 0, hq => cases hq; exact hKn0
    | 1, hq => cases hq; exact hKn1
    | k + 2, hq => simp [vwCl] at hq
  have hS : va_S (fun q : Nat => s.heap.size ≤ q) s.heap s.heap [] := va_S.rf
  have hK : va_K (dC, dI) vwCl [(cA, .int)] s := ⟨hKc, fun k q h => by
    match k, h with
    | 0, h => cases h; exact ⟨hAr, hRA⟩
    | k + 1, h => simp at h⟩
  have hP : va_P (dC, dI) vwCl [] s.heap := fun k q h => by simp at h
  have hD : va_D (fun q : Nat => s.heap.size ≤ q) [] := ⟨fun i j p q h => by simp at h, fun k q h => by simp at h⟩
  have hl := lv_entry ([.ref b]) (n := 4) (Nat.le_of_ble_eq_true rfl)
  rw [lg_entry_eq]
  generalize (lg_sl ([.ref b]) ++ List.replicate (4 - (lg_sl ([.ref b])).length) Slot.unset).toArray = ls at hl ⊢
  have hl : lv_has ls 4 [(0, .ref b)] := hl
  obtain ⟨N, eN⟩ : ∃ N, cl48 (if 0 < L then xs 0 else nI 0) = N := ⟨_, rfl⟩
  have hN := cl48_le (if 0 < L then xs 0 else nI 0)
  rw [eN] at hN
  refine va_new (ci := 0) (fs := [.int (nI 0), .null, .int (nI 0), .null, .null, .null, .null, .null, .null, .int (nI 0), .null, .null, .int (nI 0)]) (C := RX0) (T := TX0) (N := 13) hx hb hts inX0 tyX0 tyX0_ok hown (hts (.classLink RL 7 RX0) (by decide +kernel)) (hts (.instantiable RX0 13) (by decide +kernel)) (hts (.initialized RX0) (by decide +kernel)) hK hP hD hS hA rfl (fun j hj => by rcases (show j = 0 ∨ j = 1 ∨ j = 2 ∨ j = 3 ∨ j = 4 ∨ j = 5 ∨ j = 6 ∨ j = 7 ∨ j = 8 ∨ j = 9 ∨ j = 10 ∨ j = 11 ∨ j = 12 by omega) with rfl | rfl | rfl | rfl | rfl | rfl | rfl | rfl | rfl | rfl | rfl | rfl | rfl <;> rfl) (Nat.le_of_ble_eq_true rfl) (Nat.le_of_ble_eq_true rfl) dL_law_0 (fun h0 H hP hD hS => ?_)
  replace hP : va_P (dC, dI) vwCl [(h0, .inr (0, [.int (nI 0), .null, .int (nI 0), .null, .null, .null, .null, .null, .null, .int (nI 0), .null, .null, .int (nI 0)]))] H := hP
  replace hD : va_D (fun q : Nat => s.heap.size ≤ q) [(h0, .inr (0, [.int (nI 0), .null, .int (nI 0), .null, .null, .null, .null, .null, .null, .int (nI 0), .null, .null, .int (nI 0)]))] := hD
  refine W.widen (k := 1) (n := 13) (by omega) (by omega) ?_
  refine lv_dup hx hb dL_law_3 rfl ?_
  refine lv_aload_n hx hb dL_law_4 rfl (lv_at hl 0 rfl) ?_
  refine lv_iconst (v := nI 0) hx hb dL_law_5 (by decide) ?_
  have hXH : va_X b L xs s H := hX.kept (hS.2.1 b hbl hbA)
  have hbH : b < H.size := Nat.lt_of_lt_of_le hbl hS.1
  refine vp_callSi (W.runS (As := [.ref b, .int (nI 0)]) (rest := [.ref h0, .ref h0]) ⟨hx, hb, hml, hown, hts⟩ (cl_cell l b L xs hL) (va_cwS 2 hts gL_law_L_cell rfl rfl rfl (by decide +kernel) ⟨Nat.le_of_ble_eq_true rfl, Nat.le_of_ble_eq_true rfl⟩) ⟨fun a U g mk q => ⟨q.1, q.2.1, va_X.moved (u := U) (U := U.calling g mk a) (Vm.Alike.refl U.vm) q.2.2⟩, fun U hU hW => ⟨rfl, by rw [hU]; exact hbH, by rw [hU]; exact va_X.moved hW.alike hXH⟩⟩ rfl rfl hl.1 rfl (lv_room (Nat.le_of_ble_eq_true rfl)) dL_law_6 ⟨Nat.le_of_ble_eq_true rfl, Nat.le_of_ble_eq_true rfl⟩) (fun r1 h_r1 => ?_)
  clear hXH hbH
  have hPc := hP.sub (ws' := [(h0, .inr (0, [.int (nI 0), .null, .int (nI 0), .null, .null, .null, .null, .null, .null, .int (nI 0), .null, .null, .int (nI 0)]))]) [0] rfl
  have hDc := hD.sub (ws' := [(h0, .inr (0, [.int (nI 0), .null, .int (nI 0), .null, .null, .null, .null, .null, .null, .int (nI 0), .null, .null, .int (nI 0)]))]) [0] (by decide) rfl
  have hFc := va_free (wc := [(h0, .inr (0, [.int (nI 0), .null, .int (nI 0), .null, .null, .null, .null, .null, .null, .int (nI 0), .null, .null, .int (nI 0)]))]) hD hS hA [0] rfl
  refine va_callv (va_runI (As := [.int r1]) (rest := [.ref h0]) ⟨hx, hb, hml, hown, hts⟩ (cx_init l dC dI cA h0 N H.size r1 (by rw [h_r1]; exact eN)) (cwI 1 hts gL_law_X0_init rfl rfl rfl (hts (.initialized RX0) (by decide +kernel)) (hts (.methodLink RL 15 yX0_init) (by decide +kernel)) (hts (.instanceMethod yX0_init) (by decide +kernel)) rfl (by decide +kernel) ⟨Nat.le_of_ble_eq_true rfl, Nat.le_of_ble_eq_true rfl⟩) ⟨fun a U g mk q => by obtain ⟨q0, q1, qP, qK, qD⟩ := q; exact ⟨q0, q1, qP, va_K.moved (u := U) (U := U.calling g mk a) (Vm.Alike.refl U.vm) qK, qD⟩, fun U hU hW => ⟨rfl, by rw [hU], by rw [hU]; exact hPc, va_K.moved hW.alike hK, hDc.weaken (fun _ _ _ _ => trivial)⟩⟩ rfl rfl hl.1 rfl (lv_room (Nat.le_of_ble_eq_true rfl)) dL_law_9 ⟨Nat.le_of_ble_eq_true rfl, Nat.le_of_ble_eq_true rfl⟩) hS (fun q _ h => hFc q h) hFc (fun u9 t9 H1 locs ht9 hvm hw9 hB hz1 hk1 hS => ?_)
  obtain ⟨a1, a2, a3, a4, a5, a6, a7, a8, a9, hP1, hK1, hD1⟩ := hB
  rw [ht9] at hP1
  obtain ⟨hP2, hD2⟩ := va_join (wr := []) (w1 := (wX cA h0 a1 a2 a3 a4 a5 a6 a7 a8 a9 N 0 0 (nI 0) (ini N) (fun _ => 0) (fun _ => 0) (fun _ => 0) (fun _ => 0) (fun _ => 0) (fun _ => 0) (fun _ => 0) (fun _ => 0))) hP hD [0] [] rfl rfl (by decide) (by decide) hk1 hFc hP1 hD1
  clear hP hD hP1 hD1 hPc hDc hFc hk1 hz1 ht9 hvm hK1 hw9
  generalize H1 = H at hP2 hS ⊢
  have hP : va_P (dC, dI) vwCl (wX cA h0 a1 a2 a3 a4 a5 a6 a7 a8 a9 N 0 0 (nI 0) (ini N) (fun _ => 0) (fun _ => 0) (fun _ => 0) (fun _ => 0) (fun _ => 0) (fun _ => 0) (fun _ => 0) (fun _ => 0)) H := hP2
  have hD : va_D (fun q : Nat => s.heap.size ≤ q) (wX cA h0 a1 a2 a3 a4 a5 a6 a7 a8 a9 N 0 0 (nI 0) (ini N) (fun _ => 0) (fun _ => 0) (fun _ => 0) (fun _ => 0) (fun _ => 0) (fun _ => 0) (fun _ => 0) (fun _ => 0)) := hD2
  clear hP2 hD2
  refine W.widen (k := 10) (n := 4797) (by omega) (by omega) ?_
  refine lv_astore_n (lv' := [(1, .ref h0), (0, .ref b)]) hx hb dL_law_12 rfl hl (by decide) rfl (fun ls hl => ?_)
  refine va_new (ci := 1) (fs := [.int (nI 0), .int (nI 0), .null, .int (nI 0), .int (nI 0), .null, .null, .int (nI 0), .null, .null, .null, .null, .null, .null]) (C := RX1) (T := TX1) (N := 14) hx hb hts inX1 tyX1 tyX1_ok hown (hts (.classLink RL 18 RX1) (by decide +kernel)) (hts (.instantiable RX1 14) (by decide +kernel)) (hts (.initialized RX1) (by decide +kernel)) hK hP hD hS hA rfl (fun j hj => by rcases (show j = 0 ∨ j = 1 ∨ j = 2 ∨ j = 3 ∨ j = 4 ∨ j = 5 ∨ j = 6 ∨ j = 7 ∨ j = 8 ∨ j = 9 ∨ j = 10 ∨ j = 11 ∨ j = 12 ∨ j = 13 by omega) with rfl | rfl | rfl | rfl | rfl | rfl | rfl | rfl | rfl | rfl | rfl | rfl | rfl | rfl <;> rfl) (Nat.le_of_ble_eq_true rfl) (Nat.le_of_ble_eq_true rfl) dL_law_13 (fun g0 H hP hD hS => ?_)
  replace hP : va_P (dC, dI) vwCl ((wX cA h0 a1 a2 a3 a4 a5 a6 a7 a8 a9 N 0 0 (nI 0) (ini N) (fun _ => 0) (fun _ => 0) (fun _ => 0) (fun _ => 0) (fun _ => 0) (fun _ => 0) (fun _ => 0) (fun _ => 0)) ++ [(g0, .inr (1, [.int (nI 0), .int (nI 0), .null, .int (nI 0), .int (nI 0), .null, .null, .int (nI 0), .null, .null, .null, .null, .null, .null]))]) H := hP
  replace hD : va_D (fun q : Nat => s.heap.size ≤ q) ((wX cA h0 a1 a2 a3 a4 a5 a6 a7 a8 a9 N 0 0 (nI 0) (ini N) (fun _ => 0) (fun _ => 0) (fun _ => 0) (fun _ => 0) (fun _ => 0) (fun _ => 0) (fun _ => 0) (fun _ => 0)) ++ [(g0, .inr (1, [.int (nI 0), .int (nI 0), .null, .int (nI 0), .int (nI 0), .null, .null, .int (nI 0), .null, .null, .null, .null, .null, .null]))]) := hD
  refine W.widen (k := 11) (n := 4811) (by omega) (by omega) ?_
  refine lv_dup hx hb dL_law_16 rfl ?_
  refine lv_aload_n hx hb dL_law_17 rfl (lv_at hl 1 rfl) ?_
  refine lv_iconst (v := nI 0) hx hb dL_law_18 (by decide) ?_
  have hXH : va_X b L xs s H := hX.kept (hS.2.1 b hbl hbA)
  have hbH : b < H.size := Nat.lt_of_lt_of_le hbl hS.1
  refine vp_callSi (W.runS (As := [.ref b, .int (nI 0)]) (rest := [.ref g0, .ref g0]) ⟨hx, hb, hml, hown, hts⟩ (cl_cell l b L xs hL) (va_cwS 2 hts gL_law_L_cell rfl rfl rfl (by decide +kernel) ⟨Nat.le_of_ble_eq_true rfl, Nat.le_of_ble_eq_true rfl⟩) ⟨fun a U g mk q => ⟨q.1, q.2.1, va_X.moved (u := U) (U := U.calling g mk a) (Vm.Alike.refl U.vm) q.2.2⟩, fun U hU hW => ⟨rfl, by rw [hU]; exact hbH, by rw [hU]; exact va_X.moved hW.alike hXH⟩⟩ rfl rfl hl.1 rfl (lv_room (Nat.le_of_ble_eq_true rfl)) dL_law_19 ⟨Nat.le_of_ble_eq_true rfl, Nat.le_of_ble_eq_true rfl⟩) (fun r2 h_r2 => ?_)
  clear hXH hbH
  have hPc := hP.sub (ws' := [(g0, .inr (1, [.int (nI 0), .int (nI 0), .null, .int (nI 0), .int (nI 0), .null, .null, .int (nI 0), .null, .null, .null, .null, .null, .null]))]) [10] rfl
  have hDc := hD.sub (ws' := [(g0, .inr (1, [.int (nI 0), .int (nI 0), .null, .int (nI 0), .int (nI 0), .null, .null, .int (nI 0), .null, .null, .null, .null, .null, .null]))]) [10] (by decide) rfl
  have hFc := va_free (wc := [(g0, .inr (1, [.int (nI 0), .int (nI 0), .null, .int (nI 0), .int (nI 0), .null, .null, .int (nI 0), .null, .null, .null, .null, .null, .null]))]) hD hS hA [10] rfl
  refine va_callv (va_runI (As := [.int r2]) (rest := [.ref g0]) ⟨hx, hb, hml, hown, hts⟩ (cm_init l dC dI cA g0 N H.size r2 (by rw [h_r2]; exact eN)) (cwI 1 hts gL_law_X1_init rfl rfl rfl (hts (.initialized RX1) (by decide +kernel)) (hts (.methodLink RL 20 yX1_init) (by decide +kernel)) (hts (.instanceMethod yX1_init) (by decide +kernel)) rfl (by decide +kernel) ⟨Nat.le_of_ble_eq_true rfl, Nat.le_of_ble_eq_true rfl⟩) ⟨fun a U g mk q => by obtain ⟨q0, q1, qP, qK, qD⟩ := q; exact ⟨q0, q1, qP, va_K.moved (u := U) (U := U.calling g mk a) (Vm.Alike.refl U.vm) qK, qD⟩, fun U hU hW => ⟨rfl, by rw [hU], by rw [hU]; exact hPc, va_K.moved hW.alike hK, hDc.weaken (fun _ _ _ _ => trivial)⟩⟩ rfl rfl hl.1 rfl (lv_room (Nat.le_of_ble_eq_true rfl)) dL_law_22 ⟨Nat.le_of_ble_eq_true rfl, Nat.le_of_ble_eq_true rfl⟩) hS (fun q _ h => hFc q h) hFc (fun u9 t9 H1 locs ht9 hvm hw9 hB hz1 hk1 hS => ?_)
  obtain ⟨b1, b2, b3, b4, b5, b6, b7, b8, b9, hP1, hK1, hD1⟩ := hB
  rw [ht9] at hP1
  obtain ⟨hP2, hD2⟩ := va_join (wr := (wX cA h0 a1 a2 a3 a4 a5 a6 a7 a8 a9 N 0 0 (nI 0) (ini N) (fun _ => 0) (fun _ => 0) (fun _ => 0) (fun _ => 0) (fun _ => 0) (fun _ => 0) (fun _ => 0) (fun _ => 0))) (w1 := (wM cA g0 b1 b2 b3 b4 b5 b6 b7 b8 b9 N 0 0 (nI 0) (ini N) (fun _ => 0) (fun _ => 0) (fun _ => 0) (fun _ => 0) (fun _ => 0) (fun _ => 0) (fun _ => 0) (fun _ => 0))) hP hD [10] [0, 1, 2, 3, 4, 5, 6, 7, 8, 9] rfl rfl (by decide) (by decide) hk1 hFc hP1 hD1
  clear hP hD hP1 hD1 hPc hDc hFc hk1 hz1 ht9 hvm hK1 hw9
  generalize H1 = H at hP2 hS ⊢
  have hP : va_P (dC, dI) vwCl ((wX cA h0 a1 a2 a3 a4 a5 a6 a7 a8 a9 N 0 0 (nI 0) (ini N) (fun _ => 0) (fun _ => 0) (fun _ => 0) (fun _ => 0) (fun _ => 0) (fun _ => 0) (fun _ => 0) (fun _ => 0)) ++ (wM cA g0 b1 b2 b3 b4 b5 b6 b7 b8 b9 N 0 0 (nI 0) (ini N) (fun _ => 0) (fun _ => 0) (fun _ => 0) (fun _ => 0) (fun _ => 0) (fun _ => 0) (fun _ => 0) (fun _ => 0))) H := hP2
  have hD : va_D (fun q : Nat => s.heap.size ≤ q) ((wX cA h0 a1 a2 a3 a4 a5 a6 a7 a8 a9 N 0 0 (nI 0) (ini N) (fun _ => 0) (fun _ => 0) (fun _ => 0) (fun _ => 0) (fun _ => 0) (fun _ => 0) (fun _ => 0) (fun _ => 0)) ++ (wM cA g0 b1 b2 b3 b4 b5 b6 b7 b8 b9 N 0 0 (nI 0) (ini N) (fun _ => 0) (fun _ => 0) (fun _ => 0) (fun _ => 0) (fun _ => 0) (fun _ => 0) (fun _ => 0) (fun _ => 0))) := hD2
  clear hP2 hD2
  refine W.widen (k := 20) (n := 9595) (by omega) (by omega) ?_
  refine lv_astore_n (lv' := [(2, .ref g0), (1, .ref h0), (0, .ref b)]) hx hb dL_law_25 rfl hl (by decide) rfl (fun ls hl => ?_)
  refine lv_iconst (v := nI 1) hx hb dL_law_26 (by decide) ?_
  refine lv_istore_n (lv' := [(3, .int (nI 1)), (2, .ref g0), (1, .ref h0), (0, .ref b)]) hx hb dL_law_27 rfl hl (by decide) rfl (fun ls hl => ?_)
  exact law_loop l hL C0 dC dI cA hK h0 a1 a2 a3 a4 a5 a6 a7 a8 a9 g0 b1 b2 b3 b4 b5 b6 b7 b8 b9 N L 1 (by omega) (by omega) 0 0 (nI 0) (ini N) (fun _ => 0) (fun _ => 0) (fun _ => 0) (fun _ => 0) (fun _ => 0) (fun _ => 0) (fun _ => 0) (fun _ => 0) H locs ls (iG_0 hN) hP hD hS (lv_sub hl [0, 3, 2, 1] rfl)
