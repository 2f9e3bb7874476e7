set_option maxHeartbeats 4000000 in
set_option maxRecDepth 100000 in
/-- MotionDeskModel(nodes) -/
theorem cm_init (l : Launch) (dC : Nat → ClassId) (dI : Nat → Nat → Nat) (cA : ClassId) (g0 N sz : Nat) (x : Int32) (eN : cl48 x = N) : Met l yX1_init wsX1_init ({ frames := 1, cells := 9, slots := 4784, locals := 12 }) (va_Pc [.ref g0, .int x] (fun U => U.heap.size = sz ∧ va_P (dC, dI) vwCl [(g0, .inr (1, [.int (nI 0), .int (nI 0), .null, .int (nI 0), .int (nI 0), .null, .null, .int (nI 0), .null, .null, .null, .null, .null, .null]))] U.heap ∧ va_K (dC, dI) vwCl [(cA, .int)] U ∧ va_D (fun _ => True) [(g0, .inr (1, [.int (nI 0), .int (nI 0), .null, .int (nI 0), .int (nI 0), .null, .null, .int (nI 0), .null, .null, .null, .null, .null, .null]))])) (va_Qv (fun (_ : Unit) => True) (fun (_ : Unit) t => ∃ b1 b2 b3 b4 b5 b6 b7 b8 b9 : Nat, bM (va_A [(g0, .inr (1, [.int (nI 0), .int (nI 0), .null, .int (nI 0), .int (nI 0), .null, .null, .int (nI 0), .null, .null, .null, .null, .null, .null]))] sz) dC dI cA g0 b1 b2 b3 b4 b5 b6 b7 b8 b9 N 0 0 (nI 0) (ini N) (fun _ => 0) (fun _ => 0) (fun _ => 0) (fun _ => 0) (fun _ => 0) (fun _ => 0) (fun _ => 0) (fun _ => 0) t) (va_A [(g0, .inr (1, [.int (nI 0), .int (nI 0), .null, .int (nI 0), .int (nI 0), .null, .null, .int (nI 0), .null, .null, .null, .null, .null, .null]))] sz)) 9 4784 (va_A [(g0, .inr (1, [.int (nI 0), .int (nI 0), .null, .int (nI 0), .int (nI 0), .null, .null, .int (nI 0), .null, .null, .null, .null, .null, .null]))] sz) := by
  refine Met.ofW (cc := cX1_init) (maxL := 4) (ret := none) (by decide) rfl ?_
  intro p e s m args below meth c s₁ B hml hv
  obtain ⟨rfl, hsz, hP, hK, hD0⟩ := hv
  have hx := B.exec
  have hb := B.bytes
  have hr := B.returns
  have hts := atoms_spec (ws := wsX1_init) B.pre
  have hown : s.vm.findClass RX1 = some m.cls := findClass_of_methodNamed B.named
  have hlocks := B.notSynchronized
  have hin : meth.name = "<init>" := (name_of_methodNamed B.named B.method).1
  subst hsz
  have hD := hD0.self (sz := s.heap.size)
  generalize hAe : va_A [(g0, .inr (1, [.int (nI 0), .int (nI 0), .null, .int (nI 0), .int (nI 0), .null, .null, .int (nI 0), .null, .null, .null, .null, .null, .null]))] s.heap.size = A at hD ⊢
  have hA : ∀ q : Nat, s.heap.size ≤ q → A q := fun q h => by rw [← hAe]; exact Or.inr h
  have hS : va_S A s.heap s.heap [] := va_S.rf
  have hP : va_P (dC, dI) vwCl [(g0, .inr (1, [.int (nI 0), .int (nI 0), .null, .int (nI 0), .int (nI 0), .null, .null, .int (nI 0), .null, .null, .null, .null, .null, .null]))] s.heap := hP
  have hl := lv_entry ([.ref g0, .int x]) (n := 4) (Nat.le_of_ble_eq_true rfl)
  rw [lg_entry_eq]
  generalize (lg_sl ([.ref g0, .int x]) ++ List.replicate (4 - (lg_sl ([.ref g0, .int x])).length) Slot.unset).toArray = ls at hl ⊢
  have hl : lv_has ls 4 [(0, .ref g0), (1, .int x)] := hl
  have hN : 1 ≤ N ∧ N ≤ 48 := by rw [← eN]; exact cl48_le x
  have t1 : (nI N).toInt = N := nI_toInt (by omega)
  have k1 : (nI 1).toInt = 1 := by decide
  have k48 : (nI 48).toInt = 48 := by decide
  refine lv_aload_n hx hb dX1_init_0 rfl (lv_at hl 0 rfl) ?_
  refine W.objInit hx hb hown (hts (.methodLink RX1 1 objectInit) (by decide +kernel)) (hts (.instanceMethod objectInit) (by decide +kernel)) (hts _ (List.mem_cons_of_mem _ (List.mem_append_left _ (List.mem_of_getElem? (i := 2) rfl)))) rfl (by rw [hml]; exact hl.1) rfl dX1_init_1 (Nat.le_of_ble_eq_true rfl) (Nat.le_of_ble_eq_true rfl) ?_
  refine W.eq (g2 := F0 m 4 ls []) rfl ?_
  refine lv_aload_n hx hb dX1_init_4 rfl (lv_at hl 0 rfl) ?_
  refine lv_sipush (v := (nI 432)) hx hb dX1_init_5 (by decide) ?_
  refine va_newa (atype := .int) (a0 := (432, .inl (ini 0))) (N' := 432) (ty := .int) hx hb (hts (.arrayClass .int) (by decide +kernel)) rfl hK hP hD hS hA (fun _ => by rw [ini_z]; rfl) (nI_pos (by omega)) (nI_clamp (by omega)) (by show 432 * 4 ≤ 536870912; omega) (Nat.le_of_ble_eq_true rfl) (Nat.le_of_ble_eq_true rfl) dX1_init_8 (fun b1 cB H hK hP hD hS => ?_)
  have eB : cB = cA := arr_one hK
  rw [eB] at hP hD
  have hK := hK.sub (tys' := [(cA, .int)]) [0] rfl
  replace hP : va_P (dC, dI) vwCl [(g0, .inr (1, [.int (nI 0), .int (nI 0), .null, .int (nI 0), .int (nI 0), .null, .null, .int (nI 0), .null, .null, .null, .null, .null, .null])), (b1, .inl (cA, 432, .inl (ini 0)))] H := hP
  replace hD : va_D A [(g0, .inr (1, [.int (nI 0), .int (nI 0), .null, .int (nI 0), .int (nI 0), .null, .null, .int (nI 0), .null, .null, .null, .null, .null, .null])), (b1, .inl (cA, 432, .inl (ini 0)))] := hD
  refine W.widen (k := 1) (n := 432) (by omega) (by omega) ?_
  refine va_putF (D := (dC, dI)) (ci := 1) (v := .ref b1) (ty := .array .int) (C := RX1) (T := TX1) (N := 14) hx hb hts (by decide +kernel) tyX1 tyX1_ok nmX1 hown hK hP hD hS 0 rfl rfl 2 (by decide) (hts (.fieldLink RX1 7 "MotionDeskModel" "poses" "[I") (by decide +kernel)) (fun _ h9 => h9) rfl hin rfl (by decide +kernel) rfl rfl (Nat.le_of_ble_eq_true rfl) dX1_init_10 (fun H locs hP hD hS => ?_)
  replace hP : va_P (dC, dI) vwCl [(g0, .inr (1, [.int (nI 0), .int (nI 0), .ref b1, .int (nI 0), .int (nI 0), .null, .null, .int (nI 0), .null, .null, .null, .null, .null, .null])), (b1, .inl (cA, 432, .inl (ini 0)))] H := hP
  replace hD : va_D A [(g0, .inr (1, [.int (nI 0), .int (nI 0), .ref b1, .int (nI 0), .int (nI 0), .null, .null, .int (nI 0), .null, .null, .null, .null, .null, .null])), (b1, .inl (cA, 432, .inl (ini 0)))] := hD
  refine lv_aload_n hx hb dX1_init_13 rfl (lv_at hl 0 rfl) ?_
  refine lv_bipush (v := (nI 32)) hx hb dX1_init_14 (by decide) ?_
  refine va_newa (atype := .int) (a0 := (32, .inl (fun _ => 0))) (N' := 32) (ty := .int) hx hb (hts (.arrayClass .int) (by decide +kernel)) rfl hK hP hD hS hA (fun _ => rfl) (nI_pos (by omega)) (nI_clamp (by omega)) (by show 32 * 4 ≤ 536870912; omega) (Nat.le_of_ble_eq_true rfl) (Nat.le_of_ble_eq_true rfl) dX1_init_16 (fun b8 cB H hK hP hD hS => ?_)
  have eB : cB = cA := arr_one hK
  rw [eB] at hP hD
  have hK := hK.sub (tys' := [(cA, .int)]) [0] rfl
  replace hP : va_P (dC, dI) vwCl [(g0, .inr (1, [.int (nI 0), .int (nI 0), .ref b1, .int (nI 0), .int (nI 0), .null, .null, .int (nI 0), .null, .null, .null, .null, .null, .null])), (b1, .inl (cA, 432, .inl (ini 0))), (b8, .inl (cA, 32, .inl (fun _ => 0)))] H := hP
  replace hD : va_D A [(g0, .inr (1, [.int (nI 0), .int (nI 0), .ref b1, .int (nI 0), .int (nI 0), .null, .null, .int (nI 0), .null, .null, .null, .null, .null, .null])), (b1, .inl (cA, 432, .inl (ini 0))), (b8, .inl (cA, 32, .inl (fun _ => 0)))] := hD
  refine W.widen (k := 2) (n := 464) (by omega) (by omega) ?_
  refine va_putF (D := (dC, dI)) (ci := 1) (v := .ref b8) (ty := .array .int) (C := RX1) (T := TX1) (N := 14) hx hb hts (by decide +kernel) tyX1 tyX1_ok nmX1 hown hK hP hD hS 0 rfl rfl 5 (by decide) (hts (.fieldLink RX1 13 "MotionDeskModel" "textTimes" "[I") (by decide +kernel)) (fun _ h9 => h9) rfl hin rfl (by decide +kernel) rfl rfl (Nat.le_of_ble_eq_true rfl) dX1_init_18 (fun H locs hP hD hS => ?_)
  replace hP : va_P (dC, dI) vwCl [(g0, .inr (1, [.int (nI 0), .int (nI 0), .ref b1, .int (nI 0), .int (nI 0), .ref b8, .null, .int (nI 0), .null, .null, .null, .null, .null, .null])), (b1, .inl (cA, 432, .inl (ini 0))), (b8, .inl (cA, 32, .inl (fun _ => 0)))] H := hP
  replace hD : va_D A [(g0, .inr (1, [.int (nI 0), .int (nI 0), .ref b1, .int (nI 0), .int (nI 0), .ref b8, .null, .int (nI 0), .null, .null, .null, .null, .null, .null])), (b1, .inl (cA, 432, .inl (ini 0))), (b8, .inl (cA, 32, .inl (fun _ => 0)))] := hD
  refine lv_aload_n hx hb dX1_init_21 rfl (lv_at hl 0 rfl) ?_
  refine lv_bipush (v := (nI 96)) hx hb dX1_init_22 (by decide) ?_
  refine va_newa (atype := .int) (a0 := (96, .inl (fun _ => 0))) (N' := 96) (ty := .int) hx hb (hts (.arrayClass .int) (by decide +kernel)) rfl hK hP hD hS hA (fun _ => rfl) (nI_pos (by omega)) (nI_clamp (by omega)) (by show 96 * 4 ≤ 536870912; omega) (Nat.le_of_ble_eq_true rfl) (Nat.le_of_ble_eq_true rfl) dX1_init_24 (fun b9 cB H hK hP hD hS => ?_)
  have eB : cB = cA := arr_one hK
  rw [eB] at hP hD
  have hK := hK.sub (tys' := [(cA, .int)]) [0] rfl
  replace hP : va_P (dC, dI) vwCl [(g0, .inr (1, [.int (nI 0), .int (nI 0), .ref b1, .int (nI 0), .int (nI 0), .ref b8, .null, .int (nI 0), .null, .null, .null, .null, .null, .null])), (b1, .inl (cA, 432, .inl (ini 0))), (b8, .inl (cA, 32, .inl (fun _ => 0))), (b9, .inl (cA, 96, .inl (fun _ => 0)))] H := hP
  replace hD : va_D A [(g0, .inr (1, [.int (nI 0), .int (nI 0), .ref b1, .int (nI 0), .int (nI 0), .ref b8, .null, .int (nI 0), .null, .null, .null, .null, .null, .null])), (b1, .inl (cA, 432, .inl (ini 0))), (b8, .inl (cA, 32, .inl (fun _ => 0))), (b9, .inl (cA, 96, .inl (fun _ => 0)))] := hD
  refine W.widen (k := 3) (n := 560) (by omega) (by omega) ?_
  refine va_putF (D := (dC, dI)) (ci := 1) (v := .ref b9) (ty := .array .int) (C := RX1) (T := TX1) (N := 14) hx hb hts (by decide +kernel) tyX1 tyX1_ok nmX1 hown hK hP hD hS 0 rfl rfl 6 (by decide) (hts (.fieldLink RX1 16 "MotionDeskModel" "textValues" "[I") (by decide +kernel)) (fun _ h9 => h9) rfl hin rfl (by decide +kernel) rfl rfl (Nat.le_of_ble_eq_true rfl) dX1_init_26 (fun H locs hP hD hS => ?_)
  replace hP : va_P (dC, dI) vwCl [(g0, .inr (1, [.int (nI 0), .int (nI 0), .ref b1, .int (nI 0), .int (nI 0), .ref b8, .ref b9, .int (nI 0), .null, .null, .null, .null, .null, .null])), (b1, .inl (cA, 432, .inl (ini 0))), (b8, .inl (cA, 32, .inl (fun _ => 0))), (b9, .inl (cA, 96, .inl (fun _ => 0)))] H := hP
  replace hD : va_D A [(g0, .inr (1, [.int (nI 0), .int (nI 0), .ref b1, .int (nI 0), .int (nI 0), .ref b8, .ref b9, .int (nI 0), .null, .null, .null, .null, .null, .null])), (b1, .inl (cA, 432, .inl (ini 0))), (b8, .inl (cA, 32, .inl (fun _ => 0))), (b9, .inl (cA, 96, .inl (fun _ => 0)))] := hD
  refine lv_aload_n hx hb dX1_init_29 rfl (lv_at hl 0 rfl) ?_
  refine lv_bipush (v := (nI 32)) hx hb dX1_init_30 (by decide) ?_
  refine va_newa (atype := .int) (a0 := (32, .inl (fun _ => 0))) (N' := 32) (ty := .int) hx hb (hts (.arrayClass .int) (by decide +kernel)) rfl hK hP hD hS hA (fun _ => rfl) (nI_pos (by omega)) (nI_clamp (by omega)) (by show 32 * 4 ≤ 536870912; omega) (Nat.le_of_ble_eq_true rfl) (Nat.le_of_ble_eq_true rfl) dX1_init_32 (fun b2 cB H hK hP hD hS => ?_)
  have eB : cB = cA := arr_one hK
  rw [eB] at hP hD
  have hK := hK.sub (tys' := [(cA, .int)]) [0] rfl
  replace hP : va_P (dC, dI) vwCl [(g0, .inr (1, [.int (nI 0), .int (nI 0), .ref b1, .int (nI 0), .int (nI 0), .ref b8, .ref b9, .int (nI 0), .null, .null, .null, .null, .null, .null])), (b1, .inl (cA, 432, .inl (ini 0))), (b8, .inl (cA, 32, .inl (fun _ => 0))), (b9, .inl (cA, 96, .inl (fun _ => 0))), (b2, .inl (cA, 32, .inl (fun _ => 0)))] H := hP
  replace hD : va_D A [(g0, .inr (1, [.int (nI 0), .int (nI 0), .ref b1, .int (nI 0), .int (nI 0), .ref b8, .ref b9, .int (nI 0), .null, .null, .null, .null, .null, .null])), (b1, .inl (cA, 432, .inl (ini 0))), (b8, .inl (cA, 32, .inl (fun _ => 0))), (b9, .inl (cA, 96, .inl (fun _ => 0))), (b2, .inl (cA, 32, .inl (fun _ => 0)))] := hD
  refine W.widen (k := 4) (n := 592) (by omega) (by omega) ?_
  refine va_putF (D := (dC, dI)) (ci := 1) (v := .ref b2) (ty := .array .int) (C := RX1) (T := TX1) (N := 14) hx hb hts (by decide +kernel) tyX1 tyX1_ok nmX1 hown hK hP hD hS 0 rfl rfl 8 (by decide) (hts (.fieldLink RX1 19 "MotionDeskModel" "nodeOf" "[I") (by decide +kernel)) (fun _ h9 => h9) rfl hin rfl (by decide +kernel) rfl rfl (Nat.le_of_ble_eq_true rfl) dX1_init_34 (fun H locs hP hD hS => ?_)
  replace hP : va_P (dC, dI) vwCl [(g0, .inr (1, [.int (nI 0), .int (nI 0), .ref b1, .int (nI 0), .int (nI 0), .ref b8, .ref b9, .int (nI 0), .ref b2, .null, .null, .null, .null, .null])), (b1, .inl (cA, 432, .inl (ini 0))), (b8, .inl (cA, 32, .inl (fun _ => 0))), (b9, .inl (cA, 96, .inl (fun _ => 0))), (b2, .inl (cA, 32, .inl (fun _ => 0)))] H := hP
  replace hD : va_D A [(g0, .inr (1, [.int (nI 0), .int (nI 0), .ref b1, .int (nI 0), .int (nI 0), .ref b8, .ref b9, .int (nI 0), .ref b2, .null, .null, .null, .null, .null])), (b1, .inl (cA, 432, .inl (ini 0))), (b8, .inl (cA, 32, .inl (fun _ => 0))), (b9, .inl (cA, 96, .inl (fun _ => 0))), (b2, .inl (cA, 32, .inl (fun _ => 0)))] := hD
  refine lv_aload_n hx hb dX1_init_37 rfl (lv_at hl 0 rfl) ?_
  refine lv_bipush (v := (nI 32)) hx hb dX1_init_38 (by decide) ?_
  refine va_newa (atype := .int) (a0 := (32, .inl (fun _ => 0))) (N' := 32) (ty := .int) hx hb (hts (.arrayClass .int) (by decide +kernel)) rfl hK hP hD hS hA (fun _ => rfl) (nI_pos (by omega)) (nI_clamp (by omega)) (by show 32 * 4 ≤ 536870912; omega) (Nat.le_of_ble_eq_true rfl) (Nat.le_of_ble_eq_true rfl) dX1_init_40 (fun b3 cB H hK hP hD hS => ?_)
  have eB : cB = cA := arr_one hK
  rw [eB] at hP hD
  have hK := hK.sub (tys' := [(cA, .int)]) [0] rfl
  replace hP : va_P (dC, dI) vwCl [(g0, .inr (1, [.int (nI 0), .int (nI 0), .ref b1, .int (nI 0), .int (nI 0), .ref b8, .ref b9, .int (nI 0), .ref b2, .null, .null, .null, .null, .null])), (b1, .inl (cA, 432, .inl (ini 0))), (b8, .inl (cA, 32, .inl (fun _ => 0))), (b9, .inl (cA, 96, .inl (fun _ => 0))), (b2, .inl (cA, 32, .inl (fun _ => 0))), (b3, .inl (cA, 32, .inl (fun _ => 0)))] H := hP
  replace hD : va_D A [(g0, .inr (1, [.int (nI 0), .int (nI 0), .ref b1, .int (nI 0), .int (nI 0), .ref b8, .ref b9, .int (nI 0), .ref b2, .null, .null, .null, .null, .null])), (b1, .inl (cA, 432, .inl (ini 0))), (b8, .inl (cA, 32, .inl (fun _ => 0))), (b9, .inl (cA, 96, .inl (fun _ => 0))), (b2, .inl (cA, 32, .inl (fun _ => 0))), (b3, .inl (cA, 32, .inl (fun _ => 0)))] := hD
  refine W.widen (k := 5) (n := 624) (by omega) (by omega) ?_
  refine va_putF (D := (dC, dI)) (ci := 1) (v := .ref b3) (ty := .array .int) (C := RX1) (T := TX1) (N := 14) hx hb hts (by decide +kernel) tyX1 tyX1_ok nmX1 hown hK hP hD hS 0 rfl rfl 9 (by decide) (hts (.fieldLink RX1 22 "MotionDeskModel" "whatOf" "[I") (by decide +kernel)) (fun _ h9 => h9) rfl hin rfl (by decide +kernel) rfl rfl (Nat.le_of_ble_eq_true rfl) dX1_init_42 (fun H locs hP hD hS => ?_)
  replace hP : va_P (dC, dI) vwCl [(g0, .inr (1, [.int (nI 0), .int (nI 0), .ref b1, .int (nI 0), .int (nI 0), .ref b8, .ref b9, .int (nI 0), .ref b2, .ref b3, .null, .null, .null, .null])), (b1, .inl (cA, 432, .inl (ini 0))), (b8, .inl (cA, 32, .inl (fun _ => 0))), (b9, .inl (cA, 96, .inl (fun _ => 0))), (b2, .inl (cA, 32, .inl (fun _ => 0))), (b3, .inl (cA, 32, .inl (fun _ => 0)))] H := hP
  replace hD : va_D A [(g0, .inr (1, [.int (nI 0), .int (nI 0), .ref b1, .int (nI 0), .int (nI 0), .ref b8, .ref b9, .int (nI 0), .ref b2, .ref b3, .null, .null, .null, .null])), (b1, .inl (cA, 432, .inl (ini 0))), (b8, .inl (cA, 32, .inl (fun _ => 0))), (b9, .inl (cA, 96, .inl (fun _ => 0))), (b2, .inl (cA, 32, .inl (fun _ => 0))), (b3, .inl (cA, 32, .inl (fun _ => 0)))] := hD
  refine lv_aload_n hx hb dX1_init_45 rfl (lv_at hl 0 rfl) ?_
  refine lv_bipush (v := (nI 32)) hx hb dX1_init_46 (by decide) ?_
  refine va_newa (atype := .int) (a0 := (32, .inl (fun _ => 0))) (N' := 32) (ty := .int) hx hb (hts (.arrayClass .int) (by decide +kernel)) rfl hK hP hD hS hA (fun _ => rfl) (nI_pos (by omega)) (nI_clamp (by omega)) (by show 32 * 4 ≤ 536870912; omega) (Nat.le_of_ble_eq_true rfl) (Nat.le_of_ble_eq_true rfl) dX1_init_48 (fun b4 cB H hK hP hD hS => ?_)
  have eB : cB = cA := arr_one hK
  rw [eB] at hP hD
  have hK := hK.sub (tys' := [(cA, .int)]) [0] rfl
  replace hP : va_P (dC, dI) vwCl [(g0, .inr (1, [.int (nI 0), .int (nI 0), .ref b1, .int (nI 0), .int (nI 0), .ref b8, .ref b9, .int (nI 0), .ref b2, .ref b3, .null, .null, .null, .null])), (b1, .inl (cA, 432, .inl (ini 0))), (b8, .inl (cA, 32, .inl (fun _ => 0))), (b9, .inl (cA, 96, .inl (fun _ => 0))), (b2, .inl (cA, 32, .inl (fun _ => 0))), (b3, .inl (cA, 32, .inl (fun _ => 0))), (b4, .inl (cA, 32, .inl (fun _ => 0)))] H := hP
  replace hD : va_D A [(g0, .inr (1, [.int (nI 0), .int (nI 0), .ref b1, .int (nI 0), .int (nI 0), .ref b8, .ref b9, .int (nI 0), .ref b2, .ref b3, .null, .null, .null, .null])), (b1, .inl (cA, 432, .inl (ini 0))), (b8, .inl (cA, 32, .inl (fun _ => 0))), (b9, .inl (cA, 96, .inl (fun _ => 0))), (b2, .inl (cA, 32, .inl (fun _ => 0))), (b3, .inl (cA, 32, .inl (fun _ => 0))), (b4, .inl (cA, 32, .inl (fun _ => 0)))] := hD
  refine W.widen (k := 6) (n := 656) (by omega) (by omega) ?_
  refine va_putF (D := (dC, dI)) (ci := 1) (v := .ref b4) (ty := .array .int) (C := RX1) (T := TX1) (N := 14) hx hb hts (by decide +kernel) tyX1 tyX1_ok nmX1 hown hK hP hD hS 0 rfl rfl 10 (by decide) (hts (.fieldLink RX1 25 "MotionDeskModel" "howOf" "[I") (by decide +kernel)) (fun _ h9 => h9) rfl hin rfl (by decide +kernel) rfl rfl (Nat.le_of_ble_eq_true rfl) dX1_init_50 (fun H locs hP hD hS => ?_)
  replace hP : va_P (dC, dI) vwCl [(g0, .inr (1, [.int (nI 0), .int (nI 0), .ref b1, .int (nI 0), .int (nI 0), .ref b8, .ref b9, .int (nI 0), .ref b2, .ref b3, .ref b4, .null, .null, .null])), (b1, .inl (cA, 432, .inl (ini 0))), (b8, .inl (cA, 32, .inl (fun _ => 0))), (b9, .inl (cA, 96, .inl (fun _ => 0))), (b2, .inl (cA, 32, .inl (fun _ => 0))), (b3, .inl (cA, 32, .inl (fun _ => 0))), (b4, .inl (cA, 32, .inl (fun _ => 0)))] H := hP
  replace hD : va_D A [(g0, .inr (1, [.int (nI 0), .int (nI 0), .ref b1, .int (nI 0), .int (nI 0), .ref b8, .ref b9, .int (nI 0), .ref b2, .ref b3, .ref b4, .null, .null, .null])), (b1, .inl (cA, 432, .inl (ini 0))), (b8, .inl (cA, 32, .inl (fun _ => 0))), (b9, .inl (cA, 96, .inl (fun _ => 0))), (b2, .inl (cA, 32, .inl (fun _ => 0))), (b3, .inl (cA, 32, .inl (fun _ => 0))), (b4, .inl (cA, 32, .inl (fun _ => 0)))] := hD
  refine lv_aload_n hx hb dX1_init_53 rfl (lv_at hl 0 rfl) ?_
  refine lv_bipush (v := (nI 32)) hx hb dX1_init_54 (by decide) ?_
  refine va_newa (atype := .int) (a0 := (32, .inl (fun _ => 0))) (N' := 32) (ty := .int) hx hb (hts (.arrayClass .int) (by decide +kernel)) rfl hK hP hD hS hA (fun _ => rfl) (nI_pos (by omega)) (nI_clamp (by omega)) (by show 32 * 4 ≤ 536870912; omega) (Nat.le_of_ble_eq_true rfl) (Nat.le_of_ble_eq_true rfl) dX1_init_56 (fun b5 cB H hK hP hD hS => ?_)
  have eB : cB = cA := arr_one hK
  rw [eB] at hP hD
  have hK := hK.sub (tys' := [(cA, .int)]) [0] rfl
  replace hP : va_P (dC, dI) vwCl [(g0, .inr (1, [.int (nI 0), .int (nI 0), .ref b1, .int (nI 0), .int (nI 0), .ref b8, .ref b9, .int (nI 0), .ref b2, .ref b3, .ref b4, .null, .null, .null])), (b1, .inl (cA, 432, .inl (ini 0))), (b8, .inl (cA, 32, .inl (fun _ => 0))), (b9, .inl (cA, 96, .inl (fun _ => 0))), (b2, .inl (cA, 32, .inl (fun _ => 0))), (b3, .inl (cA, 32, .inl (fun _ => 0))), (b4, .inl (cA, 32, .inl (fun _ => 0))), (b5, .inl (cA, 32, .inl (fun _ => 0)))] H := hP
  replace hD : va_D A [(g0, .inr (1, [.int (nI 0), .int (nI 0), .ref b1, .int (nI 0), .int (nI 0), .ref b8, .ref b9, .int (nI 0), .ref b2, .ref b3, .ref b4, .null, .null, .null])), (b1, .inl (cA, 432, .inl (ini 0))), (b8, .inl (cA, 32, .inl (fun _ => 0))), (b9, .inl (cA, 96, .inl (fun _ => 0))), (b2, .inl (cA, 32, .inl (fun _ => 0))), (b3, .inl (cA, 32, .inl (fun _ => 0))), (b4, .inl (cA, 32, .inl (fun _ => 0))), (b5, .inl (cA, 32, .inl (fun _ => 0)))] := hD
  refine W.widen (k := 7) (n := 688) (by omega) (by omega) ?_
  refine va_putF (D := (dC, dI)) (ci := 1) (v := .ref b5) (ty := .array .int) (C := RX1) (T := TX1) (N := 14) hx hb hts (by decide +kernel) tyX1 tyX1_ok nmX1 hown hK hP hD hS 0 rfl rfl 11 (by decide) (hts (.fieldLink RX1 28 "MotionDeskModel" "keysOf" "[I") (by decide +kernel)) (fun _ h9 => h9) rfl hin rfl (by decide +kernel) rfl rfl (Nat.le_of_ble_eq_true rfl) dX1_init_58 (fun H locs hP hD hS => ?_)
  replace hP : va_P (dC, dI) vwCl [(g0, .inr (1, [.int (nI 0), .int (nI 0), .ref b1, .int (nI 0), .int (nI 0), .ref b8, .ref b9, .int (nI 0), .ref b2, .ref b3, .ref b4, .ref b5, .null, .null])), (b1, .inl (cA, 432, .inl (ini 0))), (b8, .inl (cA, 32, .inl (fun _ => 0))), (b9, .inl (cA, 96, .inl (fun _ => 0))), (b2, .inl (cA, 32, .inl (fun _ => 0))), (b3, .inl (cA, 32, .inl (fun _ => 0))), (b4, .inl (cA, 32, .inl (fun _ => 0))), (b5, .inl (cA, 32, .inl (fun _ => 0)))] H := hP
  replace hD : va_D A [(g0, .inr (1, [.int (nI 0), .int (nI 0), .ref b1, .int (nI 0), .int (nI 0), .ref b8, .ref b9, .int (nI 0), .ref b2, .ref b3, .ref b4, .ref b5, .null, .null])), (b1, .inl (cA, 432, .inl (ini 0))), (b8, .inl (cA, 32, .inl (fun _ => 0))), (b9, .inl (cA, 96, .inl (fun _ => 0))), (b2, .inl (cA, 32, .inl (fun _ => 0))), (b3, .inl (cA, 32, .inl (fun _ => 0))), (b4, .inl (cA, 32, .inl (fun _ => 0))), (b5, .inl (cA, 32, .inl (fun _ => 0)))] := hD
  refine lv_aload_n hx hb dX1_init_61 rfl (lv_at hl 0 rfl) ?_
  refine lv_sipush (v := (nI 1024)) hx hb dX1_init_62 (by decide) ?_
  refine va_newa (atype := .int) (a0 := (1024, .inl (fun _ => 0))) (N' := 1024) (ty := .int) hx hb (hts (.arrayClass .int) (by decide +kernel)) rfl hK hP hD hS hA (fun _ => rfl) (nI_pos (by omega)) (nI_clamp (by omega)) (by show 1024 * 4 ≤ 536870912; omega) (Nat.le_of_ble_eq_true rfl) (Nat.le_of_ble_eq_true rfl) dX1_init_65 (fun b6 cB H hK hP hD hS => ?_)
  have eB : cB = cA := arr_one hK
  rw [eB] at hP hD
  have hK := hK.sub (tys' := [(cA, .int)]) [0] rfl
  replace hP : va_P (dC, dI) vwCl [(g0, .inr (1, [.int (nI 0), .int (nI 0), .ref b1, .int (nI 0), .int (nI 0), .ref b8, .ref b9, .int (nI 0), .ref b2, .ref b3, .ref b4, .ref b5, .null, .null])), (b1, .inl (cA, 432, .inl (ini 0))), (b8, .inl (cA, 32, .inl (fun _ => 0))), (b9, .inl (cA, 96, .inl (fun _ => 0))), (b2, .inl (cA, 32, .inl (fun _ => 0))), (b3, .inl (cA, 32, .inl (fun _ => 0))), (b4, .inl (cA, 32, .inl (fun _ => 0))), (b5, .inl (cA, 32, .inl (fun _ => 0))), (b6, .inl (cA, 1024, .inl (fun _ => 0)))] H := hP
  replace hD : va_D A [(g0, .inr (1, [.int (nI 0), .int (nI 0), .ref b1, .int (nI 0), .int (nI 0), .ref b8, .ref b9, .int (nI 0), .ref b2, .ref b3, .ref b4, .ref b5, .null, .null])), (b1, .inl (cA, 432, .inl (ini 0))), (b8, .inl (cA, 32, .inl (fun _ => 0))), (b9, .inl (cA, 96, .inl (fun _ => 0))), (b2, .inl (cA, 32, .inl (fun _ => 0))), (b3, .inl (cA, 32, .inl (fun _ => 0))), (b4, .inl (cA, 32, .inl (fun _ => 0))), (b5, .inl (cA, 32, .inl (fun _ => 0))), (b6, .inl (cA, 1024, .inl (fun _ => 0)))] := hD
  refine W.widen (k := 8) (n := 1712) (by omega) (by omega) ?_
  refine va_putF (D := (dC, dI)) (ci := 1) (v := .ref b6) (ty := .array .int) (C := RX1) (T := TX1) (N := 14) hx hb hts (by decide +kernel) tyX1 tyX1_ok nmX1 hown hK hP hD hS 0 rfl rfl 12 (by decide) (hts (.fieldLink RX1 31 "MotionDeskModel" "times" "[I") (by decide +kernel)) (fun _ h9 => h9) rfl hin rfl (by decide +kernel) rfl rfl (Nat.le_of_ble_eq_true rfl) dX1_init_67 (fun H locs hP hD hS => ?_)
  replace hP : va_P (dC, dI) vwCl [(g0, .inr (1, [.int (nI 0), .int (nI 0), .ref b1, .int (nI 0), .int (nI 0), .ref b8, .ref b9, .int (nI 0), .ref b2, .ref b3, .ref b4, .ref b5, .ref b6, .null])), (b1, .inl (cA, 432, .inl (ini 0))), (b8, .inl (cA, 32, .inl (fun _ => 0))), (b9, .inl (cA, 96, .inl (fun _ => 0))), (b2, .inl (cA, 32, .inl (fun _ => 0))), (b3, .inl (cA, 32, .inl (fun _ => 0))), (b4, .inl (cA, 32, .inl (fun _ => 0))), (b5, .inl (cA, 32, .inl (fun _ => 0))), (b6, .inl (cA, 1024, .inl (fun _ => 0)))] H := hP
  replace hD : va_D A [(g0, .inr (1, [.int (nI 0), .int (nI 0), .ref b1, .int (nI 0), .int (nI 0), .ref b8, .ref b9, .int (nI 0), .ref b2, .ref b3, .ref b4, .ref b5, .ref b6, .null])), (b1, .inl (cA, 432, .inl (ini 0))), (b8, .inl (cA, 32, .inl (fun _ => 0))), (b9, .inl (cA, 96, .inl (fun _ => 0))), (b2, .inl (cA, 32, .inl (fun _ => 0))), (b3, .inl (cA, 32, .inl (fun _ => 0))), (b4, .inl (cA, 32, .inl (fun _ => 0))), (b5, .inl (cA, 32, .inl (fun _ => 0))), (b6, .inl (cA, 1024, .inl (fun _ => 0)))] := hD
  refine lv_aload_n hx hb dX1_init_70 rfl (lv_at hl 0 rfl) ?_
  refine lv_sipush (v := (nI 3072)) hx hb dX1_init_71 (by decide) ?_
  refine va_newa (atype := .int) (a0 := (3072, .inl (fun _ => 0))) (N' := 3072) (ty := .int) hx hb (hts (.arrayClass .int) (by decide +kernel)) rfl hK hP hD hS hA (fun _ => rfl) (nI_pos (by omega)) (nI_clamp (by omega)) (by show 3072 * 4 ≤ 536870912; omega) (Nat.le_of_ble_eq_true rfl) (Nat.le_of_ble_eq_true rfl) dX1_init_74 (fun b7 cB H hK hP hD hS => ?_)
  have eB : cB = cA := arr_one hK
  rw [eB] at hP hD
  have hK := hK.sub (tys' := [(cA, .int)]) [0] rfl
  replace hP : va_P (dC, dI) vwCl [(g0, .inr (1, [.int (nI 0), .int (nI 0), .ref b1, .int (nI 0), .int (nI 0), .ref b8, .ref b9, .int (nI 0), .ref b2, .ref b3, .ref b4, .ref b5, .ref b6, .null])), (b1, .inl (cA, 432, .inl (ini 0))), (b8, .inl (cA, 32, .inl (fun _ => 0))), (b9, .inl (cA, 96, .inl (fun _ => 0))), (b2, .inl (cA, 32, .inl (fun _ => 0))), (b3, .inl (cA, 32, .inl (fun _ => 0))), (b4, .inl (cA, 32, .inl (fun _ => 0))), (b5, .inl (cA, 32, .inl (fun _ => 0))), (b6, .inl (cA, 1024, .inl (fun _ => 0))), (b7, .inl (cA, 3072, .inl (fun _ => 0)))] H := hP
  replace hD : va_D A [(g0, .inr (1, [.int (nI 0), .int (nI 0), .ref b1, .int (nI 0), .int (nI 0), .ref b8, .ref b9, .int (nI 0), .ref b2, .ref b3, .ref b4, .ref b5, .ref b6, .null])), (b1, .inl (cA, 432, .inl (ini 0))), (b8, .inl (cA, 32, .inl (fun _ => 0))), (b9, .inl (cA, 96, .inl (fun _ => 0))), (b2, .inl (cA, 32, .inl (fun _ => 0))), (b3, .inl (cA, 32, .inl (fun _ => 0))), (b4, .inl (cA, 32, .inl (fun _ => 0))), (b5, .inl (cA, 32, .inl (fun _ => 0))), (b6, .inl (cA, 1024, .inl (fun _ => 0))), (b7, .inl (cA, 3072, .inl (fun _ => 0)))] := hD
  refine W.widen (k := 9) (n := 4784) (by omega) (by omega) ?_
  refine va_putF (D := (dC, dI)) (ci := 1) (v := .ref b7) (ty := .array .int) (C := RX1) (T := TX1) (N := 14) hx hb hts (by decide +kernel) tyX1 tyX1_ok nmX1 hown hK hP hD hS 0 rfl rfl 13 (by decide) (hts (.fieldLink RX1 34 "MotionDeskModel" "values" "[I") (by decide +kernel)) (fun _ h9 => h9) rfl hin rfl (by decide +kernel) rfl rfl (Nat.le_of_ble_eq_true rfl) dX1_init_76 (fun H locs hP hD hS => ?_)
  replace hP : va_P (dC, dI) vwCl [(g0, .inr (1, [.int (nI 0), .int (nI 0), .ref b1, .int (nI 0), .int (nI 0), .ref b8, .ref b9, .int (nI 0), .ref b2, .ref b3, .ref b4, .ref b5, .ref b6, .ref b7])), (b1, .inl (cA, 432, .inl (ini 0))), (b8, .inl (cA, 32, .inl (fun _ => 0))), (b9, .inl (cA, 96, .inl (fun _ => 0))), (b2, .inl (cA, 32, .inl (fun _ => 0))), (b3, .inl (cA, 32, .inl (fun _ => 0))), (b4, .inl (cA, 32, .inl (fun _ => 0))), (b5, .inl (cA, 32, .inl (fun _ => 0))), (b6, .inl (cA, 1024, .inl (fun _ => 0))), (b7, .inl (cA, 3072, .inl (fun _ => 0)))] H := hP
  replace hD : va_D A [(g0, .inr (1, [.int (nI 0), .int (nI 0), .ref b1, .int (nI 0), .int (nI 0), .ref b8, .ref b9, .int (nI 0), .ref b2, .ref b3, .ref b4, .ref b5, .ref b6, .ref b7])), (b1, .inl (cA, 432, .inl (ini 0))), (b8, .inl (cA, 32, .inl (fun _ => 0))), (b9, .inl (cA, 96, .inl (fun _ => 0))), (b2, .inl (cA, 32, .inl (fun _ => 0))), (b3, .inl (cA, 32, .inl (fun _ => 0))), (b4, .inl (cA, 32, .inl (fun _ => 0))), (b5, .inl (cA, 32, .inl (fun _ => 0))), (b6, .inl (cA, 1024, .inl (fun _ => 0))), (b7, .inl (cA, 3072, .inl (fun _ => 0)))] := hD
  refine lv_aload_n hx hb dX1_init_79 rfl (lv_at hl 0 rfl) ?_
  refine lv_iload_n hx hb dX1_init_80 rfl (lv_at hl 1 rfl) ?_
  refine lv_iconst (v := (nI 1)) hx hb dX1_init_81 (by decide) ?_
  refine lv_icmp_ge (tgt := 89) hx hb dX1_init_82 (by decide) (fun c1 => ?_) (fun c1 => ?_)
  · skip
    have c1 := zle c1
    refine lv_iload_n hx hb dX1_init_89 rfl (lv_at hl 1 rfl) ?_
    refine lv_bipush (v := (nI 48)) hx hb dX1_init_90 (by decide) ?_
    refine lv_icmp_le (tgt := 100) hx hb dX1_init_92 (by decide) (fun c2 => ?_) (fun c2 => ?_)
    · skip
      have c2 := zle c2
      refine lv_iload_n hx hb dX1_init_100 rfl (lv_at hl 1 rfl) ?_
      have hz : N = cl48 x := eN.symm
      unfold cl48 at hz
      refine tp_i (y := nI N) (by rw [if_neg (by omega), if_neg (by omega)] at hz; rw [hz]; exact z_nat (by omega)) ?_
      clear hz
      refine va_putF (D := (dC, dI)) (ci := 1) (v := .int (nI N)) (ty := .int) (C := RX1) (T := TX1) (N := 14) hx hb hts (by decide +kernel) tyX1 tyX1_ok nmX1 hown hK hP hD hS 0 rfl rfl 1 (by decide) (hts (.fieldLink RX1 37 "MotionDeskModel" "nodes" "I") (by decide +kernel)) (fun _ h9 => h9) rfl hin rfl (by decide +kernel) rfl rfl (Nat.le_of_ble_eq_true rfl) dX1_init_101 (fun H locs hP hD hS => ?_)
      replace hP : va_P (dC, dI) vwCl [(g0, .inr (1, [.int (nI 0), .int (nI N), .ref b1, .int (nI 0), .int (nI 0), .ref b8, .ref b9, .int (nI 0), .ref b2, .ref b3, .ref b4, .ref b5, .ref b6, .ref b7])), (b1, .inl (cA, 432, .inl (ini 0))), (b8, .inl (cA, 32, .inl (fun _ => 0))), (b9, .inl (cA, 96, .inl (fun _ => 0))), (b2, .inl (cA, 32, .inl (fun _ => 0))), (b3, .inl (cA, 32, .inl (fun _ => 0))), (b4, .inl (cA, 32, .inl (fun _ => 0))), (b5, .inl (cA, 32, .inl (fun _ => 0))), (b6, .inl (cA, 1024, .inl (fun _ => 0))), (b7, .inl (cA, 3072, .inl (fun _ => 0)))] H := hP
      replace hD : va_D A [(g0, .inr (1, [.int (nI 0), .int (nI N), .ref b1, .int (nI 0), .int (nI 0), .ref b8, .ref b9, .int (nI 0), .ref b2, .ref b3, .ref b4, .ref b5, .ref b6, .ref b7])), (b1, .inl (cA, 432, .inl (ini 0))), (b8, .inl (cA, 32, .inl (fun _ => 0))), (b9, .inl (cA, 96, .inl (fun _ => 0))), (b2, .inl (cA, 32, .inl (fun _ => 0))), (b3, .inl (cA, 32, .inl (fun _ => 0))), (b4, .inl (cA, 32, .inl (fun _ => 0))), (b5, .inl (cA, 32, .inl (fun _ => 0))), (b6, .inl (cA, 1024, .inl (fun _ => 0))), (b7, .inl (cA, 3072, .inl (fun _ => 0)))] := hD
      refine lv_iconst (v := (nI 0)) hx hb dX1_init_104 (by decide) ?_
      refine lv_istore_n (lv' := [(2, .int (nI 0)), (0, .ref g0), (1, .int x)]) hx hb dX1_init_105 rfl hl (by decide) rfl (fun ls hl => ?_)
      obtain ⟨n, k, hn, hP9, hD9, hl9⟩ : ∃ (n k : Nat), k + n = N ∧ va_P (dC, dI) vwCl [(g0, .inr (1, [.int (nI 0), .int (nI N), .ref b1, .int (nI 0), .int (nI 0), .ref b8, .ref b9, .int (nI 0), .ref b2, .ref b3, .ref b4, .ref b5, .ref b6, .ref b7])), (b1, .inl (cA, 432, .inl (ini k))), (b8, .inl (cA, 32, .inl (fun _ => 0))), (b9, .inl (cA, 96, .inl (fun _ => 0))), (b2, .inl (cA, 32, .inl (fun _ => 0))), (b3, .inl (cA, 32, .inl (fun _ => 0))), (b4, .inl (cA, 32, .inl (fun _ => 0))), (b5, .inl (cA, 32, .inl (fun _ => 0))), (b6, .inl (cA, 1024, .inl (fun _ => 0))), (b7, .inl (cA, 3072, .inl (fun _ => 0)))] H ∧ va_D A [(g0, .inr (1, [.int (nI 0), .int (nI N), .ref b1, .int (nI 0), .int (nI 0), .ref b8, .ref b9, .int (nI 0), .ref b2, .ref b3, .ref b4, .ref b5, .ref b6, .ref b7])), (b1, .inl (cA, 432, .inl (ini k))), (b8, .inl (cA, 32, .inl (fun _ => 0))), (b9, .inl (cA, 96, .inl (fun _ => 0))), (b2, .inl (cA, 32, .inl (fun _ => 0))), (b3, .inl (cA, 32, .inl (fun _ => 0))), (b4, .inl (cA, 32, .inl (fun _ => 0))), (b5, .inl (cA, 32, .inl (fun _ => 0))), (b6, .inl (cA, 1024, .inl (fun _ => 0))), (b7, .inl (cA, 3072, .inl (fun _ => 0)))] ∧ lv_has ls 4 [(2, .int (nI k)), (0, .ref g0), (1, .int x)] := ⟨N, 0, by omega, hP, hD, hl⟩
      clear hl hP hD; have hl := hl9; have hP := hP9; have hD := hD9; clear hl9 hP9 hD9
      induction n generalizing k ls H locs with
      | zero =>
        have t2 : (nI k).toInt = k := nI_toInt (by omega)
        refine lv_iload_n hx hb dX1_init_106 rfl (lv_at hl 0 rfl) ?_
        refine lv_aload_n hx hb dX1_init_107 rfl (lv_at hl 1 rfl) ?_
        refine va_get (D := (dC, dI)) (ci := 1) (v := .int (nI N)) (C := RX1) (T := TX1) (N := 14) hx hb hts (by decide +kernel) hown hK hP 0 rfl rfl 1 (by decide) (hts (.fieldLink RX1 37 "MotionDeskModel" "nodes" "I") (by decide +kernel)) (fun _ h9 => h9) rfl dX1_init_108 ?_
        refine lv_icmp_ge (tgt := 148) hx hb dX1_init_111 (by decide) (fun c3 => ?_) (fun c3 => ?_)
        · skip
          have c3 := zle c3
          refine W.widen (k := 9) (n := 4784) (by omega) (by omega) ?_
          obtain rfl : k = N := by omega
          have hP9 := hP.sub (ws' := (wM cA g0 b1 b2 b3 b4 b5 b6 b7 b8 b9 k 0 0 (nI 0) (ini k) (fun _ => 0) (fun _ => 0) (fun _ => 0) (fun _ => 0) (fun _ => 0) (fun _ => 0) (fun _ => 0) (fun _ => 0))) [0, 1, 4, 5, 6, 7, 8, 9, 2, 3] rfl
          have hD9 := hD.sub (ws' := (wM cA g0 b1 b2 b3 b4 b5 b6 b7 b8 b9 k 0 0 (nI 0) (ini k) (fun _ => 0) (fun _ => 0) (fun _ => 0) (fun _ => 0) (fun _ => 0) (fun _ => 0) (fun _ => 0) (fun _ => 0))) [0, 1, 4, 5, 6, 7, 8, 9, 2, 3] (by decide) rfl
          exact W.vret hx hb hr (fun t9 ht9 hW9 => ⟨⟨(), rfl, trivial, b1, b2, b3, b4, b5, b6, b7, b8, b9, by rw [ht9]; exact hP9, va_K.moved hW9.alike hK, hD9⟩, hS.F ht9⟩) hS.2.2 dX1_init_148
        · skip
          have c3 := znle c3
          exfalso; omega
      | succ n ih =>
        have t2 : (nI k).toInt = k := nI_toInt (by omega)
        refine lv_iload_n hx hb dX1_init_106 rfl (lv_at hl 0 rfl) ?_
        refine lv_aload_n hx hb dX1_init_107 rfl (lv_at hl 1 rfl) ?_
        refine va_get (D := (dC, dI)) (ci := 1) (v := .int (nI N)) (C := RX1) (T := TX1) (N := 14) hx hb hts (by decide +kernel) hown hK hP 0 rfl rfl 1 (by decide) (hts (.fieldLink RX1 37 "MotionDeskModel" "nodes" "I") (by decide +kernel)) (fun _ h9 => h9) rfl dX1_init_108 ?_
        refine lv_icmp_ge (tgt := 148) hx hb dX1_init_111 (by decide) (fun c4 => ?_) (fun c4 => ?_)
        · skip
          have c4 := zle c4
          exfalso; omega
        · skip
          have c4 := znle c4
          refine lv_bipush (v := (nI 6)) hx hb dX1_init_114 (by decide) ?_
          refine lv_istore_n (lv' := [(3, .int (nI 6)), (2, .int (nI k)), (0, .ref g0), (1, .int x)]) hx hb dX1_init_116 rfl hl (by decide) rfl (fun ls hl => ?_)
          refine lv_iload_n hx hb dX1_init_117 rfl (lv_at hl 0 rfl) ?_
          refine lv_bipush (v := (nI 9)) hx hb dX1_init_118 (by decide) ?_
          refine lv_icmp_ge (tgt := 142) hx hb dX1_init_120 (by decide) (fun c5 => ?_) (fun c5 => ?_)
          · skip
            have c5 := c5
            exact absurd c5 (by decide)
          · skip
            have c5 := c5
            refine lv_aload_n hx hb dX1_init_123 rfl (lv_at hl 2 rfl) ?_
            refine va_get (D := (dC, dI)) (ci := 1) (v := .ref b1) (C := RX1) (T := TX1) (N := 14) hx hb hts (by decide +kernel) hown hK hP 0 rfl rfl 2 (by decide) (hts (.fieldLink RX1 7 "MotionDeskModel" "poses" "[I") (by decide +kernel)) (fun _ h9 => h9) rfl dX1_init_124 ?_
            refine lv_bipush (v := (nI 9)) hx hb dX1_init_127 (by decide) ?_
            refine lv_iload_n hx hb dX1_init_129 rfl (lv_at hl 1 rfl) ?_
            refine lv_imul hx hb dX1_init_130 ?_
            refine tp_i (y := nI (k * 9)) (by rw [pk_mul, Nat.mul_comm]) ?_
            refine lv_iload_n hx hb dX1_init_131 rfl (lv_at hl 0 rfl) ?_
            refine lv_iadd hx hb dX1_init_132 ?_
            refine tp_i (y := nI ((k * 3 + 2) * 3 + 0)) (by rw [nI_add, show k * 9 + 6 = (k * 3 + 2) * 3 + 0 by omega]) ?_
            refine lv_ldc (v := 65536) hx hb hown (hts (.constant RX1 41 65536) (by decide +kernel)) dX1_init_133 ?_
            refine va_iast hx hb hK hP hD hS 1 0 rfl rfl (vp_in_nI (by omega) (by omega)) dX1_init_135 (fun H locs hP hD hS => ?_)
            rw [nI_clamp (show (k * 3 + 2) * 3 + 0 < 2 ^ 31 by omega)] at hP hD
            replace hP : va_P (dC, dI) vwCl [(g0, .inr (1, [.int (nI 0), .int (nI N), .ref b1, .int (nI 0), .int (nI 0), .ref b8, .ref b9, .int (nI 0), .ref b2, .ref b3, .ref b4, .ref b5, .ref b6, .ref b7])), (b1, .inl (cA, 432, .inl (upd (ini k) ((k * 3 + 2) * 3 + 0) 65536))), (b8, .inl (cA, 32, .inl (fun _ => 0))), (b9, .inl (cA, 96, .inl (fun _ => 0))), (b2, .inl (cA, 32, .inl (fun _ => 0))), (b3, .inl (cA, 32, .inl (fun _ => 0))), (b4, .inl (cA, 32, .inl (fun _ => 0))), (b5, .inl (cA, 32, .inl (fun _ => 0))), (b6, .inl (cA, 1024, .inl (fun _ => 0))), (b7, .inl (cA, 3072, .inl (fun _ => 0)))] H := hP
            replace hD : va_D A [(g0, .inr (1, [.int (nI 0), .int (nI N), .ref b1, .int (nI 0), .int (nI 0), .ref b8, .ref b9, .int (nI 0), .ref b2, .ref b3, .ref b4, .ref b5, .ref b6, .ref b7])), (b1, .inl (cA, 432, .inl (upd (ini k) ((k * 3 + 2) * 3 + 0) 65536))), (b8, .inl (cA, 32, .inl (fun _ => 0))), (b9, .inl (cA, 96, .inl (fun _ => 0))), (b2, .inl (cA, 32, .inl (fun _ => 0))), (b3, .inl (cA, 32, .inl (fun _ => 0))), (b4, .inl (cA, 32, .inl (fun _ => 0))), (b5, .inl (cA, 32, .inl (fun _ => 0))), (b6, .inl (cA, 1024, .inl (fun _ => 0))), (b7, .inl (cA, 3072, .inl (fun _ => 0)))] := hD
            refine lv_iinc (v := nI 7) (lv' := [(3, .int (nI 7)), (2, .int (nI k)), (0, .ref g0), (1, .int x)]) hx hb dX1_init_136 hl (k := 0) rfl (by decide) (by decide) rfl (fun ls hl => ?_)
            refine lv_goto (tgt := 117) hx hb dX1_init_139 (by decide) ?_
            refine lv_iload_n hx hb dX1_init_117 rfl (lv_at hl 0 rfl) ?_
            refine lv_bipush (v := (nI 9)) hx hb dX1_init_118 (by decide) ?_
            refine lv_icmp_ge (tgt := 142) hx hb dX1_init_120 (by decide) (fun c6 => ?_) (fun c6 => ?_)
            · skip
              have c6 := c6
              exact absurd c6 (by decide)
            · skip
              have c6 := c6
              refine lv_aload_n hx hb dX1_init_123 rfl (lv_at hl 2 rfl) ?_
              refine va_get (D := (dC, dI)) (ci := 1) (v := .ref b1) (C := RX1) (T := TX1) (N := 14) hx hb hts (by decide +kernel) hown hK hP 0 rfl rfl 2 (by decide) (hts (.fieldLink RX1 7 "MotionDeskModel" "poses" "[I") (by decide +kernel)) (fun _ h9 => h9) rfl dX1_init_124 ?_
              refine lv_bipush (v := (nI 9)) hx hb dX1_init_127 (by decide) ?_
              refine lv_iload_n hx hb dX1_init_129 rfl (lv_at hl 1 rfl) ?_
              refine lv_imul hx hb dX1_init_130 ?_
              refine tp_i (y := nI (k * 9)) (by rw [pk_mul, Nat.mul_comm]) ?_
              refine lv_iload_n hx hb dX1_init_131 rfl (lv_at hl 0 rfl) ?_
              refine lv_iadd hx hb dX1_init_132 ?_
              refine tp_i (y := nI ((k * 3 + 2) * 3 + 1)) (by rw [nI_add, show k * 9 + 7 = (k * 3 + 2) * 3 + 1 by omega]) ?_
              refine lv_ldc (v := 65536) hx hb hown (hts (.constant RX1 41 65536) (by decide +kernel)) dX1_init_133 ?_
              refine va_iast hx hb hK hP hD hS 1 0 rfl rfl (vp_in_nI (by omega) (by omega)) dX1_init_135 (fun H locs hP hD hS => ?_)
              rw [nI_clamp (show (k * 3 + 2) * 3 + 1 < 2 ^ 31 by omega)] at hP hD
              replace hP : va_P (dC, dI) vwCl [(g0, .inr (1, [.int (nI 0), .int (nI N), .ref b1, .int (nI 0), .int (nI 0), .ref b8, .ref b9, .int (nI 0), .ref b2, .ref b3, .ref b4, .ref b5, .ref b6, .ref b7])), (b1, .inl (cA, 432, .inl (upd (upd (ini k) ((k * 3 + 2) * 3 + 0) 65536) ((k * 3 + 2) * 3 + 1) 65536))), (b8, .inl (cA, 32, .inl (fun _ => 0))), (b9, .inl (cA, 96, .inl (fun _ => 0))), (b2, .inl (cA, 32, .inl (fun _ => 0))), (b3, .inl (cA, 32, .inl (fun _ => 0))), (b4, .inl (cA, 32, .inl (fun _ => 0))), (b5, .inl (cA, 32, .inl (fun _ => 0))), (b6, .inl (cA, 1024, .inl (fun _ => 0))), (b7, .inl (cA, 3072, .inl (fun _ => 0)))] H := hP
              replace hD : va_D A [(g0, .inr (1, [.int (nI 0), .int (nI N), .ref b1, .int (nI 0), .int (nI 0), .ref b8, .ref b9, .int (nI 0), .ref b2, .ref b3, .ref b4, .ref b5, .ref b6, .ref b7])), (b1, .inl (cA, 432, .inl (upd (upd (ini k) ((k * 3 + 2) * 3 + 0) 65536) ((k * 3 + 2) * 3 + 1) 65536))), (b8, .inl (cA, 32, .inl (fun _ => 0))), (b9, .inl (cA, 96, .inl (fun _ => 0))), (b2, .inl (cA, 32, .inl (fun _ => 0))), (b3, .inl (cA, 32, .inl (fun _ => 0))), (b4, .inl (cA, 32, .inl (fun _ => 0))), (b5, .inl (cA, 32, .inl (fun _ => 0))), (b6, .inl (cA, 1024, .inl (fun _ => 0))), (b7, .inl (cA, 3072, .inl (fun _ => 0)))] := hD
              refine lv_iinc (v := nI 8) (lv' := [(3, .int (nI 8)), (2, .int (nI k)), (0, .ref g0), (1, .int x)]) hx hb dX1_init_136 hl (k := 0) rfl (by decide) (by decide) rfl (fun ls hl => ?_)
              refine lv_goto (tgt := 117) hx hb dX1_init_139 (by decide) ?_
              refine lv_iload_n hx hb dX1_init_117 rfl (lv_at hl 0 rfl) ?_
              refine lv_bipush (v := (nI 9)) hx hb dX1_init_118 (by decide) ?_
              refine lv_icmp_ge (tgt := 142) hx hb dX1_init_120 (by decide) (fun c7 => ?_) (fun c7 => ?_)
              · skip
                have c7 := c7
                exact absurd c7 (by decide)
              · skip
                have c7 := c7
                refine lv_aload_n hx hb dX1_init_123 rfl (lv_at hl 2 rfl) ?_
                refine va_get (D := (dC, dI)) (ci := 1) (v := .ref b1) (C := RX1) (T := TX1) (N := 14) hx hb hts (by decide +kernel) hown hK hP 0 rfl rfl 2 (by decide) (hts (.fieldLink RX1 7 "MotionDeskModel" "poses" "[I") (by decide +kernel)) (fun _ h9 => h9) rfl dX1_init_124 ?_
                refine lv_bipush (v := (nI 9)) hx hb dX1_init_127 (by decide) ?_
                refine lv_iload_n hx hb dX1_init_129 rfl (lv_at hl 1 rfl) ?_
                refine lv_imul hx hb dX1_init_130 ?_
                refine tp_i (y := nI (k * 9)) (by rw [pk_mul, Nat.mul_comm]) ?_
                refine lv_iload_n hx hb dX1_init_131 rfl (lv_at hl 0 rfl) ?_
                refine lv_iadd hx hb dX1_init_132 ?_
                refine tp_i (y := nI ((k * 3 + 2) * 3 + 2)) (by rw [nI_add, show k * 9 + 8 = (k * 3 + 2) * 3 + 2 by omega]) ?_
                refine lv_ldc (v := 65536) hx hb hown (hts (.constant RX1 41 65536) (by decide +kernel)) dX1_init_133 ?_
                refine va_iast hx hb hK hP hD hS 1 0 rfl rfl (vp_in_nI (by omega) (by omega)) dX1_init_135 (fun H locs hP hD hS => ?_)
                rw [nI_clamp (show (k * 3 + 2) * 3 + 2 < 2 ^ 31 by omega)] at hP hD
                replace hP : va_P (dC, dI) vwCl [(g0, .inr (1, [.int (nI 0), .int (nI N), .ref b1, .int (nI 0), .int (nI 0), .ref b8, .ref b9, .int (nI 0), .ref b2, .ref b3, .ref b4, .ref b5, .ref b6, .ref b7])), (b1, .inl (cA, 432, .inl (upd (upd (upd (ini k) ((k * 3 + 2) * 3 + 0) 65536) ((k * 3 + 2) * 3 + 1) 65536) ((k * 3 + 2) * 3 + 2) 65536))), (b8, .inl (cA, 32, .inl (fun _ => 0))), (b9, .inl (cA, 96, .inl (fun _ => 0))), (b2, .inl (cA, 32, .inl (fun _ => 0))), (b3, .inl (cA, 32, .inl (fun _ => 0))), (b4, .inl (cA, 32, .inl (fun _ => 0))), (b5, .inl (cA, 32, .inl (fun _ => 0))), (b6, .inl (cA, 1024, .inl (fun _ => 0))), (b7, .inl (cA, 3072, .inl (fun _ => 0)))] H := hP
                replace hD : va_D A [(g0, .inr (1, [.int (nI 0), .int (nI N), .ref b1, .int (nI 0), .int (nI 0), .ref b8, .ref b9, .int (nI 0), .ref b2, .ref b3, .ref b4, .ref b5, .ref b6, .ref b7])), (b1, .inl (cA, 432, .inl (upd (upd (upd (ini k) ((k * 3 + 2) * 3 + 0) 65536) ((k * 3 + 2) * 3 + 1) 65536) ((k * 3 + 2) * 3 + 2) 65536))), (b8, .inl (cA, 32, .inl (fun _ => 0))), (b9, .inl (cA, 96, .inl (fun _ => 0))), (b2, .inl (cA, 32, .inl (fun _ => 0))), (b3, .inl (cA, 32, .inl (fun _ => 0))), (b4, .inl (cA, 32, .inl (fun _ => 0))), (b5, .inl (cA, 32, .inl (fun _ => 0))), (b6, .inl (cA, 1024, .inl (fun _ => 0))), (b7, .inl (cA, 3072, .inl (fun _ => 0)))] := hD
                refine lv_iinc (v := nI 9) (lv' := [(3, .int (nI 9)), (2, .int (nI k)), (0, .ref g0), (1, .int x)]) hx hb dX1_init_136 hl (k := 0) rfl (by decide) (by decide) rfl (fun ls hl => ?_)
                refine lv_goto (tgt := 117) hx hb dX1_init_139 (by decide) ?_
                refine lv_iload_n hx hb dX1_init_117 rfl (lv_at hl 0 rfl) ?_
                refine lv_bipush (v := (nI 9)) hx hb dX1_init_118 (by decide) ?_
                refine lv_icmp_ge (tgt := 142) hx hb dX1_init_120 (by decide) (fun c8 => ?_) (fun c8 => ?_)
                · skip
                  have c8 := c8
                  refine lv_iinc (v := nI (k + 1)) (lv' := [(2, .int (nI (k + 1))), (3, .int (nI 9)), (0, .ref g0), (1, .int x)]) hx hb dX1_init_142 hl (k := 1) rfl (nI_1 k) (by decide) rfl (fun ls hl => ?_)
                  refine lv_goto (tgt := 106) hx hb dX1_init_145 (by decide) ?_
                  rw [ini_upd k] at hP hD
                  exact ih (ls := ls) (k := k + 1) (H := H) (locs := locs) hS (by omega) (lv_sub hl [0, 2, 3] rfl) hP hD
                · skip
                  have c8 := c8
                  exact absurd c8 (by decide)
    · skip
      have c2 := znle c2
      refine lv_bipush (v := (nI 48)) hx hb dX1_init_95 (by decide) ?_
      refine lv_goto (tgt := 101) hx hb dX1_init_97 (by decide) ?_
      have hz : N = cl48 x := eN.symm
      unfold cl48 at hz
      refine tp_i (y := nI N) (by rw [if_neg (by omega), if_pos (by omega)] at hz; rw [hz]) ?_
      clear hz
      refine va_putF (D := (dC, dI)) (ci := 1) (v := .int (nI N)) (ty := .int) (C := RX1) (T := TX1) (N := 14) hx hb hts (by decide +kernel) tyX1 tyX1_ok nmX1 hown hK hP hD hS 0 rfl rfl 1 (by decide) (hts (.fieldLink RX1 37 "MotionDeskModel" "nodes" "I") (by decide +kernel)) (fun _ h9 => h9) rfl hin rfl (by decide +kernel) rfl rfl (Nat.le_of_ble_eq_true rfl) dX1_init_101 (fun H locs hP hD hS => ?_)
      replace hP : va_P (dC, dI) vwCl [(g0, .inr (1, [.int (nI 0), .int (nI N), .ref b1, .int (nI 0), .int (nI 0), .ref b8, .ref b9, .int (nI 0), .ref b2, .ref b3, .ref b4, .ref b5, .ref b6, .ref b7])), (b1, .inl (cA, 432, .inl (ini 0))), (b8, .inl (cA, 32, .inl (fun _ => 0))), (b9, .inl (cA, 96, .inl (fun _ => 0))), (b2, .inl (cA, 32, .inl (fun _ => 0))), (b3, .inl (cA, 32, .inl (fun _ => 0))), (b4, .inl (cA, 32, .inl (fun _ => 0))), (b5, .inl (cA, 32, .inl (fun _ => 0))), (b6, .inl (cA, 1024, .inl (fun _ => 0))), (b7, .inl (cA, 3072, .inl (fun _ => 0)))] H := hP
      replace hD : va_D A [(g0, .inr (1, [.int (nI 0), .int (nI N), .ref b1, .int (nI 0), .int (nI 0), .ref b8, .ref b9, .int (nI 0), .ref b2, .ref b3, .ref b4, .ref b5, .ref b6, .ref b7])), (b1, .inl (cA, 432, .inl (ini 0))), (b8, .inl (cA, 32, .inl (fun _ => 0))), (b9, .inl (cA, 96, .inl (fun _ => 0))), (b2, .inl (cA, 32, .inl (fun _ => 0))), (b3, .inl (cA, 32, .inl (fun _ => 0))), (b4, .inl (cA, 32, .inl (fun _ => 0))), (b5, .inl (cA, 32, .inl (fun _ => 0))), (b6, .inl (cA, 1024, .inl (fun _ => 0))), (b7, .inl (cA, 3072, .inl (fun _ => 0)))] := hD
      refine lv_iconst (v := (nI 0)) hx hb dX1_init_104 (by decide) ?_
      refine lv_istore_n (lv' := [(2, .int (nI 0)), (0, .ref g0), (1, .int x)]) hx hb dX1_init_105 rfl hl (by decide) rfl (fun ls hl => ?_)
      obtain ⟨n, k, hn, hP9, hD9, hl9⟩ : ∃ (n k : Nat), k + n = N ∧ va_P (dC, dI) vwCl [(g0, .inr (1, [.int (nI 0), .int (nI N), .ref b1, .int (nI 0), .int (nI 0), .ref b8, .ref b9, .int (nI 0), .ref b2, .ref b3, .ref b4, .ref b5, .ref b6, .ref b7])), (b1, .inl (cA, 432, .inl (ini k))), (b8, .inl (cA, 32, .inl (fun _ => 0))), (b9, .inl (cA, 96, .inl (fun _ => 0))), (b2, .inl (cA, 32, .inl (fun _ => 0))), (b3, .inl (cA, 32, .inl (fun _ => 0))), (b4, .inl (cA, 32, .inl (fun _ => 0))), (b5, .inl (cA, 32, .inl (fun _ => 0))), (b6, .inl (cA, 1024, .inl (fun _ => 0))), (b7, .inl (cA, 3072, .inl (fun _ => 0)))] H ∧ va_D A [(g0, .inr (1, [.int (nI 0), .int (nI N), .ref b1, .int (nI 0), .int (nI 0), .ref b8, .ref b9, .int (nI 0), .ref b2, .ref b3, .ref b4, .ref b5, .ref b6, .ref b7])), (b1, .inl (cA, 432, .inl (ini k))), (b8, .inl (cA, 32, .inl (fun _ => 0))), (b9, .inl (cA, 96, .inl (fun _ => 0))), (b2, .inl (cA, 32, .inl (fun _ => 0))), (b3, .inl (cA, 32, .inl (fun _ => 0))), (b4, .inl (cA, 32, .inl (fun _ => 0))), (b5, .inl (cA, 32, .inl (fun _ => 0))), (b6, .inl (cA, 1024, .inl (fun _ => 0))), (b7, .inl (cA, 3072, .inl (fun _ => 0)))] ∧ lv_has ls 4 [(2, .int (nI k)), (0, .ref g0), (1, .int x)] := ⟨N, 0, by omega, hP, hD, hl⟩
      clear hl hP hD; have hl := hl9; have hP := hP9; have hD := hD9; clear hl9 hP9 hD9
      induction n generalizing k ls H locs with
      | zero =>
        have t2 : (nI k).toInt = k := nI_toInt (by omega)
        refine lv_iload_n hx hb dX1_init_106 rfl (lv_at hl 0 rfl) ?_
        refine lv_aload_n hx hb dX1_init_107 rfl (lv_at hl 1 rfl) ?_
        refine va_get (D := (dC, dI)) (ci := 1) (v := .int (nI N)) (C := RX1) (T := TX1) (N := 14) hx hb hts (by decide +kernel) hown hK hP 0 rfl rfl 1 (by decide) (hts (.fieldLink RX1 37 "MotionDeskModel" "nodes" "I") (by decide +kernel)) (fun _ h9 => h9) rfl dX1_init_108 ?_
        refine lv_icmp_ge (tgt := 148) hx hb dX1_init_111 (by decide) (fun c9 => ?_) (fun c9 => ?_)
        · skip
          have c9 := zle c9
          refine W.widen (k := 9) (n := 4784) (by omega) (by omega) ?_
          obtain rfl : k = N := by omega
          have hP9 := hP.sub (ws' := (wM cA g0 b1 b2 b3 b4 b5 b6 b7 b8 b9 k 0 0 (nI 0) (ini k) (fun _ => 0) (fun _ => 0) (fun _ => 0) (fun _ => 0) (fun _ => 0) (fun _ => 0) (fun _ => 0) (fun _ => 0))) [0, 1, 4, 5, 6, 7, 8, 9, 2, 3] rfl
          have hD9 := hD.sub (ws' := (wM cA g0 b1 b2 b3 b4 b5 b6 b7 b8 b9 k 0 0 (nI 0) (ini k) (fun _ => 0) (fun _ => 0) (fun _ => 0) (fun _ => 0) (fun _ => 0) (fun _ => 0) (fun _ => 0) (fun _ => 0))) [0, 1, 4, 5, 6, 7, 8, 9, 2, 3] (by decide) rfl
          exact W.vret hx hb hr (fun t9 ht9 hW9 => ⟨⟨(), rfl, trivial, b1, b2, b3, b4, b5, b6, b7, b8, b9, by rw [ht9]; exact hP9, va_K.moved hW9.alike hK, hD9⟩, hS.F ht9⟩) hS.2.2 dX1_init_148
        · skip
          have c9 := znle c9
          exfalso; omega
      | succ n ih =>
        have t2 : (nI k).toInt = k := nI_toInt (by omega)
        refine lv_iload_n hx hb dX1_init_106 rfl (lv_at hl 0 rfl) ?_
        refine lv_aload_n hx hb dX1_init_107 rfl (lv_at hl 1 rfl) ?_
        refine va_get (D := (dC, dI)) (ci := 1) (v := .int (nI N)) (C := RX1) (T := TX1) (N := 14) hx hb hts (by decide +kernel) hown hK hP 0 rfl rfl 1 (by decide) (hts (.fieldLink RX1 37 "MotionDeskModel" "nodes" "I") (by decide +kernel)) (fun _ h9 => h9) rfl dX1_init_108 ?_
        refine lv_icmp_ge (tgt := 148) hx hb dX1_init_111 (by decide) (fun c10 => ?_) (fun c10 => ?_)
        · skip
          have c10 := zle c10
          exfalso; omega
        · skip
          have c10 := znle c10
          refine lv_bipush (v := (nI 6)) hx hb dX1_init_114 (by decide) ?_
          refine lv_istore_n (lv' := [(3, .int (nI 6)), (2, .int (nI k)), (0, .ref g0), (1, .int x)]) hx hb dX1_init_116 rfl hl (by decide) rfl (fun ls hl => ?_)
          refine lv_iload_n hx hb dX1_init_117 rfl (lv_at hl 0 rfl) ?_
          refine lv_bipush (v := (nI 9)) hx hb dX1_init_118 (by decide) ?_
          refine lv_icmp_ge (tgt := 142) hx hb dX1_init_120 (by decide) (fun c11 => ?_) (fun c11 => ?_)
          · skip
            have c11 := c11
            exact absurd c11 (by decide)
          · skip
            have c11 := c11
            refine lv_aload_n hx hb dX1_init_123 rfl (lv_at hl 2 rfl) ?_
            refine va_get (D := (dC, dI)) (ci := 1) (v := .ref b1) (C := RX1) (T := TX1) (N := 14) hx hb hts (by decide +kernel) hown hK hP 0 rfl rfl 2 (by decide) (hts (.fieldLink RX1 7 "MotionDeskModel" "poses" "[I") (by decide +kernel)) (fun _ h9 => h9) rfl dX1_init_124 ?_
            refine lv_bipush (v := (nI 9)) hx hb dX1_init_127 (by decide) ?_
            refine lv_iload_n hx hb dX1_init_129 rfl (lv_at hl 1 rfl) ?_
            refine lv_imul hx hb dX1_init_130 ?_
            refine tp_i (y := nI (k * 9)) (by rw [pk_mul, Nat.mul_comm]) ?_
            refine lv_iload_n hx hb dX1_init_131 rfl (lv_at hl 0 rfl) ?_
            refine lv_iadd hx hb dX1_init_132 ?_
            refine tp_i (y := nI ((k * 3 + 2) * 3 + 0)) (by rw [nI_add, show k * 9 + 6 = (k * 3 + 2) * 3 + 0 by omega]) ?_
            refine lv_ldc (v := 65536) hx hb hown (hts (.constant RX1 41 65536) (by decide +kernel)) dX1_init_133 ?_
            refine va_iast hx hb hK hP hD hS 1 0 rfl rfl (vp_in_nI (by omega) (by omega)) dX1_init_135 (fun H locs hP hD hS => ?_)
            rw [nI_clamp (show (k * 3 + 2) * 3 + 0 < 2 ^ 31 by omega)] at hP hD
            replace hP : va_P (dC, dI) vwCl [(g0, .inr (1, [.int (nI 0), .int (nI N), .ref b1, .int (nI 0), .int (nI 0), .ref b8, .ref b9, .int (nI 0), .ref b2, .ref b3, .ref b4, .ref b5, .ref b6, .ref b7])), (b1, .inl (cA, 432, .inl (upd (ini k) ((k * 3 + 2) * 3 + 0) 65536))), (b8, .inl (cA, 32, .inl (fun _ => 0))), (b9, .inl (cA, 96, .inl (fun _ => 0))), (b2, .inl (cA, 32, .inl (fun _ => 0))), (b3, .inl (cA, 32, .inl (fun _ => 0))), (b4, .inl (cA, 32, .inl (fun _ => 0))), (b5, .inl (cA, 32, .inl (fun _ => 0))), (b6, .inl (cA, 1024, .inl (fun _ => 0))), (b7, .inl (cA, 3072, .inl (fun _ => 0)))] H := hP
            replace hD : va_D A [(g0, .inr (1, [.int (nI 0), .int (nI N), .ref b1, .int (nI 0), .int (nI 0), .ref b8, .ref b9, .int (nI 0), .ref b2, .ref b3, .ref b4, .ref b5, .ref b6, .ref b7])), (b1, .inl (cA, 432, .inl (upd (ini k) ((k * 3 + 2) * 3 + 0) 65536))), (b8, .inl (cA, 32, .inl (fun _ => 0))), (b9, .inl (cA, 96, .inl (fun _ => 0))), (b2, .inl (cA, 32, .inl (fun _ => 0))), (b3, .inl (cA, 32, .inl (fun _ => 0))), (b4, .inl (cA, 32, .inl (fun _ => 0))), (b5, .inl (cA, 32, .inl (fun _ => 0))), (b6, .inl (cA, 1024, .inl (fun _ => 0))), (b7, .inl (cA, 3072, .inl (fun _ => 0)))] := hD
            refine lv_iinc (v := nI 7) (lv' := [(3, .int (nI 7)), (2, .int (nI k)), (0, .ref g0), (1, .int x)]) hx hb dX1_init_136 hl (k := 0) rfl (by decide) (by decide) rfl (fun ls hl => ?_)
            refine lv_goto (tgt := 117) hx hb dX1_init_139 (by decide) ?_
            refine lv_iload_n hx hb dX1_init_117 rfl (lv_at hl 0 rfl) ?_
            refine lv_bipush (v := (nI 9)) hx hb dX1_init_118 (by decide) ?_
            refine lv_icmp_ge (tgt := 142) hx hb dX1_init_120 (by decide) (fun c12 => ?_) (fun c12 => ?_)
            · skip
              have c12 := c12
              exact absurd c12 (by decide)
            · skip
              have c12 := c12
              refine lv_aload_n hx hb dX1_init_123 rfl (lv_at hl 2 rfl) ?_
              refine va_get (D := (dC, dI)) (ci := 1) (v := .ref b1) (C := RX1) (T := TX1) (N := 14) hx hb hts (by decide +kernel) hown hK hP 0 rfl rfl 2 (by decide) (hts (.fieldLink RX1 7 "MotionDeskModel" "poses" "[I") (by decide +kernel)) (fun _ h9 => h9) rfl dX1_init_124 ?_
              refine lv_bipush (v := (nI 9)) hx hb dX1_init_127 (by decide) ?_
              refine lv_iload_n hx hb dX1_init_129 rfl (lv_at hl 1 rfl) ?_
              refine lv_imul hx hb dX1_init_130 ?_
              refine tp_i (y := nI (k * 9)) (by rw [pk_mul, Nat.mul_comm]) ?_
              refine lv_iload_n hx hb dX1_init_131 rfl (lv_at hl 0 rfl) ?_
              refine lv_iadd hx hb dX1_init_132 ?_
              refine tp_i (y := nI ((k * 3 + 2) * 3 + 1)) (by rw [nI_add, show k * 9 + 7 = (k * 3 + 2) * 3 + 1 by omega]) ?_
              refine lv_ldc (v := 65536) hx hb hown (hts (.constant RX1 41 65536) (by decide +kernel)) dX1_init_133 ?_
              refine va_iast hx hb hK hP hD hS 1 0 rfl rfl (vp_in_nI (by omega) (by omega)) dX1_init_135 (fun H locs hP hD hS => ?_)
              rw [nI_clamp (show (k * 3 + 2) * 3 + 1 < 2 ^ 31 by omega)] at hP hD
              replace hP : va_P (dC, dI) vwCl [(g0, .inr (1, [.int (nI 0), .int (nI N), .ref b1, .int (nI 0), .int (nI 0), .ref b8, .ref b9, .int (nI 0), .ref b2, .ref b3, .ref b4, .ref b5, .ref b6, .ref b7])), (b1, .inl (cA, 432, .inl (upd (upd (ini k) ((k * 3 + 2) * 3 + 0) 65536) ((k * 3 + 2) * 3 + 1) 65536))), (b8, .inl (cA, 32, .inl (fun _ => 0))), (b9, .inl (cA, 96, .inl (fun _ => 0))), (b2, .inl (cA, 32, .inl (fun _ => 0))), (b3, .inl (cA, 32, .inl (fun _ => 0))), (b4, .inl (cA, 32, .inl (fun _ => 0))), (b5, .inl (cA, 32, .inl (fun _ => 0))), (b6, .inl (cA, 1024, .inl (fun _ => 0))), (b7, .inl (cA, 3072, .inl (fun _ => 0)))] H := hP
              replace hD : va_D A [(g0, .inr (1, [.int (nI 0), .int (nI N), .ref b1, .int (nI 0), .int (nI 0), .ref b8, .ref b9, .int (nI 0), .ref b2, .ref b3, .ref b4, .ref b5, .ref b6, .ref b7])), (b1, .inl (cA, 432, .inl (upd (upd (ini k) ((k * 3 + 2) * 3 + 0) 65536) ((k * 3 + 2) * 3 + 1) 65536))), (b8, .inl (cA, 32, .inl (fun _ => 0))), (b9, .inl (cA, 96, .inl (fun _ => 0))), (b2, .inl (cA, 32, .inl (fun _ => 0))), (b3, .inl (cA, 32, .inl (fun _ => 0))), (b4, .inl (cA, 32, .inl (fun _ => 0))), (b5, .inl (cA, 32, .inl (fun _ => 0))), (b6, .inl (cA, 1024, .inl (fun _ => 0))), (b7, .inl (cA, 3072, .inl (fun _ => 0)))] := hD
              refine lv_iinc (v := nI 8) (lv' := [(3, .int (nI 8)), (2, .int (nI k)), (0, .ref g0), (1, .int x)]) hx hb dX1_init_136 hl (k := 0) rfl (by decide) (by decide) rfl (fun ls hl => ?_)
              refine lv_goto (tgt := 117) hx hb dX1_init_139 (by decide) ?_
              refine lv_iload_n hx hb dX1_init_117 rfl (lv_at hl 0 rfl) ?_
              refine lv_bipush (v := (nI 9)) hx hb dX1_init_118 (by decide) ?_
              refine lv_icmp_ge (tgt := 142) hx hb dX1_init_120 (by decide) (fun c13 => ?_) (fun c13 => ?_)
              · skip
                have c13 := c13
                exact absurd c13 (by decide)
              · skip
                have c13 := c13
                refine lv_aload_n hx hb dX1_init_123 rfl (lv_at hl 2 rfl) ?_
                refine va_get (D := (dC, dI)) (ci := 1) (v := .ref b1) (C := RX1) (T := TX1) (N := 14) hx hb hts (by decide +kernel) hown hK hP 0 rfl rfl 2 (by decide) (hts (.fieldLink RX1 7 "MotionDeskModel" "poses" "[I") (by decide +kernel)) (fun _ h9 => h9) rfl dX1_init_124 ?_
                refine lv_bipush (v := (nI 9)) hx hb dX1_init_127 (by decide) ?_
                refine lv_iload_n hx hb dX1_init_129 rfl (lv_at hl 1 rfl) ?_
                refine lv_imul hx hb dX1_init_130 ?_
                refine tp_i (y := nI (k * 9)) (by rw [pk_mul, Nat.mul_comm]) ?_
                refine lv_iload_n hx hb dX1_init_131 rfl (lv_at hl 0 rfl) ?_
                refine lv_iadd hx hb dX1_init_132 ?_
                refine tp_i (y := nI ((k * 3 + 2) * 3 + 2)) (by rw [nI_add, show k * 9 + 8 = (k * 3 + 2) * 3 + 2 by omega]) ?_
                refine lv_ldc (v := 65536) hx hb hown (hts (.constant RX1 41 65536) (by decide +kernel)) dX1_init_133 ?_
                refine va_iast hx hb hK hP hD hS 1 0 rfl rfl (vp_in_nI (by omega) (by omega)) dX1_init_135 (fun H locs hP hD hS => ?_)
                rw [nI_clamp (show (k * 3 + 2) * 3 + 2 < 2 ^ 31 by omega)] at hP hD
                replace hP : va_P (dC, dI) vwCl [(g0, .inr (1, [.int (nI 0), .int (nI N), .ref b1, .int (nI 0), .int (nI 0), .ref b8, .ref b9, .int (nI 0), .ref b2, .ref b3, .ref b4, .ref b5, .ref b6, .ref b7])), (b1, .inl (cA, 432, .inl (upd (upd (upd (ini k) ((k * 3 + 2) * 3 + 0) 65536) ((k * 3 + 2) * 3 + 1) 65536) ((k * 3 + 2) * 3 + 2) 65536))), (b8, .inl (cA, 32, .inl (fun _ => 0))), (b9, .inl (cA, 96, .inl (fun _ => 0))), (b2, .inl (cA, 32, .inl (fun _ => 0))), (b3, .inl (cA, 32, .inl (fun _ => 0))), (b4, .inl (cA, 32, .inl (fun _ => 0))), (b5, .inl (cA, 32, .inl (fun _ => 0))), (b6, .inl (cA, 1024, .inl (fun _ => 0))), (b7, .inl (cA, 3072, .inl (fun _ => 0)))] H := hP
                replace hD : va_D A [(g0, .inr (1, [.int (nI 0), .int (nI N), .ref b1, .int (nI 0), .int (nI 0), .ref b8, .ref b9, .int (nI 0), .ref b2, .ref b3, .ref b4, .ref b5, .ref b6, .ref b7])), (b1, .inl (cA, 432, .inl (upd (upd (upd (ini k) ((k * 3 + 2) * 3 + 0) 65536) ((k * 3 + 2) * 3 + 1) 65536) ((k * 3 + 2) * 3 + 2) 65536))), (b8, .inl (cA, 32, .inl (fun _ => 0))), (b9, .inl (cA, 96, .inl (fun _ => 0))), (b2, .inl (cA, 32, .inl (fun _ => 0))), (b3, .inl (cA, 32, .inl (fun _ => 0))), (b4, .inl (cA, 32, .inl (fun _ => 0))), (b5, .inl (cA, 32, .inl (fun _ => 0))), (b6, .inl (cA, 1024, .inl (fun _ => 0))), (b7, .inl (cA, 3072, .inl (fun _ => 0)))] := hD
                refine lv_iinc (v := nI 9) (lv' := [(3, .int (nI 9)), (2, .int (nI k)), (0, .ref g0), (1, .int x)]) hx hb dX1_init_136 hl (k := 0) rfl (by decide) (by decide) rfl (fun ls hl => ?_)
                refine lv_goto (tgt := 117) hx hb dX1_init_139 (by decide) ?_
                refine lv_iload_n hx hb dX1_init_117 rfl (lv_at hl 0 rfl) ?_
                refine lv_bipush (v := (nI 9)) hx hb dX1_init_118 (by decide) ?_
                refine lv_icmp_ge (tgt := 142) hx hb dX1_init_120 (by decide) (fun c14 => ?_) (fun c14 => ?_)
                · skip
                  have c14 := c14
                  refine lv_iinc (v := nI (k + 1)) (lv' := [(2, .int (nI (k + 1))), (3, .int (nI 9)), (0, .ref g0), (1, .int x)]) hx hb dX1_init_142 hl (k := 1) rfl (nI_1 k) (by decide) rfl (fun ls hl => ?_)
                  refine lv_goto (tgt := 106) hx hb dX1_init_145 (by decide) ?_
                  rw [ini_upd k] at hP hD
                  exact ih (ls := ls) (k := k + 1) (H := H) (locs := locs) hS (by omega) (lv_sub hl [0, 2, 3] rfl) hP hD
                · skip
                  have c14 := c14
                  exact absurd c14 (by decide)
  · skip
    have c1 := znle c1
    refine lv_iconst (v := (nI 1)) hx hb dX1_init_85 (by decide) ?_
    refine lv_goto (tgt := 101) hx hb dX1_init_86 (by decide) ?_
    have hz : N = cl48 x := eN.symm
    unfold cl48 at hz
    refine tp_i (y := nI N) (by rw [if_pos (by omega)] at hz; rw [hz]) ?_
    clear hz
    refine va_putF (D := (dC, dI)) (ci := 1) (v := .int (nI N)) (ty := .int) (C := RX1) (T := TX1) (N := 14) hx hb hts (by decide +kernel) tyX1 tyX1_ok nmX1 hown hK hP hD hS 0 rfl rfl 1 (by decide) (hts (.fieldLink RX1 37 "MotionDeskModel" "nodes" "I") (by decide +kernel)) (fun _ h9 => h9) rfl hin rfl (by decide +kernel) rfl rfl (Nat.le_of_ble_eq_true rfl) dX1_init_101 (fun H locs hP hD hS => ?_)
    replace hP : va_P (dC, dI) vwCl [(g0, .inr (1, [.int (nI 0), .int (nI N), .ref b1, .int (nI 0), .int (nI 0), .ref b8, .ref b9, .int (nI 0), .ref b2, .ref b3, .ref b4, .ref b5, .ref b6, .ref b7])), (b1, .inl (cA, 432, .inl (ini 0))), (b8, .inl (cA, 32, .inl (fun _ => 0))), (b9, .inl (cA, 96, .inl (fun _ => 0))), (b2, .inl (cA, 32, .inl (fun _ => 0))), (b3, .inl (cA, 32, .inl (fun _ => 0))), (b4, .inl (cA, 32, .inl (fun _ => 0))), (b5, .inl (cA, 32, .inl (fun _ => 0))), (b6, .inl (cA, 1024, .inl (fun _ => 0))), (b7, .inl (cA, 3072, .inl (fun _ => 0)))] H := hP
    replace hD : va_D A [(g0, .inr (1, [.int (nI 0), .int (nI N), .ref b1, .int (nI 0), .int (nI 0), .ref b8, .ref b9, .int (nI 0), .ref b2, .ref b3, .ref b4, .ref b5, .ref b6, .ref b7])), (b1, .inl (cA, 432, .inl (ini 0))), (b8, .inl (cA, 32, .inl (fun _ => 0))), (b9, .inl (cA, 96, .inl (fun _ => 0))), (b2, .inl (cA, 32, .inl (fun _ => 0))), (b3, .inl (cA, 32, .inl (fun _ => 0))), (b4, .inl (cA, 32, .inl (fun _ => 0))), (b5, .inl (cA, 32, .inl (fun _ => 0))), (b6, .inl (cA, 1024, .inl (fun _ => 0))), (b7, .inl (cA, 3072, .inl (fun _ => 0)))] := hD
    refine lv_iconst (v := (nI 0)) hx hb dX1_init_104 (by decide) ?_
    refine lv_istore_n (lv' := [(2, .int (nI 0)), (0, .ref g0), (1, .int x)]) hx hb dX1_init_105 rfl hl (by decide) rfl (fun ls hl => ?_)
    obtain ⟨n, k, hn, hP9, hD9, hl9⟩ : ∃ (n k : Nat), k + n = N ∧ va_P (dC, dI) vwCl [(g0, .inr (1, [.int (nI 0), .int (nI N), .ref b1, .int (nI 0), .int (nI 0), .ref b8, .ref b9, .int (nI 0), .ref b2, .ref b3, .ref b4, .ref b5, .ref b6, .ref b7])), (b1, .inl (cA, 432, .inl (ini k))), (b8, .inl (cA, 32, .inl (fun _ => 0))), (b9, .inl (cA, 96, .inl (fun _ => 0))), (b2, .inl (cA, 32, .inl (fun _ => 0))), (b3, .inl (cA, 32, .inl (fun _ => 0))), (b4, .inl (cA, 32, .inl (fun _ => 0))), (b5, .inl (cA, 32, .inl (fun _ => 0))), (b6, .inl (cA, 1024, .inl (fun _ => 0))), (b7, .inl (cA, 3072, .inl (fun _ => 0)))] H ∧ va_D A [(g0, .inr (1, [.int (nI 0), .int (nI N), .ref b1, .int (nI 0), .int (nI 0), .ref b8, .ref b9, .int (nI 0), .ref b2, .ref b3, .ref b4, .ref b5, .ref b6, .ref b7])), (b1, .inl (cA, 432, .inl (ini k))), (b8, .inl (cA, 32, .inl (fun _ => 0))), (b9, .inl (cA, 96, .inl (fun _ => 0))), (b2, .inl (cA, 32, .inl (fun _ => 0))), (b3, .inl (cA, 32, .inl (fun _ => 0))), (b4, .inl (cA, 32, .inl (fun _ => 0))), (b5, .inl (cA, 32, .inl (fun _ => 0))), (b6, .inl (cA, 1024, .inl (fun _ => 0))), (b7, .inl (cA, 3072, .inl (fun _ => 0)))] ∧ lv_has ls 4 [(2, .int (nI k)), (0, .ref g0), (1, .int x)] := ⟨N, 0, by omega, hP, hD, hl⟩
    clear hl hP hD; have hl := hl9; have hP := hP9; have hD := hD9; clear hl9 hP9 hD9
    induction n generalizing k ls H locs with
    | zero =>
      have t2 : (nI k).toInt = k := nI_toInt (by omega)
      refine lv_iload_n hx hb dX1_init_106 rfl (lv_at hl 0 rfl) ?_
      refine lv_aload_n hx hb dX1_init_107 rfl (lv_at hl 1 rfl) ?_
      refine va_get (D := (dC, dI)) (ci := 1) (v := .int (nI N)) (C := RX1) (T := TX1) (N := 14) hx hb hts (by decide +kernel) hown hK hP 0 rfl rfl 1 (by decide) (hts (.fieldLink RX1 37 "MotionDeskModel" "nodes" "I") (by decide +kernel)) (fun _ h9 => h9) rfl dX1_init_108 ?_
      refine lv_icmp_ge (tgt := 148) hx hb dX1_init_111 (by decide) (fun c15 => ?_) (fun c15 => ?_)
      · skip
        have c15 := zle c15
        refine W.widen (k := 9) (n := 4784) (by omega) (by omega) ?_
        obtain rfl : k = N := by omega
        have hP9 := hP.sub (ws' := (wM cA g0 b1 b2 b3 b4 b5 b6 b7 b8 b9 k 0 0 (nI 0) (ini k) (fun _ => 0) (fun _ => 0) (fun _ => 0) (fun _ => 0) (fun _ => 0) (fun _ => 0) (fun _ => 0) (fun _ => 0))) [0, 1, 4, 5, 6, 7, 8, 9, 2, 3] rfl
        have hD9 := hD.sub (ws' := (wM cA g0 b1 b2 b3 b4 b5 b6 b7 b8 b9 k 0 0 (nI 0) (ini k) (fun _ => 0) (fun _ => 0) (fun _ => 0) (fun _ => 0) (fun _ => 0) (fun _ => 0) (fun _ => 0) (fun _ => 0))) [0, 1, 4, 5, 6, 7, 8, 9, 2, 3] (by decide) rfl
        exact W.vret hx hb hr (fun t9 ht9 hW9 => ⟨⟨(), rfl, trivial, b1, b2, b3, b4, b5, b6, b7, b8, b9, by rw [ht9]; exact hP9, va_K.moved hW9.alike hK, hD9⟩, hS.F ht9⟩) hS.2.2 dX1_init_148
      · skip
        have c15 := znle c15
        exfalso; omega
    | succ n ih =>
      have t2 : (nI k).toInt = k := nI_toInt (by omega)
      refine lv_iload_n hx hb dX1_init_106 rfl (lv_at hl 0 rfl) ?_
      refine lv_aload_n hx hb dX1_init_107 rfl (lv_at hl 1 rfl) ?_
      refine va_get (D := (dC, dI)) (ci := 1) (v := .int (nI N)) (C := RX1) (T := TX1) (N := 14) hx hb hts (by decide +kernel) hown hK hP 0 rfl rfl 1 (by decide) (hts (.fieldLink RX1 37 "MotionDeskModel" "nodes" "I") (by decide +kernel)) (fun _ h9 => h9) rfl dX1_init_108 ?_
      refine lv_icmp_ge (tgt := 148) hx hb dX1_init_111 (by decide) (fun c16 => ?_) (fun c16 => ?_)
      · skip
        have c16 := zle c16
        exfalso; omega
      · skip
        have c16 := znle c16
        refine lv_bipush (v := (nI 6)) hx hb dX1_init_114 (by decide) ?_
        refine lv_istore_n (lv' := [(3, .int (nI 6)), (2, .int (nI k)), (0, .ref g0), (1, .int x)]) hx hb dX1_init_116 rfl hl (by decide) rfl (fun ls hl => ?_)
        refine lv_iload_n hx hb dX1_init_117 rfl (lv_at hl 0 rfl) ?_
        refine lv_bipush (v := (nI 9)) hx hb dX1_init_118 (by decide) ?_
        refine lv_icmp_ge (tgt := 142) hx hb dX1_init_120 (by decide) (fun c17 => ?_) (fun c17 => ?_)
        · skip
          have c17 := c17
          exact absurd c17 (by decide)
        · skip
          have c17 := c17
          refine lv_aload_n hx hb dX1_init_123 rfl (lv_at hl 2 rfl) ?_
          refine va_get (D := (dC, dI)) (ci := 1) (v := .ref b1) (C := RX1) (T := TX1) (N := 14) hx hb hts (by decide +kernel) hown hK hP 0 rfl rfl 2 (by decide) (hts (.fieldLink RX1 7 "MotionDeskModel" "poses" "[I") (by decide +kernel)) (fun _ h9 => h9) rfl dX1_init_124 ?_
          refine lv_bipush (v := (nI 9)) hx hb dX1_init_127 (by decide) ?_
          refine lv_iload_n hx hb dX1_init_129 rfl (lv_at hl 1 rfl) ?_
          refine lv_imul hx hb dX1_init_130 ?_
          refine tp_i (y := nI (k * 9)) (by rw [pk_mul, Nat.mul_comm]) ?_
          refine lv_iload_n hx hb dX1_init_131 rfl (lv_at hl 0 rfl) ?_
          refine lv_iadd hx hb dX1_init_132 ?_
          refine tp_i (y := nI ((k * 3 + 2) * 3 + 0)) (by rw [nI_add, show k * 9 + 6 = (k * 3 + 2) * 3 + 0 by omega]) ?_
          refine lv_ldc (v := 65536) hx hb hown (hts (.constant RX1 41 65536) (by decide +kernel)) dX1_init_133 ?_
          refine va_iast hx hb hK hP hD hS 1 0 rfl rfl (vp_in_nI (by omega) (by omega)) dX1_init_135 (fun H locs hP hD hS => ?_)
          rw [nI_clamp (show (k * 3 + 2) * 3 + 0 < 2 ^ 31 by omega)] at hP hD
          replace hP : va_P (dC, dI) vwCl [(g0, .inr (1, [.int (nI 0), .int (nI N), .ref b1, .int (nI 0), .int (nI 0), .ref b8, .ref b9, .int (nI 0), .ref b2, .ref b3, .ref b4, .ref b5, .ref b6, .ref b7])), (b1, .inl (cA, 432, .inl (upd (ini k) ((k * 3 + 2) * 3 + 0) 65536))), (b8, .inl (cA, 32, .inl (fun _ => 0))), (b9, .inl (cA, 96, .inl (fun _ => 0))), (b2, .inl (cA, 32, .inl (fun _ => 0))), (b3, .inl (cA, 32, .inl (fun _ => 0))), (b4, .inl (cA, 32, .inl (fun _ => 0))), (b5, .inl (cA, 32, .inl (fun _ => 0))), (b6, .inl (cA, 1024, .inl (fun _ => 0))), (b7, .inl (cA, 3072, .inl (fun _ => 0)))] H := hP
          replace hD : va_D A [(g0, .inr (1, [.int (nI 0), .int (nI N), .ref b1, .int (nI 0), .int (nI 0), .ref b8, .ref b9, .int (nI 0), .ref b2, .ref b3, .ref b4, .ref b5, .ref b6, .ref b7])), (b1, .inl (cA, 432, .inl (upd (ini k) ((k * 3 + 2) * 3 + 0) 65536))), (b8, .inl (cA, 32, .inl (fun _ => 0))), (b9, .inl (cA, 96, .inl (fun _ => 0))), (b2, .inl (cA, 32, .inl (fun _ => 0))), (b3, .inl (cA, 32, .inl (fun _ => 0))), (b4, .inl (cA, 32, .inl (fun _ => 0))), (b5, .inl (cA, 32, .inl (fun _ => 0))), (b6, .inl (cA, 1024, .inl (fun _ => 0))), (b7, .inl (cA, 3072, .inl (fun _ => 0)))] := hD
          refine lv_iinc (v := nI 7) (lv' := [(3, .int (nI 7)), (2, .int (nI k)), (0, .ref g0), (1, .int x)]) hx hb dX1_init_136 hl (k := 0) rfl (by decide) (by decide) rfl (fun ls hl => ?_)
          refine lv_goto (tgt := 117) hx hb dX1_init_139 (by decide) ?_
          refine lv_iload_n hx hb dX1_init_117 rfl (lv_at hl 0 rfl) ?_
          refine lv_bipush (v := (nI 9)) hx hb dX1_init_118 (by decide) ?_
          refine lv_icmp_ge (tgt := 142) hx hb dX1_init_120 (by decide) (fun c18 => ?_) (fun c18 => ?_)
          · skip
            have c18 := c18
            exact absurd c18 (by decide)
          · skip
            have c18 := c18
            refine lv_aload_n hx hb dX1_init_123 rfl (lv_at hl 2 rfl) ?_
            refine va_get (D := (dC, dI)) (ci := 1) (v := .ref b1) (C := RX1) (T := TX1) (N := 14) hx hb hts (by decide +kernel) hown hK hP 0 rfl rfl 2 (by decide) (hts (.fieldLink RX1 7 "MotionDeskModel" "poses" "[I") (by decide +kernel)) (fun _ h9 => h9) rfl dX1_init_124 ?_
            refine lv_bipush (v := (nI 9)) hx hb dX1_init_127 (by decide) ?_
            refine lv_iload_n hx hb dX1_init_129 rfl (lv_at hl 1 rfl) ?_
            refine lv_imul hx hb dX1_init_130 ?_
            refine tp_i (y := nI (k * 9)) (by rw [pk_mul, Nat.mul_comm]) ?_
            refine lv_iload_n hx hb dX1_init_131 rfl (lv_at hl 0 rfl) ?_
            refine lv_iadd hx hb dX1_init_132 ?_
            refine tp_i (y := nI ((k * 3 + 2) * 3 + 1)) (by rw [nI_add, show k * 9 + 7 = (k * 3 + 2) * 3 + 1 by omega]) ?_
            refine lv_ldc (v := 65536) hx hb hown (hts (.constant RX1 41 65536) (by decide +kernel)) dX1_init_133 ?_
            refine va_iast hx hb hK hP hD hS 1 0 rfl rfl (vp_in_nI (by omega) (by omega)) dX1_init_135 (fun H locs hP hD hS => ?_)
            rw [nI_clamp (show (k * 3 + 2) * 3 + 1 < 2 ^ 31 by omega)] at hP hD
            replace hP : va_P (dC, dI) vwCl [(g0, .inr (1, [.int (nI 0), .int (nI N), .ref b1, .int (nI 0), .int (nI 0), .ref b8, .ref b9, .int (nI 0), .ref b2, .ref b3, .ref b4, .ref b5, .ref b6, .ref b7])), (b1, .inl (cA, 432, .inl (upd (upd (ini k) ((k * 3 + 2) * 3 + 0) 65536) ((k * 3 + 2) * 3 + 1) 65536))), (b8, .inl (cA, 32, .inl (fun _ => 0))), (b9, .inl (cA, 96, .inl (fun _ => 0))), (b2, .inl (cA, 32, .inl (fun _ => 0))), (b3, .inl (cA, 32, .inl (fun _ => 0))), (b4, .inl (cA, 32, .inl (fun _ => 0))), (b5, .inl (cA, 32, .inl (fun _ => 0))), (b6, .inl (cA, 1024, .inl (fun _ => 0))), (b7, .inl (cA, 3072, .inl (fun _ => 0)))] H := hP
            replace hD : va_D A [(g0, .inr (1, [.int (nI 0), .int (nI N), .ref b1, .int (nI 0), .int (nI 0), .ref b8, .ref b9, .int (nI 0), .ref b2, .ref b3, .ref b4, .ref b5, .ref b6, .ref b7])), (b1, .inl (cA, 432, .inl (upd (upd (ini k) ((k * 3 + 2) * 3 + 0) 65536) ((k * 3 + 2) * 3 + 1) 65536))), (b8, .inl (cA, 32, .inl (fun _ => 0))), (b9, .inl (cA, 96, .inl (fun _ => 0))), (b2, .inl (cA, 32, .inl (fun _ => 0))), (b3, .inl (cA, 32, .inl (fun _ => 0))), (b4, .inl (cA, 32, .inl (fun _ => 0))), (b5, .inl (cA, 32, .inl (fun _ => 0))), (b6, .inl (cA, 1024, .inl (fun _ => 0))), (b7, .inl (cA, 3072, .inl (fun _ => 0)))] := hD
            refine lv_iinc (v := nI 8) (lv' := [(3, .int (nI 8)), (2, .int (nI k)), (0, .ref g0), (1, .int x)]) hx hb dX1_init_136 hl (k := 0) rfl (by decide) (by decide) rfl (fun ls hl => ?_)
            refine lv_goto (tgt := 117) hx hb dX1_init_139 (by decide) ?_
            refine lv_iload_n hx hb dX1_init_117 rfl (lv_at hl 0 rfl) ?_
            refine lv_bipush (v := (nI 9)) hx hb dX1_init_118 (by decide) ?_
            refine lv_icmp_ge (tgt := 142) hx hb dX1_init_120 (by decide) (fun c19 => ?_) (fun c19 => ?_)
            · skip
              have c19 := c19
              exact absurd c19 (by decide)
            · skip
              have c19 := c19
              refine lv_aload_n hx hb dX1_init_123 rfl (lv_at hl 2 rfl) ?_
              refine va_get (D := (dC, dI)) (ci := 1) (v := .ref b1) (C := RX1) (T := TX1) (N := 14) hx hb hts (by decide +kernel) hown hK hP 0 rfl rfl 2 (by decide) (hts (.fieldLink RX1 7 "MotionDeskModel" "poses" "[I") (by decide +kernel)) (fun _ h9 => h9) rfl dX1_init_124 ?_
              refine lv_bipush (v := (nI 9)) hx hb dX1_init_127 (by decide) ?_
              refine lv_iload_n hx hb dX1_init_129 rfl (lv_at hl 1 rfl) ?_
              refine lv_imul hx hb dX1_init_130 ?_
              refine tp_i (y := nI (k * 9)) (by rw [pk_mul, Nat.mul_comm]) ?_
              refine lv_iload_n hx hb dX1_init_131 rfl (lv_at hl 0 rfl) ?_
              refine lv_iadd hx hb dX1_init_132 ?_
              refine tp_i (y := nI ((k * 3 + 2) * 3 + 2)) (by rw [nI_add, show k * 9 + 8 = (k * 3 + 2) * 3 + 2 by omega]) ?_
              refine lv_ldc (v := 65536) hx hb hown (hts (.constant RX1 41 65536) (by decide +kernel)) dX1_init_133 ?_
              refine va_iast hx hb hK hP hD hS 1 0 rfl rfl (vp_in_nI (by omega) (by omega)) dX1_init_135 (fun H locs hP hD hS => ?_)
              rw [nI_clamp (show (k * 3 + 2) * 3 + 2 < 2 ^ 31 by omega)] at hP hD
              replace hP : va_P (dC, dI) vwCl [(g0, .inr (1, [.int (nI 0), .int (nI N), .ref b1, .int (nI 0), .int (nI 0), .ref b8, .ref b9, .int (nI 0), .ref b2, .ref b3, .ref b4, .ref b5, .ref b6, .ref b7])), (b1, .inl (cA, 432, .inl (upd (upd (upd (ini k) ((k * 3 + 2) * 3 + 0) 65536) ((k * 3 + 2) * 3 + 1) 65536) ((k * 3 + 2) * 3 + 2) 65536))), (b8, .inl (cA, 32, .inl (fun _ => 0))), (b9, .inl (cA, 96, .inl (fun _ => 0))), (b2, .inl (cA, 32, .inl (fun _ => 0))), (b3, .inl (cA, 32, .inl (fun _ => 0))), (b4, .inl (cA, 32, .inl (fun _ => 0))), (b5, .inl (cA, 32, .inl (fun _ => 0))), (b6, .inl (cA, 1024, .inl (fun _ => 0))), (b7, .inl (cA, 3072, .inl (fun _ => 0)))] H := hP
              replace hD : va_D A [(g0, .inr (1, [.int (nI 0), .int (nI N), .ref b1, .int (nI 0), .int (nI 0), .ref b8, .ref b9, .int (nI 0), .ref b2, .ref b3, .ref b4, .ref b5, .ref b6, .ref b7])), (b1, .inl (cA, 432, .inl (upd (upd (upd (ini k) ((k * 3 + 2) * 3 + 0) 65536) ((k * 3 + 2) * 3 + 1) 65536) ((k * 3 + 2) * 3 + 2) 65536))), (b8, .inl (cA, 32, .inl (fun _ => 0))), (b9, .inl (cA, 96, .inl (fun _ => 0))), (b2, .inl (cA, 32, .inl (fun _ => 0))), (b3, .inl (cA, 32, .inl (fun _ => 0))), (b4, .inl (cA, 32, .inl (fun _ => 0))), (b5, .inl (cA, 32, .inl (fun _ => 0))), (b6, .inl (cA, 1024, .inl (fun _ => 0))), (b7, .inl (cA, 3072, .inl (fun _ => 0)))] := hD
              refine lv_iinc (v := nI 9) (lv' := [(3, .int (nI 9)), (2, .int (nI k)), (0, .ref g0), (1, .int x)]) hx hb dX1_init_136 hl (k := 0) rfl (by decide) (by decide) rfl (fun ls hl => ?_)
              refine lv_goto (tgt := 117) hx hb dX1_init_139 (by decide) ?_
              refine lv_iload_n hx hb dX1_init_117 rfl (lv_at hl 0 rfl) ?_
              refine lv_bipush (v := (nI 9)) hx hb dX1_init_118 (by decide) ?_
              refine lv_icmp_ge (tgt := 142) hx hb dX1_init_120 (by decide) (fun c20 => ?_) (fun c20 => ?_)
              · skip
                have c20 := c20
                refine lv_iinc (v := nI (k + 1)) (lv' := [(2, .int (nI (k + 1))), (3, .int (nI 9)), (0, .ref g0), (1, .int x)]) hx hb dX1_init_142 hl (k := 1) rfl (nI_1 k) (by decide) rfl (fun ls hl => ?_)
                refine lv_goto (tgt := 106) hx hb dX1_init_145 (by decide) ?_
                rw [ini_upd k] at hP hD
                exact ih (ls := ls) (k := k + 1) (H := H) (locs := locs) hS (by omega) (lv_sub hl [0, 2, 3] rfl) hP hD
              · skip
                have c20 := c20
                exact absurd c20 (by decide)
