set_option maxHeartbeats 4000000 in
set_option maxRecDepth 100000 in
/-- MotionDesk(nodes) -/
theorem cx_init (l : Launch) (dC : Nat → ClassId) (dI : Nat → Nat → Nat) (cA : ClassId) (h0 N sz : Nat) (x : Int32) (eN : cl48 x = N) : Met l yX0_init wsX0_init ({ frames := 1, cells := 9, slots := 4784, locals := 21 }) (va_Pc [.ref h0, .int x] (fun U => U.heap.size = sz ∧ va_P (dC, dI) vwCl [(h0, .inr (0, [.int (nI 0), .null, .int (nI 0), .null, .null, .null, .null, .null, .null, .int (nI 0), .null, .null, .int (nI 0)]))] U.heap ∧ va_K (dC, dI) vwCl [(cA, .int)] U ∧ va_D (fun _ => True) [(h0, .inr (0, [.int (nI 0), .null, .int (nI 0), .null, .null, .null, .null, .null, .null, .int (nI 0), .null, .null, .int (nI 0)]))])) (va_Qv (fun (_ : Unit) => True) (fun (_ : Unit) t => ∃ a1 a2 a3 a4 a5 a6 a7 a8 a9 : Nat, bX (va_A [(h0, .inr (0, [.int (nI 0), .null, .int (nI 0), .null, .null, .null, .null, .null, .null, .int (nI 0), .null, .null, .int (nI 0)]))] sz) dC dI cA h0 a1 a2 a3 a4 a5 a6 a7 a8 a9 N 0 0 (nI 0) (ini N) (fun _ => 0) (fun _ => 0) (fun _ => 0) (fun _ => 0) (fun _ => 0) (fun _ => 0) (fun _ => 0) (fun _ => 0) t) (va_A [(h0, .inr (0, [.int (nI 0), .null, .int (nI 0), .null, .null, .null, .null, .null, .null, .int (nI 0), .null, .null, .int (nI 0)]))] sz)) 9 4784 (va_A [(h0, .inr (0, [.int (nI 0), .null, .int (nI 0), .null, .null, .null, .null, .null, .null, .int (nI 0), .null, .null, .int (nI 0)]))] sz) := by
  refine Met.ofW (cc := cX0_init) (maxL := 4) (ret := none) (by decide) rfl ?_
  intro p e s m args below meth c s₁ B hml hv
  obtain ⟨rfl, hsz, hP, hK, hD0⟩ := hv
  have hx := B.exec
  have hb := B.bytes
  have hr := B.returns
  have hts := atoms_spec (ws := wsX0_init) B.pre
  have hown : s.vm.findClass RX0 = some m.cls := findClass_of_methodNamed B.named
  have hlocks := B.notSynchronized
  have hin : meth.name = "<init>" := (name_of_methodNamed B.named B.method).1
  subst hsz
  have hD := hD0.self (sz := s.heap.size)
  generalize hAe : va_A [(h0, .inr (0, [.int (nI 0), .null, .int (nI 0), .null, .null, .null, .null, .null, .null, .int (nI 0), .null, .null, .int (nI 0)]))] s.heap.size = A at hD ⊢
  have hA : ∀ q : Nat, s.heap.size ≤ q → A q := fun q h => by rw [← hAe]; exact Or.inr h
  have hS : va_S A s.heap s.heap [] := va_S.rf
  have hP : va_P (dC, dI) vwCl [(h0, .inr (0, [.int (nI 0), .null, .int (nI 0), .null, .null, .null, .null, .null, .null, .int (nI 0), .null, .null, .int (nI 0)]))] s.heap := hP
  have hl := lv_entry ([.ref h0, .int x]) (n := 4) (Nat.le_of_ble_eq_true rfl)
  rw [lg_entry_eq]
  generalize (lg_sl ([.ref h0, .int x]) ++ List.replicate (4 - (lg_sl ([.ref h0, .int x])).length) Slot.unset).toArray = ls at hl ⊢
  have hl : lv_has ls 4 [(0, .ref h0), (1, .int x)] := hl
  have hN : 1 ≤ N ∧ N ≤ 48 := by rw [← eN]; exact cl48_le x
  have t1 : (nI N).toInt = N := nI_toInt (by omega)
  refine lv_aload_n hx hb dX0_init_0 rfl (lv_at hl 0 rfl) ?_
  refine W.objInit hx hb hown (hts (.methodLink RX0 1 objectInit) (by decide +kernel)) (hts (.instanceMethod objectInit) (by decide +kernel)) (hts _ (List.mem_cons_of_mem _ (List.mem_append_left _ (List.mem_append_left _ (List.mem_of_getElem? (i := 2) rfl))))) rfl (by rw [hml]; exact hl.1) rfl dX0_init_1 (Nat.le_of_ble_eq_true rfl) (Nat.le_of_ble_eq_true rfl) ?_
  refine W.eq (g2 := F0 m 4 ls []) rfl ?_
  refine lv_aload_n hx hb dX0_init_4 rfl (lv_at hl 0 rfl) ?_
  refine lv_iconst (v := (nI 1)) hx hb dX0_init_5 (by decide) ?_
  refine lv_bipush (v := (nI 48)) hx hb dX0_init_6 (by decide) ?_
  refine lv_iload_n hx hb dX0_init_8 rfl (lv_at hl 1 rfl) ?_
  refine va_mmin hx hb (by rw [hml]; exact hl.1.symm) hown (hts (.methodLink RX0 9 Lib.Math.min.name) (by decide +kernel)) (hts (.static Lib.Math.min.name) (by decide +kernel)) (hts (.initialized "java/lang/Math") (by decide +kernel)) (hts _ (List.mem_cons_of_mem _ (List.mem_append_left _ (List.mem_append_left _ (List.mem_of_getElem? (i := 6) rfl))))) (Nat.le_of_ble_eq_true rfl) (Nat.le_of_ble_eq_true rfl) (Nat.zero_le _) (Nat.zero_le _) dX0_init_9 ?_
  refine va_mmax hx hb (by rw [hml]; exact hl.1.symm) hown (hts (.methodLink RX0 15 Lib.Math.max.name) (by decide +kernel)) (hts (.static Lib.Math.max.name) (by decide +kernel)) (hts (.initialized "java/lang/Math") (by decide +kernel)) (hts _ (List.mem_cons_of_mem _ (List.mem_append_left _ (List.mem_append_left _ (List.mem_of_getElem? (i := 9) rfl))))) (Nat.le_of_ble_eq_true rfl) (Nat.le_of_ble_eq_true rfl) (Nat.zero_le _) (Nat.zero_le _) dX0_init_12 ?_
  refine tp_i (y := nI N) (by rw [← eN]; exact cl48_eq x) ?_
  refine va_putF (D := (dC, dI)) (ci := 0) (v := .int (nI N)) (ty := .int) (C := RX0) (T := TX0) (N := 13) hx hb hts (by decide +kernel) tyX0 tyX0_ok nmX0 hown hK hP hD hS 0 rfl rfl 0 (by decide) (hts (.fieldLink RX0 18 "MotionDesk" "nodeCount" "I") (by decide +kernel)) (fun _ h9 => h9) rfl hin rfl (by decide +kernel) rfl rfl (Nat.le_of_ble_eq_true rfl) dX0_init_15 (fun H locs hP hD hS => ?_)
  replace hP : va_P (dC, dI) vwCl [(h0, .inr (0, [.int (nI N), .null, .int (nI 0), .null, .null, .null, .null, .null, .null, .int (nI 0), .null, .null, .int (nI 0)]))] H := hP
  replace hD : va_D A [(h0, .inr (0, [.int (nI N), .null, .int (nI 0), .null, .null, .null, .null, .null, .null, .int (nI 0), .null, .null, .int (nI 0)]))] := hD
  refine lv_aload_n hx hb dX0_init_18 rfl (lv_at hl 0 rfl) ?_
  refine lv_aload_n hx hb dX0_init_19 rfl (lv_at hl 0 rfl) ?_
  refine va_get (D := (dC, dI)) (ci := 0) (v := .int (nI N)) (C := RX0) (T := TX0) (N := 13) hx hb hts (by decide +kernel) hown hK hP 0 rfl rfl 0 (by decide) (hts (.fieldLink RX0 18 "MotionDesk" "nodeCount" "I") (by decide +kernel)) (fun _ h9 => h9) rfl dX0_init_20 ?_
  refine lv_iconst (v := (nI 3)) hx hb dX0_init_23 (by decide) ?_
  refine lv_imul hx hb dX0_init_24 ?_
  refine tp_i (y := nI (N * 3)) (pk_mul N 3) ?_
  refine lv_iconst (v := (nI 3)) hx hb dX0_init_25 (by decide) ?_
  refine lv_imul hx hb dX0_init_26 ?_
  refine tp_i (y := nI (N * 9)) (by rw [pk_mul, Nat.mul_assoc]) ?_
  refine va_newa (atype := .int) (a0 := ((N * 9), .inl (ini 0))) (N' := (N * 9)) (ty := .int) hx hb (hts (.arrayClass .int) (by decide +kernel)) rfl hK hP hD hS hA (fun _ => by rw [ini_z]; rfl) (nI_pos (by omega)) (nI_clamp (by omega)) (by show (N * 9) * 4 ≤ 536870912; omega) (Nat.le_of_ble_eq_true rfl) (show 0 + (N * 9) ≤ 4784 by omega) dX0_init_27 (fun a1 cB H hK hP hD hS => ?_)
  have eB : cB = cA := arr_one hK
  rw [eB] at hP hD
  have hK := hK.sub (tys' := [(cA, .int)]) [0] rfl
  replace hP : va_P (dC, dI) vwCl [(h0, .inr (0, [.int (nI N), .null, .int (nI 0), .null, .null, .null, .null, .null, .null, .int (nI 0), .null, .null, .int (nI 0)])), (a1, .inl (cA, (N * 9), .inl (ini 0)))] H := hP
  replace hD : va_D A [(h0, .inr (0, [.int (nI N), .null, .int (nI 0), .null, .null, .null, .null, .null, .null, .int (nI 0), .null, .null, .int (nI 0)])), (a1, .inl (cA, (N * 9), .inl (ini 0)))] := hD
  refine W.widen (k := 1) (n := 432) (by omega) (by omega) ?_
  refine va_putF (D := (dC, dI)) (ci := 0) (v := .ref a1) (ty := .array .int) (C := RX0) (T := TX0) (N := 13) hx hb hts (by decide +kernel) tyX0 tyX0_ok nmX0 hown hK hP hD hS 0 rfl rfl 1 (by decide) (hts (.fieldLink RX0 22 "MotionDesk" "values" "[I") (by decide +kernel)) (fun _ h9 => h9) rfl hin rfl (by decide +kernel) rfl rfl (Nat.le_of_ble_eq_true rfl) dX0_init_29 (fun H locs hP hD hS => ?_)
  replace hP : va_P (dC, dI) vwCl [(h0, .inr (0, [.int (nI N), .ref a1, .int (nI 0), .null, .null, .null, .null, .null, .null, .int (nI 0), .null, .null, .int (nI 0)])), (a1, .inl (cA, (N * 9), .inl (ini 0)))] H := hP
  replace hD : va_D A [(h0, .inr (0, [.int (nI N), .ref a1, .int (nI 0), .null, .null, .null, .null, .null, .null, .int (nI 0), .null, .null, .int (nI 0)])), (a1, .inl (cA, (N * 9), .inl (ini 0)))] := hD
  refine lv_iconst (v := (nI 0)) hx hb dX0_init_32 (by decide) ?_
  refine lv_istore_n (lv' := [(2, .int (nI 0)), (0, .ref h0), (1, .int x)]) hx hb dX0_init_33 rfl hl (by decide) rfl (fun ls hl => ?_)
  obtain ⟨n, k, hn, hP9, hD9, hl9⟩ : ∃ (n k : Nat), k + n = N ∧ va_P (dC, dI) vwCl [(h0, .inr (0, [.int (nI N), .ref a1, .int (nI 0), .null, .null, .null, .null, .null, .null, .int (nI 0), .null, .null, .int (nI 0)])), (a1, .inl (cA, (N * 9), .inl (ini k)))] H ∧ va_D A [(h0, .inr (0, [.int (nI N), .ref a1, .int (nI 0), .null, .null, .null, .null, .null, .null, .int (nI 0), .null, .null, .int (nI 0)])), (a1, .inl (cA, (N * 9), .inl (ini k)))] ∧ lv_has ls 4 [(2, .int (nI k)), (0, .ref h0), (1, .int x)] := ⟨N, 0, by omega, hP, hD, hl⟩
  clear hl hP hD; have hl := hl9; have hP := hP9; have hD := hD9; clear hl9 hP9 hD9
  induction n generalizing k ls H locs with
  | zero =>
    have t2 : (nI k).toInt = k := nI_toInt (by omega)
    refine lv_iload_n hx hb dX0_init_34 rfl (lv_at hl 0 rfl) ?_
    refine lv_aload_n hx hb dX0_init_35 rfl (lv_at hl 1 rfl) ?_
    refine va_get (D := (dC, dI)) (ci := 0) (v := .int (nI N)) (C := RX0) (T := TX0) (N := 13) hx hb hts (by decide +kernel) hown hK hP 0 rfl rfl 0 (by decide) (hts (.fieldLink RX0 18 "MotionDesk" "nodeCount" "I") (by decide +kernel)) (fun _ h9 => h9) rfl dX0_init_36 ?_
    refine lv_icmp_ge (tgt := 75) hx hb dX0_init_39 (by decide) (fun c1 => ?_) (fun c1 => ?_)
    · skip
      have c1 := zle c1
      refine lv_aload_n hx hb dX0_init_75 rfl (lv_at hl 1 rfl) ?_
      refine lv_bipush (v := (nI 32)) hx hb dX0_init_76 (by decide) ?_
      refine va_newa (atype := .int) (a0 := (32, .inl (fun _ => 0))) (N' := 32) (ty := .int) hx hb (hts (.arrayClass .int) (by decide +kernel)) rfl hK hP hD hS hA (fun _ => rfl) (nI_pos (by omega)) (nI_clamp (by omega)) (by show 32 * 4 ≤ 536870912; omega) (Nat.le_of_ble_eq_true rfl) (Nat.le_of_ble_eq_true rfl) dX0_init_78 (fun a2 cB H hK hP hD hS => ?_)
      have eB : cB = cA := arr_one hK
      rw [eB] at hP hD
      have hK := hK.sub (tys' := [(cA, .int)]) [0] rfl
      replace hP : va_P (dC, dI) vwCl [(h0, .inr (0, [.int (nI N), .ref a1, .int (nI 0), .null, .null, .null, .null, .null, .null, .int (nI 0), .null, .null, .int (nI 0)])), (a1, .inl (cA, (N * 9), .inl (ini k))), (a2, .inl (cA, 32, .inl (fun _ => 0)))] H := hP
      replace hD : va_D A [(h0, .inr (0, [.int (nI N), .ref a1, .int (nI 0), .null, .null, .null, .null, .null, .null, .int (nI 0), .null, .null, .int (nI 0)])), (a1, .inl (cA, (N * 9), .inl (ini k))), (a2, .inl (cA, 32, .inl (fun _ => 0)))] := hD
      refine W.widen (k := 2) (n := 464) (by omega) (by omega) ?_
      refine va_putF (D := (dC, dI)) (ci := 0) (v := .ref a2) (ty := .array .int) (C := RX0) (T := TX0) (N := 13) hx hb hts (by decide +kernel) tyX0 tyX0_ok nmX0 hown hK hP hD hS 0 rfl rfl 3 (by decide) (hts (.fieldLink RX0 30 "MotionDesk" "trackNode" "[I") (by decide +kernel)) (fun _ h9 => h9) rfl hin rfl (by decide +kernel) rfl rfl (Nat.le_of_ble_eq_true rfl) dX0_init_80 (fun H locs hP hD hS => ?_)
      replace hP : va_P (dC, dI) vwCl [(h0, .inr (0, [.int (nI N), .ref a1, .int (nI 0), .ref a2, .null, .null, .null, .null, .null, .int (nI 0), .null, .null, .int (nI 0)])), (a1, .inl (cA, (N * 9), .inl (ini k))), (a2, .inl (cA, 32, .inl (fun _ => 0)))] H := hP
      replace hD : va_D A [(h0, .inr (0, [.int (nI N), .ref a1, .int (nI 0), .ref a2, .null, .null, .null, .null, .null, .int (nI 0), .null, .null, .int (nI 0)])), (a1, .inl (cA, (N * 9), .inl (ini k))), (a2, .inl (cA, 32, .inl (fun _ => 0)))] := hD
      refine lv_aload_n hx hb dX0_init_83 rfl (lv_at hl 1 rfl) ?_
      refine lv_bipush (v := (nI 32)) hx hb dX0_init_84 (by decide) ?_
      refine va_newa (atype := .int) (a0 := (32, .inl (fun _ => 0))) (N' := 32) (ty := .int) hx hb (hts (.arrayClass .int) (by decide +kernel)) rfl hK hP hD hS hA (fun _ => rfl) (nI_pos (by omega)) (nI_clamp (by omega)) (by show 32 * 4 ≤ 536870912; omega) (Nat.le_of_ble_eq_true rfl) (Nat.le_of_ble_eq_true rfl) dX0_init_86 (fun a3 cB H hK hP hD hS => ?_)
      have eB : cB = cA := arr_one hK
      rw [eB] at hP hD
      have hK := hK.sub (tys' := [(cA, .int)]) [0] rfl
      replace hP : va_P (dC, dI) vwCl [(h0, .inr (0, [.int (nI N), .ref a1, .int (nI 0), .ref a2, .null, .null, .null, .null, .null, .int (nI 0), .null, .null, .int (nI 0)])), (a1, .inl (cA, (N * 9), .inl (ini k))), (a2, .inl (cA, 32, .inl (fun _ => 0))), (a3, .inl (cA, 32, .inl (fun _ => 0)))] H := hP
      replace hD : va_D A [(h0, .inr (0, [.int (nI N), .ref a1, .int (nI 0), .ref a2, .null, .null, .null, .null, .null, .int (nI 0), .null, .null, .int (nI 0)])), (a1, .inl (cA, (N * 9), .inl (ini k))), (a2, .inl (cA, 32, .inl (fun _ => 0))), (a3, .inl (cA, 32, .inl (fun _ => 0)))] := hD
      refine W.widen (k := 3) (n := 496) (by omega) (by omega) ?_
      refine va_putF (D := (dC, dI)) (ci := 0) (v := .ref a3) (ty := .array .int) (C := RX0) (T := TX0) (N := 13) hx hb hts (by decide +kernel) tyX0 tyX0_ok nmX0 hown hK hP hD hS 0 rfl rfl 4 (by decide) (hts (.fieldLink RX0 33 "MotionDesk" "trackWhat" "[I") (by decide +kernel)) (fun _ h9 => h9) rfl hin rfl (by decide +kernel) rfl rfl (Nat.le_of_ble_eq_true rfl) dX0_init_88 (fun H locs hP hD hS => ?_)
      replace hP : va_P (dC, dI) vwCl [(h0, .inr (0, [.int (nI N), .ref a1, .int (nI 0), .ref a2, .ref a3, .null, .null, .null, .null, .int (nI 0), .null, .null, .int (nI 0)])), (a1, .inl (cA, (N * 9), .inl (ini k))), (a2, .inl (cA, 32, .inl (fun _ => 0))), (a3, .inl (cA, 32, .inl (fun _ => 0)))] H := hP
      replace hD : va_D A [(h0, .inr (0, [.int (nI N), .ref a1, .int (nI 0), .ref a2, .ref a3, .null, .null, .null, .null, .int (nI 0), .null, .null, .int (nI 0)])), (a1, .inl (cA, (N * 9), .inl (ini k))), (a2, .inl (cA, 32, .inl (fun _ => 0))), (a3, .inl (cA, 32, .inl (fun _ => 0)))] := hD
      refine lv_aload_n hx hb dX0_init_91 rfl (lv_at hl 1 rfl) ?_
      refine lv_bipush (v := (nI 32)) hx hb dX0_init_92 (by decide) ?_
      refine va_newa (atype := .int) (a0 := (32, .inl (fun _ => 0))) (N' := 32) (ty := .int) hx hb (hts (.arrayClass .int) (by decide +kernel)) rfl hK hP hD hS hA (fun _ => rfl) (nI_pos (by omega)) (nI_clamp (by omega)) (by show 32 * 4 ≤ 536870912; omega) (Nat.le_of_ble_eq_true rfl) (Nat.le_of_ble_eq_true rfl) dX0_init_94 (fun a4 cB H hK hP hD hS => ?_)
      have eB : cB = cA := arr_one hK
      rw [eB] at hP hD
      have hK := hK.sub (tys' := [(cA, .int)]) [0] rfl
      replace hP : va_P (dC, dI) vwCl [(h0, .inr (0, [.int (nI N), .ref a1, .int (nI 0), .ref a2, .ref a3, .null, .null, .null, .null, .int (nI 0), .null, .null, .int (nI 0)])), (a1, .inl (cA, (N * 9), .inl (ini k))), (a2, .inl (cA, 32, .inl (fun _ => 0))), (a3, .inl (cA, 32, .inl (fun _ => 0))), (a4, .inl (cA, 32, .inl (fun _ => 0)))] H := hP
      replace hD : va_D A [(h0, .inr (0, [.int (nI N), .ref a1, .int (nI 0), .ref a2, .ref a3, .null, .null, .null, .null, .int (nI 0), .null, .null, .int (nI 0)])), (a1, .inl (cA, (N * 9), .inl (ini k))), (a2, .inl (cA, 32, .inl (fun _ => 0))), (a3, .inl (cA, 32, .inl (fun _ => 0))), (a4, .inl (cA, 32, .inl (fun _ => 0)))] := hD
      refine W.widen (k := 4) (n := 528) (by omega) (by omega) ?_
      refine va_putF (D := (dC, dI)) (ci := 0) (v := .ref a4) (ty := .array .int) (C := RX0) (T := TX0) (N := 13) hx hb hts (by decide +kernel) tyX0 tyX0_ok nmX0 hown hK hP hD hS 0 rfl rfl 5 (by decide) (hts (.fieldLink RX0 36 "MotionDesk" "trackHow" "[I") (by decide +kernel)) (fun _ h9 => h9) rfl hin rfl (by decide +kernel) rfl rfl (Nat.le_of_ble_eq_true rfl) dX0_init_96 (fun H locs hP hD hS => ?_)
      replace hP : va_P (dC, dI) vwCl [(h0, .inr (0, [.int (nI N), .ref a1, .int (nI 0), .ref a2, .ref a3, .ref a4, .null, .null, .null, .int (nI 0), .null, .null, .int (nI 0)])), (a1, .inl (cA, (N * 9), .inl (ini k))), (a2, .inl (cA, 32, .inl (fun _ => 0))), (a3, .inl (cA, 32, .inl (fun _ => 0))), (a4, .inl (cA, 32, .inl (fun _ => 0)))] H := hP
      replace hD : va_D A [(h0, .inr (0, [.int (nI N), .ref a1, .int (nI 0), .ref a2, .ref a3, .ref a4, .null, .null, .null, .int (nI 0), .null, .null, .int (nI 0)])), (a1, .inl (cA, (N * 9), .inl (ini k))), (a2, .inl (cA, 32, .inl (fun _ => 0))), (a3, .inl (cA, 32, .inl (fun _ => 0))), (a4, .inl (cA, 32, .inl (fun _ => 0)))] := hD
      refine lv_aload_n hx hb dX0_init_99 rfl (lv_at hl 1 rfl) ?_
      refine lv_bipush (v := (nI 32)) hx hb dX0_init_100 (by decide) ?_
      refine va_newa (atype := .int) (a0 := (32, .inl (fun _ => 0))) (N' := 32) (ty := .int) hx hb (hts (.arrayClass .int) (by decide +kernel)) rfl hK hP hD hS hA (fun _ => rfl) (nI_pos (by omega)) (nI_clamp (by omega)) (by show 32 * 4 ≤ 536870912; omega) (Nat.le_of_ble_eq_true rfl) (Nat.le_of_ble_eq_true rfl) dX0_init_102 (fun a5 cB H hK hP hD hS => ?_)
      have eB : cB = cA := arr_one hK
      rw [eB] at hP hD
      have hK := hK.sub (tys' := [(cA, .int)]) [0] rfl
      replace hP : va_P (dC, dI) vwCl [(h0, .inr (0, [.int (nI N), .ref a1, .int (nI 0), .ref a2, .ref a3, .ref a4, .null, .null, .null, .int (nI 0), .null, .null, .int (nI 0)])), (a1, .inl (cA, (N * 9), .inl (ini k))), (a2, .inl (cA, 32, .inl (fun _ => 0))), (a3, .inl (cA, 32, .inl (fun _ => 0))), (a4, .inl (cA, 32, .inl (fun _ => 0))), (a5, .inl (cA, 32, .inl (fun _ => 0)))] H := hP
      replace hD : va_D A [(h0, .inr (0, [.int (nI N), .ref a1, .int (nI 0), .ref a2, .ref a3, .ref a4, .null, .null, .null, .int (nI 0), .null, .null, .int (nI 0)])), (a1, .inl (cA, (N * 9), .inl (ini k))), (a2, .inl (cA, 32, .inl (fun _ => 0))), (a3, .inl (cA, 32, .inl (fun _ => 0))), (a4, .inl (cA, 32, .inl (fun _ => 0))), (a5, .inl (cA, 32, .inl (fun _ => 0)))] := hD
      refine W.widen (k := 5) (n := 560) (by omega) (by omega) ?_
      refine va_putF (D := (dC, dI)) (ci := 0) (v := .ref a5) (ty := .array .int) (C := RX0) (T := TX0) (N := 13) hx hb hts (by decide +kernel) tyX0 tyX0_ok nmX0 hown hK hP hD hS 0 rfl rfl 6 (by decide) (hts (.fieldLink RX0 39 "MotionDesk" "trackKeys" "[I") (by decide +kernel)) (fun _ h9 => h9) rfl hin rfl (by decide +kernel) rfl rfl (Nat.le_of_ble_eq_true rfl) dX0_init_104 (fun H locs hP hD hS => ?_)
      replace hP : va_P (dC, dI) vwCl [(h0, .inr (0, [.int (nI N), .ref a1, .int (nI 0), .ref a2, .ref a3, .ref a4, .ref a5, .null, .null, .int (nI 0), .null, .null, .int (nI 0)])), (a1, .inl (cA, (N * 9), .inl (ini k))), (a2, .inl (cA, 32, .inl (fun _ => 0))), (a3, .inl (cA, 32, .inl (fun _ => 0))), (a4, .inl (cA, 32, .inl (fun _ => 0))), (a5, .inl (cA, 32, .inl (fun _ => 0)))] H := hP
      replace hD : va_D A [(h0, .inr (0, [.int (nI N), .ref a1, .int (nI 0), .ref a2, .ref a3, .ref a4, .ref a5, .null, .null, .int (nI 0), .null, .null, .int (nI 0)])), (a1, .inl (cA, (N * 9), .inl (ini k))), (a2, .inl (cA, 32, .inl (fun _ => 0))), (a3, .inl (cA, 32, .inl (fun _ => 0))), (a4, .inl (cA, 32, .inl (fun _ => 0))), (a5, .inl (cA, 32, .inl (fun _ => 0)))] := hD
      refine lv_aload_n hx hb dX0_init_107 rfl (lv_at hl 1 rfl) ?_
      refine lv_sipush (v := (nI 1024)) hx hb dX0_init_108 (by decide) ?_
      refine va_newa (atype := .int) (a0 := (1024, .inl (fun _ => 0))) (N' := 1024) (ty := .int) hx hb (hts (.arrayClass .int) (by decide +kernel)) rfl hK hP hD hS hA (fun _ => rfl) (nI_pos (by omega)) (nI_clamp (by omega)) (by show 1024 * 4 ≤ 536870912; omega) (Nat.le_of_ble_eq_true rfl) (Nat.le_of_ble_eq_true rfl) dX0_init_111 (fun a6 cB H hK hP hD hS => ?_)
      have eB : cB = cA := arr_one hK
      rw [eB] at hP hD
      have hK := hK.sub (tys' := [(cA, .int)]) [0] rfl
      replace hP : va_P (dC, dI) vwCl [(h0, .inr (0, [.int (nI N), .ref a1, .int (nI 0), .ref a2, .ref a3, .ref a4, .ref a5, .null, .null, .int (nI 0), .null, .null, .int (nI 0)])), (a1, .inl (cA, (N * 9), .inl (ini k))), (a2, .inl (cA, 32, .inl (fun _ => 0))), (a3, .inl (cA, 32, .inl (fun _ => 0))), (a4, .inl (cA, 32, .inl (fun _ => 0))), (a5, .inl (cA, 32, .inl (fun _ => 0))), (a6, .inl (cA, 1024, .inl (fun _ => 0)))] H := hP
      replace hD : va_D A [(h0, .inr (0, [.int (nI N), .ref a1, .int (nI 0), .ref a2, .ref a3, .ref a4, .ref a5, .null, .null, .int (nI 0), .null, .null, .int (nI 0)])), (a1, .inl (cA, (N * 9), .inl (ini k))), (a2, .inl (cA, 32, .inl (fun _ => 0))), (a3, .inl (cA, 32, .inl (fun _ => 0))), (a4, .inl (cA, 32, .inl (fun _ => 0))), (a5, .inl (cA, 32, .inl (fun _ => 0))), (a6, .inl (cA, 1024, .inl (fun _ => 0)))] := hD
      refine W.widen (k := 6) (n := 1584) (by omega) (by omega) ?_
      refine va_putF (D := (dC, dI)) (ci := 0) (v := .ref a6) (ty := .array .int) (C := RX0) (T := TX0) (N := 13) hx hb hts (by decide +kernel) tyX0 tyX0_ok nmX0 hown hK hP hD hS 0 rfl rfl 7 (by decide) (hts (.fieldLink RX0 42 "MotionDesk" "keyTimes" "[I") (by decide +kernel)) (fun _ h9 => h9) rfl hin rfl (by decide +kernel) rfl rfl (Nat.le_of_ble_eq_true rfl) dX0_init_113 (fun H locs hP hD hS => ?_)
      replace hP : va_P (dC, dI) vwCl [(h0, .inr (0, [.int (nI N), .ref a1, .int (nI 0), .ref a2, .ref a3, .ref a4, .ref a5, .ref a6, .null, .int (nI 0), .null, .null, .int (nI 0)])), (a1, .inl (cA, (N * 9), .inl (ini k))), (a2, .inl (cA, 32, .inl (fun _ => 0))), (a3, .inl (cA, 32, .inl (fun _ => 0))), (a4, .inl (cA, 32, .inl (fun _ => 0))), (a5, .inl (cA, 32, .inl (fun _ => 0))), (a6, .inl (cA, 1024, .inl (fun _ => 0)))] H := hP
      replace hD : va_D A [(h0, .inr (0, [.int (nI N), .ref a1, .int (nI 0), .ref a2, .ref a3, .ref a4, .ref a5, .ref a6, .null, .int (nI 0), .null, .null, .int (nI 0)])), (a1, .inl (cA, (N * 9), .inl (ini k))), (a2, .inl (cA, 32, .inl (fun _ => 0))), (a3, .inl (cA, 32, .inl (fun _ => 0))), (a4, .inl (cA, 32, .inl (fun _ => 0))), (a5, .inl (cA, 32, .inl (fun _ => 0))), (a6, .inl (cA, 1024, .inl (fun _ => 0)))] := hD
      refine lv_aload_n hx hb dX0_init_116 rfl (lv_at hl 1 rfl) ?_
      refine lv_sipush (v := (nI 3072)) hx hb dX0_init_117 (by decide) ?_
      refine va_newa (atype := .int) (a0 := (3072, .inl (fun _ => 0))) (N' := 3072) (ty := .int) hx hb (hts (.arrayClass .int) (by decide +kernel)) rfl hK hP hD hS hA (fun _ => rfl) (nI_pos (by omega)) (nI_clamp (by omega)) (by show 3072 * 4 ≤ 536870912; omega) (Nat.le_of_ble_eq_true rfl) (Nat.le_of_ble_eq_true rfl) dX0_init_120 (fun a7 cB H hK hP hD hS => ?_)
      have eB : cB = cA := arr_one hK
      rw [eB] at hP hD
      have hK := hK.sub (tys' := [(cA, .int)]) [0] rfl
      replace hP : va_P (dC, dI) vwCl [(h0, .inr (0, [.int (nI N), .ref a1, .int (nI 0), .ref a2, .ref a3, .ref a4, .ref a5, .ref a6, .null, .int (nI 0), .null, .null, .int (nI 0)])), (a1, .inl (cA, (N * 9), .inl (ini k))), (a2, .inl (cA, 32, .inl (fun _ => 0))), (a3, .inl (cA, 32, .inl (fun _ => 0))), (a4, .inl (cA, 32, .inl (fun _ => 0))), (a5, .inl (cA, 32, .inl (fun _ => 0))), (a6, .inl (cA, 1024, .inl (fun _ => 0))), (a7, .inl (cA, 3072, .inl (fun _ => 0)))] H := hP
      replace hD : va_D A [(h0, .inr (0, [.int (nI N), .ref a1, .int (nI 0), .ref a2, .ref a3, .ref a4, .ref a5, .ref a6, .null, .int (nI 0), .null, .null, .int (nI 0)])), (a1, .inl (cA, (N * 9), .inl (ini k))), (a2, .inl (cA, 32, .inl (fun _ => 0))), (a3, .inl (cA, 32, .inl (fun _ => 0))), (a4, .inl (cA, 32, .inl (fun _ => 0))), (a5, .inl (cA, 32, .inl (fun _ => 0))), (a6, .inl (cA, 1024, .inl (fun _ => 0))), (a7, .inl (cA, 3072, .inl (fun _ => 0)))] := hD
      refine W.widen (k := 7) (n := 4656) (by omega) (by omega) ?_
      refine va_putF (D := (dC, dI)) (ci := 0) (v := .ref a7) (ty := .array .int) (C := RX0) (T := TX0) (N := 13) hx hb hts (by decide +kernel) tyX0 tyX0_ok nmX0 hown hK hP hD hS 0 rfl rfl 8 (by decide) (hts (.fieldLink RX0 45 "MotionDesk" "keyNumbers" "[I") (by decide +kernel)) (fun _ h9 => h9) rfl hin rfl (by decide +kernel) rfl rfl (Nat.le_of_ble_eq_true rfl) dX0_init_122 (fun H locs hP hD hS => ?_)
      replace hP : va_P (dC, dI) vwCl [(h0, .inr (0, [.int (nI N), .ref a1, .int (nI 0), .ref a2, .ref a3, .ref a4, .ref a5, .ref a6, .ref a7, .int (nI 0), .null, .null, .int (nI 0)])), (a1, .inl (cA, (N * 9), .inl (ini k))), (a2, .inl (cA, 32, .inl (fun _ => 0))), (a3, .inl (cA, 32, .inl (fun _ => 0))), (a4, .inl (cA, 32, .inl (fun _ => 0))), (a5, .inl (cA, 32, .inl (fun _ => 0))), (a6, .inl (cA, 1024, .inl (fun _ => 0))), (a7, .inl (cA, 3072, .inl (fun _ => 0)))] H := hP
      replace hD : va_D A [(h0, .inr (0, [.int (nI N), .ref a1, .int (nI 0), .ref a2, .ref a3, .ref a4, .ref a5, .ref a6, .ref a7, .int (nI 0), .null, .null, .int (nI 0)])), (a1, .inl (cA, (N * 9), .inl (ini k))), (a2, .inl (cA, 32, .inl (fun _ => 0))), (a3, .inl (cA, 32, .inl (fun _ => 0))), (a4, .inl (cA, 32, .inl (fun _ => 0))), (a5, .inl (cA, 32, .inl (fun _ => 0))), (a6, .inl (cA, 1024, .inl (fun _ => 0))), (a7, .inl (cA, 3072, .inl (fun _ => 0)))] := hD
      refine lv_aload_n hx hb dX0_init_125 rfl (lv_at hl 1 rfl) ?_
      refine lv_bipush (v := (nI 32)) hx hb dX0_init_126 (by decide) ?_
      refine va_newa (atype := .int) (a0 := (32, .inl (fun _ => 0))) (N' := 32) (ty := .int) hx hb (hts (.arrayClass .int) (by decide +kernel)) rfl hK hP hD hS hA (fun _ => rfl) (nI_pos (by omega)) (nI_clamp (by omega)) (by show 32 * 4 ≤ 536870912; omega) (Nat.le_of_ble_eq_true rfl) (Nat.le_of_ble_eq_true rfl) dX0_init_128 (fun a8 cB H hK hP hD hS => ?_)
      have eB : cB = cA := arr_one hK
      rw [eB] at hP hD
      have hK := hK.sub (tys' := [(cA, .int)]) [0] rfl
      replace hP : va_P (dC, dI) vwCl [(h0, .inr (0, [.int (nI N), .ref a1, .int (nI 0), .ref a2, .ref a3, .ref a4, .ref a5, .ref a6, .ref a7, .int (nI 0), .null, .null, .int (nI 0)])), (a1, .inl (cA, (N * 9), .inl (ini k))), (a2, .inl (cA, 32, .inl (fun _ => 0))), (a3, .inl (cA, 32, .inl (fun _ => 0))), (a4, .inl (cA, 32, .inl (fun _ => 0))), (a5, .inl (cA, 32, .inl (fun _ => 0))), (a6, .inl (cA, 1024, .inl (fun _ => 0))), (a7, .inl (cA, 3072, .inl (fun _ => 0))), (a8, .inl (cA, 32, .inl (fun _ => 0)))] H := hP
      replace hD : va_D A [(h0, .inr (0, [.int (nI N), .ref a1, .int (nI 0), .ref a2, .ref a3, .ref a4, .ref a5, .ref a6, .ref a7, .int (nI 0), .null, .null, .int (nI 0)])), (a1, .inl (cA, (N * 9), .inl (ini k))), (a2, .inl (cA, 32, .inl (fun _ => 0))), (a3, .inl (cA, 32, .inl (fun _ => 0))), (a4, .inl (cA, 32, .inl (fun _ => 0))), (a5, .inl (cA, 32, .inl (fun _ => 0))), (a6, .inl (cA, 1024, .inl (fun _ => 0))), (a7, .inl (cA, 3072, .inl (fun _ => 0))), (a8, .inl (cA, 32, .inl (fun _ => 0)))] := hD
      refine W.widen (k := 8) (n := 4688) (by omega) (by omega) ?_
      refine va_putF (D := (dC, dI)) (ci := 0) (v := .ref a8) (ty := .array .int) (C := RX0) (T := TX0) (N := 13) hx hb hts (by decide +kernel) tyX0 tyX0_ok nmX0 hown hK hP hD hS 0 rfl rfl 10 (by decide) (hts (.fieldLink RX0 48 "MotionDesk" "textTimes" "[I") (by decide +kernel)) (fun _ h9 => h9) rfl hin rfl (by decide +kernel) rfl rfl (Nat.le_of_ble_eq_true rfl) dX0_init_130 (fun H locs hP hD hS => ?_)
      replace hP : va_P (dC, dI) vwCl [(h0, .inr (0, [.int (nI N), .ref a1, .int (nI 0), .ref a2, .ref a3, .ref a4, .ref a5, .ref a6, .ref a7, .int (nI 0), .ref a8, .null, .int (nI 0)])), (a1, .inl (cA, (N * 9), .inl (ini k))), (a2, .inl (cA, 32, .inl (fun _ => 0))), (a3, .inl (cA, 32, .inl (fun _ => 0))), (a4, .inl (cA, 32, .inl (fun _ => 0))), (a5, .inl (cA, 32, .inl (fun _ => 0))), (a6, .inl (cA, 1024, .inl (fun _ => 0))), (a7, .inl (cA, 3072, .inl (fun _ => 0))), (a8, .inl (cA, 32, .inl (fun _ => 0)))] H := hP
      replace hD : va_D A [(h0, .inr (0, [.int (nI N), .ref a1, .int (nI 0), .ref a2, .ref a3, .ref a4, .ref a5, .ref a6, .ref a7, .int (nI 0), .ref a8, .null, .int (nI 0)])), (a1, .inl (cA, (N * 9), .inl (ini k))), (a2, .inl (cA, 32, .inl (fun _ => 0))), (a3, .inl (cA, 32, .inl (fun _ => 0))), (a4, .inl (cA, 32, .inl (fun _ => 0))), (a5, .inl (cA, 32, .inl (fun _ => 0))), (a6, .inl (cA, 1024, .inl (fun _ => 0))), (a7, .inl (cA, 3072, .inl (fun _ => 0))), (a8, .inl (cA, 32, .inl (fun _ => 0)))] := hD
      refine lv_aload_n hx hb dX0_init_133 rfl (lv_at hl 1 rfl) ?_
      refine lv_bipush (v := (nI 96)) hx hb dX0_init_134 (by decide) ?_
      refine va_newa (atype := .int) (a0 := (96, .inl (fun _ => 0))) (N' := 96) (ty := .int) hx hb (hts (.arrayClass .int) (by decide +kernel)) rfl hK hP hD hS hA (fun _ => rfl) (nI_pos (by omega)) (nI_clamp (by omega)) (by show 96 * 4 ≤ 536870912; omega) (Nat.le_of_ble_eq_true rfl) (Nat.le_of_ble_eq_true rfl) dX0_init_136 (fun a9 cB H hK hP hD hS => ?_)
      have eB : cB = cA := arr_one hK
      rw [eB] at hP hD
      have hK := hK.sub (tys' := [(cA, .int)]) [0] rfl
      replace hP : va_P (dC, dI) vwCl [(h0, .inr (0, [.int (nI N), .ref a1, .int (nI 0), .ref a2, .ref a3, .ref a4, .ref a5, .ref a6, .ref a7, .int (nI 0), .ref a8, .null, .int (nI 0)])), (a1, .inl (cA, (N * 9), .inl (ini k))), (a2, .inl (cA, 32, .inl (fun _ => 0))), (a3, .inl (cA, 32, .inl (fun _ => 0))), (a4, .inl (cA, 32, .inl (fun _ => 0))), (a5, .inl (cA, 32, .inl (fun _ => 0))), (a6, .inl (cA, 1024, .inl (fun _ => 0))), (a7, .inl (cA, 3072, .inl (fun _ => 0))), (a8, .inl (cA, 32, .inl (fun _ => 0))), (a9, .inl (cA, 96, .inl (fun _ => 0)))] H := hP
      replace hD : va_D A [(h0, .inr (0, [.int (nI N), .ref a1, .int (nI 0), .ref a2, .ref a3, .ref a4, .ref a5, .ref a6, .ref a7, .int (nI 0), .ref a8, .null, .int (nI 0)])), (a1, .inl (cA, (N * 9), .inl (ini k))), (a2, .inl (cA, 32, .inl (fun _ => 0))), (a3, .inl (cA, 32, .inl (fun _ => 0))), (a4, .inl (cA, 32, .inl (fun _ => 0))), (a5, .inl (cA, 32, .inl (fun _ => 0))), (a6, .inl (cA, 1024, .inl (fun _ => 0))), (a7, .inl (cA, 3072, .inl (fun _ => 0))), (a8, .inl (cA, 32, .inl (fun _ => 0))), (a9, .inl (cA, 96, .inl (fun _ => 0)))] := hD
      refine W.widen (k := 9) (n := 4784) (by omega) (by omega) ?_
      refine va_putF (D := (dC, dI)) (ci := 0) (v := .ref a9) (ty := .array .int) (C := RX0) (T := TX0) (N := 13) hx hb hts (by decide +kernel) tyX0 tyX0_ok nmX0 hown hK hP hD hS 0 rfl rfl 11 (by decide) (hts (.fieldLink RX0 51 "MotionDesk" "textNumbers" "[I") (by decide +kernel)) (fun _ h9 => h9) rfl hin rfl (by decide +kernel) rfl rfl (Nat.le_of_ble_eq_true rfl) dX0_init_138 (fun H locs hP hD hS => ?_)
      replace hP : va_P (dC, dI) vwCl [(h0, .inr (0, [.int (nI N), .ref a1, .int (nI 0), .ref a2, .ref a3, .ref a4, .ref a5, .ref a6, .ref a7, .int (nI 0), .ref a8, .ref a9, .int (nI 0)])), (a1, .inl (cA, (N * 9), .inl (ini k))), (a2, .inl (cA, 32, .inl (fun _ => 0))), (a3, .inl (cA, 32, .inl (fun _ => 0))), (a4, .inl (cA, 32, .inl (fun _ => 0))), (a5, .inl (cA, 32, .inl (fun _ => 0))), (a6, .inl (cA, 1024, .inl (fun _ => 0))), (a7, .inl (cA, 3072, .inl (fun _ => 0))), (a8, .inl (cA, 32, .inl (fun _ => 0))), (a9, .inl (cA, 96, .inl (fun _ => 0)))] H := hP
      replace hD : va_D A [(h0, .inr (0, [.int (nI N), .ref a1, .int (nI 0), .ref a2, .ref a3, .ref a4, .ref a5, .ref a6, .ref a7, .int (nI 0), .ref a8, .ref a9, .int (nI 0)])), (a1, .inl (cA, (N * 9), .inl (ini k))), (a2, .inl (cA, 32, .inl (fun _ => 0))), (a3, .inl (cA, 32, .inl (fun _ => 0))), (a4, .inl (cA, 32, .inl (fun _ => 0))), (a5, .inl (cA, 32, .inl (fun _ => 0))), (a6, .inl (cA, 1024, .inl (fun _ => 0))), (a7, .inl (cA, 3072, .inl (fun _ => 0))), (a8, .inl (cA, 32, .inl (fun _ => 0))), (a9, .inl (cA, 96, .inl (fun _ => 0)))] := hD
      refine W.widen (k := 9) (n := 4784) (by omega) (by omega) ?_
      obtain rfl : k = N := by omega
      exact W.vret hx hb hr (fun t9 ht9 hW9 => ⟨⟨(), rfl, trivial, a1, a2, a3, a4, a5, a6, a7, a8, a9, by rw [ht9]; exact hP, va_K.moved hW9.alike hK, hD⟩, hS.F ht9⟩) hS.2.2 dX0_init_141
    · skip
      have c1 := znle c1
      exfalso; omega
  | succ n ih =>
    have t2 : (nI k).toInt = k := nI_toInt (by omega)
    refine lv_iload_n hx hb dX0_init_34 rfl (lv_at hl 0 rfl) ?_
    refine lv_aload_n hx hb dX0_init_35 rfl (lv_at hl 1 rfl) ?_
    refine va_get (D := (dC, dI)) (ci := 0) (v := .int (nI N)) (C := RX0) (T := TX0) (N := 13) hx hb hts (by decide +kernel) hown hK hP 0 rfl rfl 0 (by decide) (hts (.fieldLink RX0 18 "MotionDesk" "nodeCount" "I") (by decide +kernel)) (fun _ h9 => h9) rfl dX0_init_36 ?_
    refine lv_icmp_ge (tgt := 75) hx hb dX0_init_39 (by decide) (fun c2 => ?_) (fun c2 => ?_)
    · skip
      have c2 := zle c2
      exfalso; omega
    · skip
      have c2 := znle c2
      refine lv_iconst (v := (nI 0)) hx hb dX0_init_42 (by decide) ?_
      refine lv_istore_n (lv' := [(3, .int (nI 0)), (2, .int (nI k)), (0, .ref h0), (1, .int x)]) hx hb dX0_init_43 rfl hl (by decide) rfl (fun ls hl => ?_)
      refine lv_iload_n hx hb dX0_init_44 rfl (lv_at hl 0 rfl) ?_
      refine lv_iconst (v := (nI 3)) hx hb dX0_init_45 (by decide) ?_
      refine lv_icmp_ge (tgt := 69) hx hb dX0_init_46 (by decide) (fun c3 => ?_) (fun c3 => ?_)
      · skip
        have c3 := c3
        exact absurd c3 (by decide)
      · skip
        have c3 := c3
        refine lv_aload_n hx hb dX0_init_49 rfl (lv_at hl 2 rfl) ?_
        refine va_get (D := (dC, dI)) (ci := 0) (v := .ref a1) (C := RX0) (T := TX0) (N := 13) hx hb hts (by decide +kernel) hown hK hP 0 rfl rfl 1 (by decide) (hts (.fieldLink RX0 22 "MotionDesk" "values" "[I") (by decide +kernel)) (fun _ h9 => h9) rfl dX0_init_50 ?_
        refine lv_iload_n hx hb dX0_init_53 rfl (lv_at hl 1 rfl) ?_
        refine lv_iconst (v := (nI 2)) hx hb dX0_init_54 (by decide) ?_
        refine vp_callSi (W.runS (As := [.int (nI k), .int (nI 2)]) (rest := [.ref a1]) ⟨hx, hb, hml, hown, hts⟩ (cx_placeOf l k 2) (va_cwS 2 hts gX0_init_X0_placeOf rfl rfl rfl (by decide +kernel) ⟨Nat.le_of_ble_eq_true rfl, Nat.le_of_ble_eq_true rfl⟩) preEq rfl rfl hl.1 rfl (lv_room (Nat.le_of_ble_eq_true rfl)) dX0_init_55 ⟨Nat.le_of_ble_eq_true rfl, Nat.le_of_ble_eq_true rfl⟩) (fun r4 h_r4 => ?_)
        refine tp_i (y := nI ((k * 3 + 2) * 3)) (h_r4) ?_
        refine lv_iload_n hx hb dX0_init_58 rfl (lv_at hl 0 rfl) ?_
        refine lv_iadd hx hb dX0_init_59 ?_
        refine tp_i (y := nI ((k * 3 + 2) * 3 + 0)) (nI_add _ _) ?_
        refine lv_ldc (v := 65536) hx hb hown (hts (.constant RX0 29 65536) (by decide +kernel)) dX0_init_60 ?_
        refine va_iast hx hb hK hP hD hS 1 0 rfl rfl (vp_in_nI (by omega) (by omega)) dX0_init_62 (fun H locs hP hD hS => ?_)
        rw [nI_clamp (show (k * 3 + 2) * 3 + 0 < 2 ^ 31 by omega)] at hP hD
        replace hP : va_P (dC, dI) vwCl [(h0, .inr (0, [.int (nI N), .ref a1, .int (nI 0), .null, .null, .null, .null, .null, .null, .int (nI 0), .null, .null, .int (nI 0)])), (a1, .inl (cA, (N * 9), .inl (upd (ini k) ((k * 3 + 2) * 3 + 0) 65536)))] H := hP
        replace hD : va_D A [(h0, .inr (0, [.int (nI N), .ref a1, .int (nI 0), .null, .null, .null, .null, .null, .null, .int (nI 0), .null, .null, .int (nI 0)])), (a1, .inl (cA, (N * 9), .inl (upd (ini k) ((k * 3 + 2) * 3 + 0) 65536)))] := hD
        refine lv_iinc (v := nI 1) (lv' := [(3, .int (nI 1)), (2, .int (nI k)), (0, .ref h0), (1, .int x)]) hx hb dX0_init_63 hl (k := 0) rfl (by decide) (by decide) rfl (fun ls hl => ?_)
        refine lv_goto (tgt := 44) hx hb dX0_init_66 (by decide) ?_
        refine lv_iload_n hx hb dX0_init_44 rfl (lv_at hl 0 rfl) ?_
        refine lv_iconst (v := (nI 3)) hx hb dX0_init_45 (by decide) ?_
        refine lv_icmp_ge (tgt := 69) hx hb dX0_init_46 (by decide) (fun c5 => ?_) (fun c5 => ?_)
        · skip
          have c5 := c5
          exact absurd c5 (by decide)
        · skip
          have c5 := c5
          refine lv_aload_n hx hb dX0_init_49 rfl (lv_at hl 2 rfl) ?_
          refine va_get (D := (dC, dI)) (ci := 0) (v := .ref a1) (C := RX0) (T := TX0) (N := 13) hx hb hts (by decide +kernel) hown hK hP 0 rfl rfl 1 (by decide) (hts (.fieldLink RX0 22 "MotionDesk" "values" "[I") (by decide +kernel)) (fun _ h9 => h9) rfl dX0_init_50 ?_
          refine lv_iload_n hx hb dX0_init_53 rfl (lv_at hl 1 rfl) ?_
          refine lv_iconst (v := (nI 2)) hx hb dX0_init_54 (by decide) ?_
          refine vp_callSi (W.runS (As := [.int (nI k), .int (nI 2)]) (rest := [.ref a1]) ⟨hx, hb, hml, hown, hts⟩ (cx_placeOf l k 2) (va_cwS 2 hts gX0_init_X0_placeOf rfl rfl rfl (by decide +kernel) ⟨Nat.le_of_ble_eq_true rfl, Nat.le_of_ble_eq_true rfl⟩) preEq rfl rfl hl.1 rfl (lv_room (Nat.le_of_ble_eq_true rfl)) dX0_init_55 ⟨Nat.le_of_ble_eq_true rfl, Nat.le_of_ble_eq_true rfl⟩) (fun r6 h_r6 => ?_)
          refine tp_i (y := nI ((k * 3 + 2) * 3)) (h_r6) ?_
          refine lv_iload_n hx hb dX0_init_58 rfl (lv_at hl 0 rfl) ?_
          refine lv_iadd hx hb dX0_init_59 ?_
          refine tp_i (y := nI ((k * 3 + 2) * 3 + 1)) (nI_add _ _) ?_
          refine lv_ldc (v := 65536) hx hb hown (hts (.constant RX0 29 65536) (by decide +kernel)) dX0_init_60 ?_
          refine va_iast hx hb hK hP hD hS 1 0 rfl rfl (vp_in_nI (by omega) (by omega)) dX0_init_62 (fun H locs hP hD hS => ?_)
          rw [nI_clamp (show (k * 3 + 2) * 3 + 1 < 2 ^ 31 by omega)] at hP hD
          replace hP : va_P (dC, dI) vwCl [(h0, .inr (0, [.int (nI N), .ref a1, .int (nI 0), .null, .null, .null, .null, .null, .null, .int (nI 0), .null, .null, .int (nI 0)])), (a1, .inl (cA, (N * 9), .inl (upd (upd (ini k) ((k * 3 + 2) * 3 + 0) 65536) ((k * 3 + 2) * 3 + 1) 65536)))] H := hP
          replace hD : va_D A [(h0, .inr (0, [.int (nI N), .ref a1, .int (nI 0), .null, .null, .null, .null, .null, .null, .int (nI 0), .null, .null, .int (nI 0)])), (a1, .inl (cA, (N * 9), .inl (upd (upd (ini k) ((k * 3 + 2) * 3 + 0) 65536) ((k * 3 + 2) * 3 + 1) 65536)))] := hD
          refine lv_iinc (v := nI 2) (lv' := [(3, .int (nI 2)), (2, .int (nI k)), (0, .ref h0), (1, .int x)]) hx hb dX0_init_63 hl (k := 0) rfl (by decide) (by decide) rfl (fun ls hl => ?_)
          refine lv_goto (tgt := 44) hx hb dX0_init_66 (by decide) ?_
          refine lv_iload_n hx hb dX0_init_44 rfl (lv_at hl 0 rfl) ?_
          refine lv_iconst (v := (nI 3)) hx hb dX0_init_45 (by decide) ?_
          refine lv_icmp_ge (tgt := 69) hx hb dX0_init_46 (by decide) (fun c7 => ?_) (fun c7 => ?_)
          · skip
            have c7 := c7
            exact absurd c7 (by decide)
          · skip
            have c7 := c7
            refine lv_aload_n hx hb dX0_init_49 rfl (lv_at hl 2 rfl) ?_
            refine va_get (D := (dC, dI)) (ci := 0) (v := .ref a1) (C := RX0) (T := TX0) (N := 13) hx hb hts (by decide +kernel) hown hK hP 0 rfl rfl 1 (by decide) (hts (.fieldLink RX0 22 "MotionDesk" "values" "[I") (by decide +kernel)) (fun _ h9 => h9) rfl dX0_init_50 ?_
            refine lv_iload_n hx hb dX0_init_53 rfl (lv_at hl 1 rfl) ?_
            refine lv_iconst (v := (nI 2)) hx hb dX0_init_54 (by decide) ?_
            refine vp_callSi (W.runS (As := [.int (nI k), .int (nI 2)]) (rest := [.ref a1]) ⟨hx, hb, hml, hown, hts⟩ (cx_placeOf l k 2) (va_cwS 2 hts gX0_init_X0_placeOf rfl rfl rfl (by decide +kernel) ⟨Nat.le_of_ble_eq_true rfl, Nat.le_of_ble_eq_true rfl⟩) preEq rfl rfl hl.1 rfl (lv_room (Nat.le_of_ble_eq_true rfl)) dX0_init_55 ⟨Nat.le_of_ble_eq_true rfl, Nat.le_of_ble_eq_true rfl⟩) (fun r8 h_r8 => ?_)
            refine tp_i (y := nI ((k * 3 + 2) * 3)) (h_r8) ?_
            refine lv_iload_n hx hb dX0_init_58 rfl (lv_at hl 0 rfl) ?_
            refine lv_iadd hx hb dX0_init_59 ?_
            refine tp_i (y := nI ((k * 3 + 2) * 3 + 2)) (nI_add _ _) ?_
            refine lv_ldc (v := 65536) hx hb hown (hts (.constant RX0 29 65536) (by decide +kernel)) dX0_init_60 ?_
            refine va_iast hx hb hK hP hD hS 1 0 rfl rfl (vp_in_nI (by omega) (by omega)) dX0_init_62 (fun H locs hP hD hS => ?_)
            rw [nI_clamp (show (k * 3 + 2) * 3 + 2 < 2 ^ 31 by omega)] at hP hD
            replace hP : va_P (dC, dI) vwCl [(h0, .inr (0, [.int (nI N), .ref a1, .int (nI 0), .null, .null, .null, .null, .null, .null, .int (nI 0), .null, .null, .int (nI 0)])), (a1, .inl (cA, (N * 9), .inl (upd (upd (upd (ini k) ((k * 3 + 2) * 3 + 0) 65536) ((k * 3 + 2) * 3 + 1) 65536) ((k * 3 + 2) * 3 + 2) 65536)))] H := hP
            replace hD : va_D A [(h0, .inr (0, [.int (nI N), .ref a1, .int (nI 0), .null, .null, .null, .null, .null, .null, .int (nI 0), .null, .null, .int (nI 0)])), (a1, .inl (cA, (N * 9), .inl (upd (upd (upd (ini k) ((k * 3 + 2) * 3 + 0) 65536) ((k * 3 + 2) * 3 + 1) 65536) ((k * 3 + 2) * 3 + 2) 65536)))] := hD
            refine lv_iinc (v := nI 3) (lv' := [(3, .int (nI 3)), (2, .int (nI k)), (0, .ref h0), (1, .int x)]) hx hb dX0_init_63 hl (k := 0) rfl (by decide) (by decide) rfl (fun ls hl => ?_)
            refine lv_goto (tgt := 44) hx hb dX0_init_66 (by decide) ?_
            refine lv_iload_n hx hb dX0_init_44 rfl (lv_at hl 0 rfl) ?_
            refine lv_iconst (v := (nI 3)) hx hb dX0_init_45 (by decide) ?_
            refine lv_icmp_ge (tgt := 69) hx hb dX0_init_46 (by decide) (fun c9 => ?_) (fun c9 => ?_)
            · skip
              have c9 := c9
              refine lv_iinc (v := nI (k + 1)) (lv' := [(2, .int (nI (k + 1))), (3, .int (nI 3)), (0, .ref h0), (1, .int x)]) hx hb dX0_init_69 hl (k := 1) rfl (nI_1 k) (by decide) rfl (fun ls hl => ?_)
              refine lv_goto (tgt := 34) hx hb dX0_init_72 (by decide) ?_
              rw [ini_upd k] at hP hD
              exact ih (ls := ls) (k := k + 1) (H := H) (locs := locs) hS (by omega) (lv_sub hl [0, 2, 3] rfl) hP hD
            · skip
              have c9 := c9
              exact absurd c9 (by decide)
