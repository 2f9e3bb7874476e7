set_option maxHeartbeats 4000000 in
set_option maxRecDepth 100000 in
/-- track(node, what, how) -/
theorem cm_track (l : Launch) (dC : Nat → ClassId) (dI : Nat → Nat → Nat) (cA : ClassId) (g0 b1 b2 b3 b4 b5 b6 b7 b8 b9 N T X : Nat) (nw : Int32) (fv tn tw th tk kt kn xt xn : Nat → Int32) (sz : Nat) (x y z : Int32) (hN : N ≤ 48) (hT : T ≤ 32) (hX : X ≤ 32) : Met l yX1_track wsX1_track ({ frames := 1, cells := 0, slots := 0, locals := 22 }) (va_Pc [.ref g0, .int x, .int y, .int z] (eM sz dC dI cA g0 b1 b2 b3 b4 b5 b6 b7 b8 b9 N T X nw fv tn tw th tk kt kn xt xn)) (va_Qi (fun (r : Int32) (u : Nat × (Nat → Int32) × (Nat → Int32) × (Nat → Int32) × (Nat → Int32) × (Nat → Int32) × (Nat → Int32)) => ((X ≠ 0 ∧ T < 32 ∧ q_node N x ∧ q_what y ∧ q_how z ∧ q_all y xn X) → r = nI T ∧ u = (T + 1, upd tn T x, upd tw T y, upd th T z, upd tk T (nI X), va_cpy xt kt 0 (T * 32) X, va_cpy xn kn 0 (T * 32 * 3) (X * 3))) ∧ (¬ (X ≠ 0 ∧ T < 32 ∧ q_node N x ∧ q_what y ∧ q_how z ∧ q_all y xn X) → r = -1 ∧ u = (T, tn, tw, th, tk, kt, kn))) (fun u => bM (va_A (wM cA g0 b1 b2 b3 b4 b5 b6 b7 b8 b9 N T X nw fv tn tw th tk kt kn xt xn) sz) dC dI cA g0 b1 b2 b3 b4 b5 b6 b7 b8 b9 N u.1 0 nw fv u.2.1 u.2.2.1 u.2.2.2.1 u.2.2.2.2.1 u.2.2.2.2.2.1 u.2.2.2.2.2.2 xt xn) (va_A (wM cA g0 b1 b2 b3 b4 b5 b6 b7 b8 b9 N T X nw fv tn tw th tk kt kn xt xn) sz)) 0 0 (va_A (wM cA g0 b1 b2 b3 b4 b5 b6 b7 b8 b9 N T X nw fv tn tw th tk kt kn xt xn) sz) := by
  refine Met.ofW (cc := cX1_track) (maxL := 7) (ret := (some .int)) (by decide) rfl ?_
  intro p e s m args below meth c s₁ B hml hv
  obtain ⟨rfl, hsz, hP, hK, hD0⟩ := hv
  have hx := B.exec
  have hb := B.bytes
  have hr := B.returns
  have hts := atoms_spec (ws := wsX1_track) B.pre
  have hown : s.vm.findClass RX1 = some m.cls := findClass_of_methodNamed B.named
  have hlocks := B.notSynchronized
  subst hsz
  have hD := hD0.self (sz := s.heap.size)
  generalize hAe : va_A (wM cA g0 b1 b2 b3 b4 b5 b6 b7 b8 b9 N T X nw fv tn tw th tk kt kn xt xn) s.heap.size = A at hD ⊢
  have hA : ∀ q : Nat, s.heap.size ≤ q → A q := fun q h => by rw [← hAe]; exact Or.inr h
  have hS : va_S A s.heap s.heap [] := va_S.rf
  have hP : va_P (dC, dI) vwCl (wM cA g0 b1 b2 b3 b4 b5 b6 b7 b8 b9 N T X nw fv tn tw th tk kt kn xt xn) s.heap := hP
  have hl := lv_entry ([.ref g0, .int x, .int y, .int z]) (n := 7) (Nat.le_of_ble_eq_true rfl)
  rw [lg_entry_eq]
  generalize (lg_sl ([.ref g0, .int x, .int y, .int z]) ++ List.replicate (7 - (lg_sl ([.ref g0, .int x, .int y, .int z])).length) Slot.unset).toArray = ls at hl ⊢
  have hl : lv_has ls 7 [(0, .ref g0), (1, .int x), (2, .int y), (3, .int z)] := hl
  have t0 := z_0
  have t1 : (nI T).toInt = T := nI_toInt (by omega)
  have t2 : (nI 32).toInt = 32 := by decide
  have t3 : (nI X).toInt = X := nI_toInt (by omega)
  have t4 : (nI 2).toInt = 2 := by decide
  have t5 : (nI (X * 3)).toInt = (X * 3 : Nat) := nI_toInt (by omega)
  refine lv_aload_n hx hb dX1_track_0 rfl (lv_at hl 0 rfl) ?_
  refine lv_iconst (v := (nI 0)) hx hb dX1_track_1 (by decide) ?_
  refine va_put (D := (dC, dI)) (ci := 1) (v := .int (nI 0)) (ty := .int) (C := RX1) (T := TX1) (N := 14) hx hb hts (by decide +kernel) tyX1 tyX1_ok nmX1 hown hK hP hD hS 0 rfl rfl 0 (by decide) (hts (.fieldLink RX1 42 "MotionDeskModel" "thrown" "I") (by decide +kernel)) (fun _ h9 => h9) rfl (by decide +kernel) rfl rfl (Nat.le_of_ble_eq_true rfl) dX1_track_2 (fun H locs hP hD hS => ?_)
  replace hP : va_P (dC, dI) vwCl (wM cA g0 b1 b2 b3 b4 b5 b6 b7 b8 b9 N T X nw fv tn tw th tk kt kn xt xn) H := hP
  replace hD : va_D A (wM cA g0 b1 b2 b3 b4 b5 b6 b7 b8 b9 N T X nw fv tn tw th tk kt kn xt xn) := hD
  refine lv_aload_n hx hb dX1_track_5 rfl (lv_at hl 0 rfl) ?_
  refine va_get (D := (dC, dI)) (ci := 1) (v := .int (nI X)) (C := RX1) (T := TX1) (N := 14) hx hb hts (by decide +kernel) hown hK hP 0 rfl rfl 4 (by decide) (hts (.fieldLink RX1 48 "MotionDeskModel" "textKeys" "I") (by decide +kernel)) (fun _ h9 => h9) rfl dX1_track_6 ?_
  refine lv_istore (lv' := [(4, .int (nI X)), (0, .ref g0), (1, .int x), (2, .int y), (3, .int z)]) hx hb dX1_track_9 hl (by decide) rfl (fun ls hl => ?_)
  refine lv_aload_n hx hb dX1_track_11 rfl (lv_at hl 1 rfl) ?_
  refine lv_iconst (v := (nI 0)) hx hb dX1_track_12 (by decide) ?_
  refine va_put (D := (dC, dI)) (ci := 1) (v := .int (nI 0)) (ty := .int) (C := RX1) (T := TX1) (N := 14) hx hb hts (by decide +kernel) tyX1 tyX1_ok nmX1 hown hK hP hD hS 0 rfl rfl 4 (by decide) (hts (.fieldLink RX1 48 "MotionDeskModel" "textKeys" "I") (by decide +kernel)) (fun _ h9 => h9) rfl (by decide +kernel) rfl rfl (Nat.le_of_ble_eq_true rfl) dX1_track_13 (fun H locs hP hD hS => ?_)
  replace hP : va_P (dC, dI) vwCl (wM cA g0 b1 b2 b3 b4 b5 b6 b7 b8 b9 N T 0 nw fv tn tw th tk kt kn xt xn) H := hP
  replace hD : va_D A (wM cA g0 b1 b2 b3 b4 b5 b6 b7 b8 b9 N T 0 nw fv tn tw th tk kt kn xt xn) := hD
  refine w_cut (α := Int32) (fun b H locs ls => (b = 0 ↔ ¬ (0 < X ∧ (q_node N x ∧ q_what y) ∧ q_how z ∧ T < 32)) ∧ va_P (dC, dI) vwCl (wM cA g0 b1 b2 b3 b4 b5 b6 b7 b8 b9 N T 0 nw fv tn tw th tk kt kn xt xn) H ∧ va_D A (wM cA g0 b1 b2 b3 b4 b5 b6 b7 b8 b9 N T 0 nw fv tn tw th tk kt kn xt xn) ∧ va_S A s.heap H locs ∧ lv_has ls 7 [(4, .int (nI X)), (0, .ref g0), (1, .int x), (2, .int y), (3, .int z)]) (fun b ls => F0 m 53 ls [.int b]) ?_ (fun tail => ?_)
  · clear hP hD hS hl
    intro g H locs ls hI
    obtain ⟨hg, hP, hD, hS, hl⟩ := hI
    refine lv_istore (lv' := [(5, .int g), (4, .int (nI X)), (0, .ref g0), (1, .int x), (2, .int y), (3, .int z)]) hx hb dX1_track_53 hl (by decide) rfl (fun ls hl => ?_)
    refine lv_iconst (v := (nI 0)) hx hb dX1_track_55 (by decide) ?_
    refine lv_istore (lv' := [(6, .int (nI 0)), (5, .int g), (4, .int (nI X)), (0, .ref g0), (1, .int x), (2, .int y), (3, .int z)]) hx hb dX1_track_56 hl (by decide) rfl (fun ls hl => ?_)
    obtain ⟨n, k, g1, hn, hg2, hl9⟩ : ∃ (n k : Nat) (g1 : Int32), k + n = X * 3 ∧ (g1 = 0 ↔ ¬ ((0 < X ∧ (q_node N x ∧ q_what y) ∧ q_how z ∧ T < 32) ∧ ∀ j, j < k → q_in (xn j) (q_reach y))) ∧ lv_has ls 7 [(6, .int (nI k)), (5, .int g1), (4, .int (nI X)), (0, .ref g0), (1, .int x), (2, .int y), (3, .int z)] := ⟨X * 3, 0, g, by omega, by rw [hg]; exact ⟨fun h q => h q.1, fun h q => h ⟨q, lt_0⟩⟩, lv_sub hl [0, 1, 2, 3, 4, 5, 6] rfl⟩
    clear hl hg; have hl := hl9; clear hl9
    induction n generalizing k g1 ls with
    | zero =>
      have t6 : (nI k).toInt = k := nI_toInt (by omega)
      refine lv_iload hx hb dX1_track_58 (lv_at hl 0 rfl) ?_
      refine lv_iconst (v := (nI 3)) hx hb dX1_track_60 (by decide) ?_
      refine lv_iload hx hb dX1_track_61 (lv_at hl 2 rfl) ?_
      refine lv_imul hx hb dX1_track_63 ?_
      refine tp_i (y := nI (X * 3)) (by rw [pk_mul, Nat.mul_comm]) ?_
      refine lv_icmp_ge (tgt := 99) hx hb dX1_track_64 (by decide) (fun c1 => ?_) (fun c1 => ?_)
      · skip
        have c1 := zle c1
        refine lv_iload hx hb dX1_track_99 (lv_at hl 1 rfl) ?_
        refine lv_if_ne (tgt := 106) hx hb dX1_track_101 (by decide) (fun c2 => ?_) (fun c2 => ?_)
        · skip
          have c2 := btT hg2 c2
          have hok : (X ≠ 0 ∧ T < 32 ∧ q_node N x ∧ q_what y ∧ q_how z ∧ q_all y xn X) := ⟨by have := c2.1.1; omega, c2.1.2.2.2, c2.1.2.1.1, c2.1.2.1.2, c2.1.2.2.1, (q_all_iff y xn X).mpr (fun j hj => c2.2 j (by omega))⟩
          have hT2 : T < 32 := hok.2.1
          refine lv_aload_n hx hb dX1_track_106 rfl (lv_at hl 3 rfl) ?_
          refine va_get (D := (dC, dI)) (ci := 1) (v := .ref b2) (C := RX1) (T := TX1) (N := 14) hx hb hts (by decide +kernel) hown hK hP 0 rfl rfl 8 (by decide) (hts (.fieldLink RX1 19 "MotionDeskModel" "nodeOf" "[I") (by decide +kernel)) (fun _ h9 => h9) rfl dX1_track_107 ?_
          refine lv_aload_n hx hb dX1_track_110 rfl (lv_at hl 3 rfl) ?_
          refine va_get (D := (dC, dI)) (ci := 1) (v := .int (nI T)) (C := RX1) (T := TX1) (N := 14) hx hb hts (by decide +kernel) hown hK hP 0 rfl rfl 7 (by decide) (hts (.fieldLink RX1 58 "MotionDeskModel" "tracks" "I") (by decide +kernel)) (fun _ h9 => h9) rfl dX1_track_111 ?_
          refine lv_iload_n hx hb dX1_track_114 rfl (lv_at hl 4 rfl) ?_
          refine va_iast hx hb hK hP hD hS 2 0 rfl rfl (vp_in_nI (by omega) (by omega)) dX1_track_115 (fun H locs hP hD hS => ?_)
          rw [nI_clamp (show T < 2 ^ 31 by omega)] at hP hD
          replace hP : va_P (dC, dI) vwCl (wM cA g0 b1 b2 b3 b4 b5 b6 b7 b8 b9 N T 0 nw fv (upd tn T x) tw th tk kt kn xt xn) H := hP
          replace hD : va_D A (wM cA g0 b1 b2 b3 b4 b5 b6 b7 b8 b9 N T 0 nw fv (upd tn T x) tw th tk kt kn xt xn) := hD
          refine lv_aload_n hx hb dX1_track_116 rfl (lv_at hl 3 rfl) ?_
          refine va_get (D := (dC, dI)) (ci := 1) (v := .ref b3) (C := RX1) (T := TX1) (N := 14) hx hb hts (by decide +kernel) hown hK hP 0 rfl rfl 9 (by decide) (hts (.fieldLink RX1 22 "MotionDeskModel" "whatOf" "[I") (by decide +kernel)) (fun _ h9 => h9) rfl dX1_track_117 ?_
          refine lv_aload_n hx hb dX1_track_120 rfl (lv_at hl 3 rfl) ?_
          refine va_get (D := (dC, dI)) (ci := 1) (v := .int (nI T)) (C := RX1) (T := TX1) (N := 14) hx hb hts (by decide +kernel) hown hK hP 0 rfl rfl 7 (by decide) (hts (.fieldLink RX1 58 "MotionDeskModel" "tracks" "I") (by decide +kernel)) (fun _ h9 => h9) rfl dX1_track_121 ?_
          refine lv_iload_n hx hb dX1_track_124 rfl (lv_at hl 5 rfl) ?_
          refine va_iast hx hb hK hP hD hS 3 0 rfl rfl (vp_in_nI (by omega) (by omega)) dX1_track_125 (fun H locs hP hD hS => ?_)
          rw [nI_clamp (show T < 2 ^ 31 by omega)] at hP hD
          replace hP : va_P (dC, dI) vwCl (wM cA g0 b1 b2 b3 b4 b5 b6 b7 b8 b9 N T 0 nw fv (upd tn T x) (upd tw T y) th tk kt kn xt xn) H := hP
          replace hD : va_D A (wM cA g0 b1 b2 b3 b4 b5 b6 b7 b8 b9 N T 0 nw fv (upd tn T x) (upd tw T y) th tk kt kn xt xn) := hD
          refine lv_aload_n hx hb dX1_track_126 rfl (lv_at hl 3 rfl) ?_
          refine va_get (D := (dC, dI)) (ci := 1) (v := .ref b4) (C := RX1) (T := TX1) (N := 14) hx hb hts (by decide +kernel) hown hK hP 0 rfl rfl 10 (by decide) (hts (.fieldLink RX1 25 "MotionDeskModel" "howOf" "[I") (by decide +kernel)) (fun _ h9 => h9) rfl dX1_track_127 ?_
          refine lv_aload_n hx hb dX1_track_130 rfl (lv_at hl 3 rfl) ?_
          refine va_get (D := (dC, dI)) (ci := 1) (v := .int (nI T)) (C := RX1) (T := TX1) (N := 14) hx hb hts (by decide +kernel) hown hK hP 0 rfl rfl 7 (by decide) (hts (.fieldLink RX1 58 "MotionDeskModel" "tracks" "I") (by decide +kernel)) (fun _ h9 => h9) rfl dX1_track_131 ?_
          refine lv_iload_n hx hb dX1_track_134 rfl (lv_at hl 6 rfl) ?_
          refine va_iast hx hb hK hP hD hS 4 0 rfl rfl (vp_in_nI (by omega) (by omega)) dX1_track_135 (fun H locs hP hD hS => ?_)
          rw [nI_clamp (show T < 2 ^ 31 by omega)] at hP hD
          replace hP : va_P (dC, dI) vwCl (wM cA g0 b1 b2 b3 b4 b5 b6 b7 b8 b9 N T 0 nw fv (upd tn T x) (upd tw T y) (upd th T z) tk kt kn xt xn) H := hP
          replace hD : va_D A (wM cA g0 b1 b2 b3 b4 b5 b6 b7 b8 b9 N T 0 nw fv (upd tn T x) (upd tw T y) (upd th T z) tk kt kn xt xn) := hD
          refine lv_aload_n hx hb dX1_track_136 rfl (lv_at hl 3 rfl) ?_
          refine va_get (D := (dC, dI)) (ci := 1) (v := .ref b5) (C := RX1) (T := TX1) (N := 14) hx hb hts (by decide +kernel) hown hK hP 0 rfl rfl 11 (by decide) (hts (.fieldLink RX1 28 "MotionDeskModel" "keysOf" "[I") (by decide +kernel)) (fun _ h9 => h9) rfl dX1_track_137 ?_
          refine lv_aload_n hx hb dX1_track_140 rfl (lv_at hl 3 rfl) ?_
          refine va_get (D := (dC, dI)) (ci := 1) (v := .int (nI T)) (C := RX1) (T := TX1) (N := 14) hx hb hts (by decide +kernel) hown hK hP 0 rfl rfl 7 (by decide) (hts (.fieldLink RX1 58 "MotionDeskModel" "tracks" "I") (by decide +kernel)) (fun _ h9 => h9) rfl dX1_track_141 ?_
          refine lv_iload hx hb dX1_track_144 (lv_at hl 2 rfl) ?_
          refine va_iast hx hb hK hP hD hS 5 0 rfl rfl (vp_in_nI (by omega) (by omega)) dX1_track_146 (fun H locs hP hD hS => ?_)
          rw [nI_clamp (show T < 2 ^ 31 by omega)] at hP hD
          replace hP : va_P (dC, dI) vwCl (wM cA g0 b1 b2 b3 b4 b5 b6 b7 b8 b9 N T 0 nw fv (upd tn T x) (upd tw T y) (upd th T z) (upd tk T (nI X)) kt kn xt xn) H := hP
          replace hD : va_D A (wM cA g0 b1 b2 b3 b4 b5 b6 b7 b8 b9 N T 0 nw fv (upd tn T x) (upd tw T y) (upd th T z) (upd tk T (nI X)) kt kn xt xn) := hD
          refine lv_iconst (v := (nI 0)) hx hb dX1_track_147 (by decide) ?_
          refine lv_istore (lv' := [(6, .int (nI 0)), (5, .int g1), (4, .int (nI X)), (0, .ref g0), (1, .int x), (2, .int y), (3, .int z)]) hx hb dX1_track_148 hl (by decide) rfl (fun ls hl => ?_)
          obtain ⟨n, k, hn, hP9, hD9, hl9⟩ : ∃ n k : Nat, k + n = X ∧ va_P (dC, dI) vwCl (wM cA g0 b1 b2 b3 b4 b5 b6 b7 b8 b9 N T 0 nw fv (upd tn T x) (upd tw T y) (upd th T z) (upd tk T (nI X)) (va_cpy xt kt 0 (T * 32) k) kn xt xn) H ∧ va_D A (wM cA g0 b1 b2 b3 b4 b5 b6 b7 b8 b9 N T 0 nw fv (upd tn T x) (upd tw T y) (upd th T z) (upd tk T (nI X)) (va_cpy xt kt 0 (T * 32) k) kn xt xn) ∧ lv_has ls 7 [(6, .int (nI k)), (5, .int g1), (4, .int (nI X)), (0, .ref g0), (1, .int x), (2, .int y), (3, .int z)] := ⟨X, 0, by omega, by rw [cpy_0]; exact hP, by rw [cpy_0]; exact hD, lv_sub hl [0, 1, 2, 3, 4, 5, 6] rfl⟩
          clear hl hP hD; have hl := hl9; have hP := hP9; have hD := hD9; clear hl9 hP9 hD9
          induction n generalizing k ls H locs with
          | zero =>
            have t7 : (nI k).toInt = k := nI_toInt (by omega)
            refine lv_iload hx hb dX1_track_150 (lv_at hl 0 rfl) ?_
            refine lv_iload hx hb dX1_track_152 (lv_at hl 2 rfl) ?_
            refine lv_icmp_ge (tgt := 185) hx hb dX1_track_154 (by decide) (fun c3 => ?_) (fun c3 => ?_)
            · skip
              have c3 := zle c3
              obtain rfl : X = k := by omega
              refine lv_iconst (v := (nI 0)) hx hb dX1_track_185 (by decide) ?_
              refine lv_istore (lv' := [(6, .int (nI 0)), (5, .int g1), (4, .int (nI X)), (0, .ref g0), (1, .int x), (2, .int y), (3, .int z)]) hx hb dX1_track_186 hl (by decide) rfl (fun ls hl => ?_)
              obtain ⟨n, k, hn, hP9, hD9, hl9⟩ : ∃ n k : Nat, k + n = X * 3 ∧ va_P (dC, dI) vwCl (wM cA g0 b1 b2 b3 b4 b5 b6 b7 b8 b9 N T 0 nw fv (upd tn T x) (upd tw T y) (upd th T z) (upd tk T (nI X)) (va_cpy xt kt 0 (T * 32) (X)) (va_cpy xn kn 0 (T * 32 * 3) k) xt xn) H ∧ va_D A (wM cA g0 b1 b2 b3 b4 b5 b6 b7 b8 b9 N T 0 nw fv (upd tn T x) (upd tw T y) (upd th T z) (upd tk T (nI X)) (va_cpy xt kt 0 (T * 32) (X)) (va_cpy xn kn 0 (T * 32 * 3) k) xt xn) ∧ lv_has ls 7 [(6, .int (nI k)), (5, .int g1), (4, .int (nI X)), (0, .ref g0), (1, .int x), (2, .int y), (3, .int z)] := ⟨X * 3, 0, by omega, by rw [cpy_0]; exact hP, by rw [cpy_0]; exact hD, lv_sub hl [0, 1, 2, 3, 4, 5, 6] rfl⟩
              clear hl hP hD; have hl := hl9; have hP := hP9; have hD := hD9; clear hl9 hP9 hD9
              induction n generalizing k ls H locs with
              | zero =>
                have t7 : (nI k).toInt = k := nI_toInt (by omega)
                refine lv_iload hx hb dX1_track_188 (lv_at hl 0 rfl) ?_
                refine lv_iconst (v := (nI 3)) hx hb dX1_track_190 (by decide) ?_
                refine lv_iload hx hb dX1_track_191 (lv_at hl 2 rfl) ?_
                refine lv_imul hx hb dX1_track_193 ?_
                refine tp_i (y := nI (X * 3)) (by rw [pk_mul, Nat.mul_comm]) ?_
                refine lv_icmp_ge (tgt := 225) hx hb dX1_track_194 (by decide) (fun c4 => ?_) (fun c4 => ?_)
                · skip
                  have c4 := zle c4
                  obtain rfl : X * 3 = k := by omega
                  refine lv_aload_n hx hb dX1_track_225 rfl (lv_at hl 3 rfl) ?_
                  refine lv_dup hx hb dX1_track_226 rfl ?_
                  refine va_get (D := (dC, dI)) (ci := 1) (v := .int (nI T)) (C := RX1) (T := TX1) (N := 14) hx hb hts (by decide +kernel) hown hK hP 0 rfl rfl 7 (by decide) (hts (.fieldLink RX1 58 "MotionDeskModel" "tracks" "I") (by decide +kernel)) (fun _ h9 => h9) rfl dX1_track_227 ?_
                  refine lv_iconst (v := (nI 1)) hx hb dX1_track_230 (by decide) ?_
                  refine lv_iadd hx hb dX1_track_231 ?_
                  refine tp_i (y := nI (T + 1)) (nI_1 T) ?_
                  refine va_put (D := (dC, dI)) (ci := 1) (v := .int (nI (T + 1))) (ty := .int) (C := RX1) (T := TX1) (N := 14) hx hb hts (by decide +kernel) tyX1 tyX1_ok nmX1 hown hK hP hD hS 0 rfl rfl 7 (by decide) (hts (.fieldLink RX1 58 "MotionDeskModel" "tracks" "I") (by decide +kernel)) (fun _ h9 => h9) rfl (by decide +kernel) rfl rfl (Nat.le_of_ble_eq_true rfl) dX1_track_232 (fun H locs hP hD hS => ?_)
                  replace hP : va_P (dC, dI) vwCl (wM cA g0 b1 b2 b3 b4 b5 b6 b7 b8 b9 N (T + 1) 0 nw fv (upd tn T x) (upd tw T y) (upd th T z) (upd tk T (nI X)) (va_cpy xt kt 0 (T * 32) (X)) (va_cpy xn kn 0 (T * 32 * 3) (X * 3)) xt xn) H := hP
                  replace hD : va_D A (wM cA g0 b1 b2 b3 b4 b5 b6 b7 b8 b9 N (T + 1) 0 nw fv (upd tn T x) (upd tw T y) (upd th T z) (upd tk T (nI X)) (va_cpy xt kt 0 (T * 32) (X)) (va_cpy xn kn 0 (T * 32 * 3) (X * 3)) xt xn) := hD
                  refine lv_aload_n hx hb dX1_track_235 rfl (lv_at hl 3 rfl) ?_
                  refine va_get (D := (dC, dI)) (ci := 1) (v := .int (nI (T + 1))) (C := RX1) (T := TX1) (N := 14) hx hb hts (by decide +kernel) hown hK hP 0 rfl rfl 7 (by decide) (hts (.fieldLink RX1 58 "MotionDeskModel" "tracks" "I") (by decide +kernel)) (fun _ h9 => h9) rfl dX1_track_236 ?_
                  refine lv_iconst (v := (nI 1)) hx hb dX1_track_239 (by decide) ?_
                  refine lv_isub hx hb dX1_track_240 ?_
                  refine tp_i (y := nI T) (pk_sub (show 1 ≤ T + 1 by omega)) ?_
                  exact W.iret (v := nI T) hx hb hr (fun t9 ht9 hW9 => ⟨⟨nI T, ((T + 1), (upd tn T x), (upd tw T y), (upd th T z), (upd tk T (nI X)), (va_cpy xt kt 0 (T * 32) (X)), (va_cpy xn kn 0 (T * 32 * 3) (X * 3))), rfl, br_t hok ⟨rfl, rfl⟩, by rw [ht9]; exact hP, va_K.moved hW9.alike hK, hD⟩, hS.F ht9⟩) hS.2.2 dX1_track_241
                · skip
                  have c4 := znle c4
                  exfalso; omega
              | succ n ih =>
                have t7 : (nI k).toInt = k := nI_toInt (by omega)
                refine lv_iload hx hb dX1_track_188 (lv_at hl 0 rfl) ?_
                refine lv_iconst (v := (nI 3)) hx hb dX1_track_190 (by decide) ?_
                refine lv_iload hx hb dX1_track_191 (lv_at hl 2 rfl) ?_
                refine lv_imul hx hb dX1_track_193 ?_
                refine tp_i (y := nI (X * 3)) (by rw [pk_mul, Nat.mul_comm]) ?_
                refine lv_icmp_ge (tgt := 225) hx hb dX1_track_194 (by decide) (fun c5 => ?_) (fun c5 => ?_)
                · skip
                  have c5 := zle c5
                  exfalso; omega
                · skip
                  have c5 := znle c5
                  refine lv_aload_n hx hb dX1_track_197 rfl (lv_at hl 3 rfl) ?_
                  refine va_get (D := (dC, dI)) (ci := 1) (v := .ref b7) (C := RX1) (T := TX1) (N := 14) hx hb hts (by decide +kernel) hown hK hP 0 rfl rfl 13 (by decide) (hts (.fieldLink RX1 34 "MotionDeskModel" "values" "[I") (by decide +kernel)) (fun _ h9 => h9) rfl dX1_track_198 ?_
                  refine lv_bipush (v := (nI 96)) hx hb dX1_track_201 (by decide) ?_
                  refine lv_aload_n hx hb dX1_track_203 rfl (lv_at hl 3 rfl) ?_
                  refine va_get (D := (dC, dI)) (ci := 1) (v := .int (nI T)) (C := RX1) (T := TX1) (N := 14) hx hb hts (by decide +kernel) hown hK hP 0 rfl rfl 7 (by decide) (hts (.fieldLink RX1 58 "MotionDeskModel" "tracks" "I") (by decide +kernel)) (fun _ h9 => h9) rfl dX1_track_204 ?_
                  refine lv_imul hx hb dX1_track_207 ?_
                  refine tp_i (y := nI (T * 32 * 3)) (by rw [pk_mul, show 96 * T = T * 32 * 3 by omega]) ?_
                  refine lv_iload hx hb dX1_track_208 (lv_at hl 0 rfl) ?_
                  refine lv_iadd hx hb dX1_track_210 ?_
                  refine tp_i (y := nI (T * 32 * 3 + k)) (nI_add _ _) ?_
                  refine lv_aload_n hx hb dX1_track_211 rfl (lv_at hl 3 rfl) ?_
                  refine va_get (D := (dC, dI)) (ci := 1) (v := .ref b9) (C := RX1) (T := TX1) (N := 14) hx hb hts (by decide +kernel) hown hK hP 0 rfl rfl 6 (by decide) (hts (.fieldLink RX1 16 "MotionDeskModel" "textValues" "[I") (by decide +kernel)) (fun _ h9 => h9) rfl dX1_track_212 ?_
                  refine lv_iload hx hb dX1_track_215 (lv_at hl 0 rfl) ?_
                  refine va_iald hx hb hK hP 9 0 rfl rfl (vp_in_nI (by omega) (by omega)) dX1_track_217 ?_
                  refine tp_i (y := (xn k)) (by rw [nI_clamp (by omega)]) ?_
                  refine va_iast hx hb hK hP hD hS 7 0 rfl rfl (vp_in_nI (by omega) (by omega)) dX1_track_218 (fun H locs hP hD hS => ?_)
                  rw [nI_clamp (show T * 32 * 3 + k < 2 ^ 31 by omega)] at hP hD
                  replace hP : va_P (dC, dI) vwCl (wM cA g0 b1 b2 b3 b4 b5 b6 b7 b8 b9 N T 0 nw fv (upd tn T x) (upd tw T y) (upd th T z) (upd tk T (nI X)) (va_cpy xt kt 0 (T * 32) (X)) (upd (va_cpy xn kn 0 (T * 32 * 3) k) (T * 32 * 3 + k) (xn k)) xt xn) H := hP
                  replace hD : va_D A (wM cA g0 b1 b2 b3 b4 b5 b6 b7 b8 b9 N T 0 nw fv (upd tn T x) (upd tw T y) (upd th T z) (upd tk T (nI X)) (va_cpy xt kt 0 (T * 32) (X)) (upd (va_cpy xn kn 0 (T * 32 * 3) k) (T * 32 * 3 + k) (xn k)) xt xn) := hD
                  refine lv_iinc (v := nI (k + 1)) (lv' := [(6, .int (nI (k + 1))), (5, .int g1), (4, .int (nI X)), (0, .ref g0), (1, .int x), (2, .int y), (3, .int z)]) hx hb dX1_track_219 hl (k := 0) rfl (nI_1 k) (by decide) rfl (fun ls hl => ?_)
                  refine lv_goto (tgt := 188) hx hb dX1_track_222 (by decide) ?_
                  rw [cpy_s] at hP hD
                  exact ih (ls := ls) (k := k + 1) (H := H) (locs := locs) hS (by omega) (lv_sub hl [0, 1, 2, 3, 4, 5, 6] rfl) hP hD
            · skip
              have c3 := znle c3
              exfalso; omega
          | succ n ih =>
            have t7 : (nI k).toInt = k := nI_toInt (by omega)
            refine lv_iload hx hb dX1_track_150 (lv_at hl 0 rfl) ?_
            refine lv_iload hx hb dX1_track_152 (lv_at hl 2 rfl) ?_
            refine lv_icmp_ge (tgt := 185) hx hb dX1_track_154 (by decide) (fun c6 => ?_) (fun c6 => ?_)
            · skip
              have c6 := zle c6
              exfalso; omega
            · skip
              have c6 := znle c6
              refine lv_aload_n hx hb dX1_track_157 rfl (lv_at hl 3 rfl) ?_
              refine va_get (D := (dC, dI)) (ci := 1) (v := .ref b6) (C := RX1) (T := TX1) (N := 14) hx hb hts (by decide +kernel) hown hK hP 0 rfl rfl 12 (by decide) (hts (.fieldLink RX1 31 "MotionDeskModel" "times" "[I") (by decide +kernel)) (fun _ h9 => h9) rfl dX1_track_158 ?_
              refine lv_bipush (v := (nI 32)) hx hb dX1_track_161 (by decide) ?_
              refine lv_aload_n hx hb dX1_track_163 rfl (lv_at hl 3 rfl) ?_
              refine va_get (D := (dC, dI)) (ci := 1) (v := .int (nI T)) (C := RX1) (T := TX1) (N := 14) hx hb hts (by decide +kernel) hown hK hP 0 rfl rfl 7 (by decide) (hts (.fieldLink RX1 58 "MotionDeskModel" "tracks" "I") (by decide +kernel)) (fun _ h9 => h9) rfl dX1_track_164 ?_
              refine lv_imul hx hb dX1_track_167 ?_
              refine tp_i (y := nI (T * 32)) (by rw [pk_mul, Nat.mul_comm]) ?_
              refine lv_iload hx hb dX1_track_168 (lv_at hl 0 rfl) ?_
              refine lv_iadd hx hb dX1_track_170 ?_
              refine tp_i (y := nI (T * 32 + k)) (nI_add _ _) ?_
              refine lv_aload_n hx hb dX1_track_171 rfl (lv_at hl 3 rfl) ?_
              refine va_get (D := (dC, dI)) (ci := 1) (v := .ref b8) (C := RX1) (T := TX1) (N := 14) hx hb hts (by decide +kernel) hown hK hP 0 rfl rfl 5 (by decide) (hts (.fieldLink RX1 13 "MotionDeskModel" "textTimes" "[I") (by decide +kernel)) (fun _ h9 => h9) rfl dX1_track_172 ?_
              refine lv_iload hx hb dX1_track_175 (lv_at hl 0 rfl) ?_
              refine va_iald hx hb hK hP 8 0 rfl rfl (vp_in_nI (by omega) (by omega)) dX1_track_177 ?_
              refine tp_i (y := (xt k)) (by rw [nI_clamp (by omega)]) ?_
              refine va_iast hx hb hK hP hD hS 6 0 rfl rfl (vp_in_nI (by omega) (by omega)) dX1_track_178 (fun H locs hP hD hS => ?_)
              rw [nI_clamp (show T * 32 + k < 2 ^ 31 by omega)] at hP hD
              replace hP : va_P (dC, dI) vwCl (wM cA g0 b1 b2 b3 b4 b5 b6 b7 b8 b9 N T 0 nw fv (upd tn T x) (upd tw T y) (upd th T z) (upd tk T (nI X)) (upd (va_cpy xt kt 0 (T * 32) k) (T * 32 + k) (xt k)) kn xt xn) H := hP
              replace hD : va_D A (wM cA g0 b1 b2 b3 b4 b5 b6 b7 b8 b9 N T 0 nw fv (upd tn T x) (upd tw T y) (upd th T z) (upd tk T (nI X)) (upd (va_cpy xt kt 0 (T * 32) k) (T * 32 + k) (xt k)) kn xt xn) := hD
              refine lv_iinc (v := nI (k + 1)) (lv' := [(6, .int (nI (k + 1))), (5, .int g1), (4, .int (nI X)), (0, .ref g0), (1, .int x), (2, .int y), (3, .int z)]) hx hb dX1_track_179 hl (k := 0) rfl (nI_1 k) (by decide) rfl (fun ls hl => ?_)
              refine lv_goto (tgt := 150) hx hb dX1_track_182 (by decide) ?_
              rw [cpy_s] at hP hD
              exact ih (ls := ls) (k := k + 1) (H := H) (locs := locs) hS (by omega) (lv_sub hl [0, 1, 2, 3, 4, 5, 6] rfl) hP hD
        · skip
          have c2 := btF hg2 c2
          have hno : ¬ (X ≠ 0 ∧ T < 32 ∧ q_node N x ∧ q_what y ∧ q_how z ∧ q_all y xn X) := fun h => c2 ⟨⟨by omega, ⟨h.2.2.1, h.2.2.2.1⟩, h.2.2.2.2.1, h.2.1⟩, fun j hj => (q_all_iff y xn X).mp h.2.2.2.2.2 j (by omega)⟩
          refine lv_iconst (v := (-1)) hx hb dX1_track_104 (by decide) ?_
          exact W.iret (v := (-1)) hx hb hr (fun t9 ht9 hW9 => ⟨⟨(-1), (T, tn, tw, th, tk, kt, kn), rfl, br_f hno ⟨rfl, rfl⟩, by rw [ht9]; exact hP, va_K.moved hW9.alike hK, hD⟩, hS.F ht9⟩) hS.2.2 dX1_track_105
      · skip
        have c1 := znle c1
        exfalso; omega
    | succ n ih =>
      have t6 : (nI k).toInt = k := nI_toInt (by omega)
      refine lv_iload hx hb dX1_track_58 (lv_at hl 0 rfl) ?_
      refine lv_iconst (v := (nI 3)) hx hb dX1_track_60 (by decide) ?_
      refine lv_iload hx hb dX1_track_61 (lv_at hl 2 rfl) ?_
      refine lv_imul hx hb dX1_track_63 ?_
      refine tp_i (y := nI (X * 3)) (by rw [pk_mul, Nat.mul_comm]) ?_
      refine lv_icmp_ge (tgt := 99) hx hb dX1_track_64 (by decide) (fun c7 => ?_) (fun c7 => ?_)
      · skip
        have c7 := zle c7
        exfalso; omega
      · skip
        have c7 := znle c7
        refine lv_iload hx hb dX1_track_67 (lv_at hl 1 rfl) ?_
        refine lv_if_eq (tgt := 90) hx hb dX1_track_69 (by decide) (fun c8 => ?_) (fun c8 => ?_)
        · skip
          have c8 := btF hg2 c8
          refine lv_iconst (v := (nI 0)) hx hb dX1_track_90 (by decide) ?_
          refine lv_istore (lv' := [(5, .int (nI 0)), (6, .int (nI k)), (4, .int (nI X)), (0, .ref g0), (1, .int x), (2, .int y), (3, .int z)]) hx hb dX1_track_91 hl (by decide) rfl (fun ls hl => ?_)
          refine lv_iinc (v := nI (k + 1)) (lv' := [(6, .int (nI (k + 1))), (5, .int (nI 0)), (4, .int (nI X)), (0, .ref g0), (1, .int x), (2, .int y), (3, .int z)]) hx hb dX1_track_93 hl (k := 1) rfl (nI_1 k) (by decide) rfl (fun ls hl => ?_)
          refine lv_goto (tgt := 58) hx hb dX1_track_96 (by decide) ?_
          exact ih (ls := ls) (k := k + 1) (g1 := (nI 0)) (by omega) (bt0 (fun h => c8 ⟨h.1, fun j hj => h.2 j (by omega)⟩)) (lv_sub hl [0, 1, 2, 3, 4, 5, 6] rfl)
        · skip
          have c8 := btT hg2 c8
          refine lv_iload_n hx hb dX1_track_72 rfl (lv_at hl 5 rfl) ?_
          refine lv_aload_n hx hb dX1_track_73 rfl (lv_at hl 3 rfl) ?_
          refine va_get (D := (dC, dI)) (ci := 1) (v := .ref b9) (C := RX1) (T := TX1) (N := 14) hx hb hts (by decide +kernel) hown hK hP 0 rfl rfl 6 (by decide) (hts (.fieldLink RX1 16 "MotionDeskModel" "textValues" "[I") (by decide +kernel)) (fun _ h9 => h9) rfl dX1_track_74 ?_
          refine lv_iload hx hb dX1_track_77 (lv_at hl 0 rfl) ?_
          refine va_iald hx hb hK hP 9 0 rfl rfl (vp_in_nI (by omega) (by omega)) dX1_track_79 ?_
          refine tp_i (y := (xn k)) (by rw [nI_clamp (by omega)]) ?_
          refine vp_callSi (W.runS (As := [.int y, .int (xn k)]) (rest := []) ⟨hx, hb, hml, hown, hts⟩ (cm_fits l y (xn k)) (va_cwS 2 hts gX1_track_X1_fits rfl rfl rfl (by decide +kernel) ⟨Nat.le_of_ble_eq_true rfl, Nat.le_of_ble_eq_true rfl⟩) preEq rfl rfl hl.1 rfl (lv_room (Nat.le_of_ble_eq_true rfl)) dX1_track_80 ⟨Nat.le_of_ble_eq_true rfl, Nat.le_of_ble_eq_true rfl⟩) (fun bo9 h_bo9 => ?_)
          refine lv_if_eq (tgt := 90) hx hb dX1_track_83 (by decide) (fun c10 => ?_) (fun c10 => ?_)
          · skip
            have c10 := btF h_bo9 c10
            refine lv_iconst (v := (nI 0)) hx hb dX1_track_90 (by decide) ?_
            refine lv_istore (lv' := [(5, .int (nI 0)), (6, .int (nI k)), (4, .int (nI X)), (0, .ref g0), (1, .int x), (2, .int y), (3, .int z)]) hx hb dX1_track_91 hl (by decide) rfl (fun ls hl => ?_)
            refine lv_iinc (v := nI (k + 1)) (lv' := [(6, .int (nI (k + 1))), (5, .int (nI 0)), (4, .int (nI X)), (0, .ref g0), (1, .int x), (2, .int y), (3, .int z)]) hx hb dX1_track_93 hl (k := 1) rfl (nI_1 k) (by decide) rfl (fun ls hl => ?_)
            refine lv_goto (tgt := 58) hx hb dX1_track_96 (by decide) ?_
            exact ih (ls := ls) (k := k + 1) (g1 := (nI 0)) (by omega) (bt0 (fun h => c10 (h.2 k (by omega)))) (lv_sub hl [0, 1, 2, 3, 4, 5, 6] rfl)
          · skip
            have c10 := btT h_bo9 c10
            refine lv_iconst (v := (nI 1)) hx hb dX1_track_86 (by decide) ?_
            refine lv_goto (tgt := 91) hx hb dX1_track_87 (by decide) ?_
            refine lv_istore (lv' := [(5, .int (nI 1)), (6, .int (nI k)), (4, .int (nI X)), (0, .ref g0), (1, .int x), (2, .int y), (3, .int z)]) hx hb dX1_track_91 hl (by decide) rfl (fun ls hl => ?_)
            refine lv_iinc (v := nI (k + 1)) (lv' := [(6, .int (nI (k + 1))), (5, .int (nI 1)), (4, .int (nI X)), (0, .ref g0), (1, .int x), (2, .int y), (3, .int z)]) hx hb dX1_track_93 hl (k := 1) rfl (nI_1 k) (by decide) rfl (fun ls hl => ?_)
            refine lv_goto (tgt := 58) hx hb dX1_track_96 (by decide) ?_
            exact ih (ls := ls) (k := k + 1) (g1 := (nI 1)) (by omega) (bt1 ⟨c8.1, lt_s c8.2 c10⟩) (lv_sub hl [0, 1, 2, 3, 4, 5, 6] rfl)
  refine lv_iload hx hb dX1_track_16 (lv_at hl 0 rfl) ?_
  refine lv_if_le (tgt := 52) hx hb dX1_track_18 (by decide) (fun c11 => ?_) (fun c11 => ?_)
  · skip
    have c11 := zle c11
    refine lv_iconst (v := (nI 0)) hx hb dX1_track_52 (by decide) ?_
    exact tail _ _ _ _ ⟨bt0 (fun h => by obtain ⟨h1, -, h3, h4⟩ := h; unfold q_how at h3; omega), hP, hD, hS, lv_sub hl [0, 1, 2, 3, 4] rfl⟩
  · skip
    have c11 := znle c11
    refine lv_aload_n hx hb dX1_track_21 rfl (lv_at hl 1 rfl) ?_
    refine lv_iload_n hx hb dX1_track_22 rfl (lv_at hl 2 rfl) ?_
    refine lv_iload_n hx hb dX1_track_23 rfl (lv_at hl 3 rfl) ?_
    refine vp_callSi (W.runV (C := RX1) (As := [.int x, .int y]) (rest := []) ⟨hx, hb, hml, hown, hts⟩ (cm_there l dC dI cA g0 b1 b2 b3 b4 b5 b6 b7 b8 b9 N T 0 nw fv tn tw th tk kt kn xt xn x y (by omega)) (cwV 2 hts gX1_track_X1_there rfl rfl rfl (by decide +kernel) ⟨Nat.le_of_ble_eq_true rfl, Nat.le_of_ble_eq_true rfl⟩) ⟨fun a U g mk q => ⟨q.1, q.2.1, va_K.moved (u := U) (U := U.calling g mk a) (Vm.Alike.refl U.vm) q.2.2⟩, va_recv hK hP (ci := 1) (q0 := 0) rfl rfl, fun U hU hW => ⟨rfl, by rw [hU]; exact hP, va_K.moved hW.alike hK⟩⟩ rfl rfl hl.1 rfl (lv_room (Nat.le_of_ble_eq_true rfl)) dX1_track_24 ⟨Nat.le_of_ble_eq_true rfl, Nat.le_of_ble_eq_true rfl⟩) (fun bo12 h_bo12 => ?_)
    refine lv_if_eq (tgt := 52) hx hb dX1_track_27 (by decide) (fun c13 => ?_) (fun c13 => ?_)
    · skip
      have c13 := btF h_bo12 c13
      refine lv_iconst (v := (nI 0)) hx hb dX1_track_52 (by decide) ?_
      exact tail _ _ _ _ ⟨bt0 (fun h => c13 h.2.1), hP, hD, hS, lv_sub hl [0, 1, 2, 3, 4] rfl⟩
    · skip
      have c13 := btT h_bo12 c13
      refine lv_iload_n hx hb dX1_track_30 rfl (lv_at hl 4 rfl) ?_
      refine lv_if_lt (tgt := 52) hx hb dX1_track_31 (by decide) (fun c14 => ?_) (fun c14 => ?_)
      · skip
        have c14 := zlt c14
        refine lv_iconst (v := (nI 0)) hx hb dX1_track_52 (by decide) ?_
        exact tail _ _ _ _ ⟨bt0 (fun h => by obtain ⟨h1, -, h3, h4⟩ := h; unfold q_how at h3; omega), hP, hD, hS, lv_sub hl [0, 1, 2, 3, 4] rfl⟩
      · skip
        have c14 := znlt c14
        refine lv_iload_n hx hb dX1_track_34 rfl (lv_at hl 4 rfl) ?_
        refine lv_iconst (v := (nI 2)) hx hb dX1_track_35 (by decide) ?_
        refine lv_icmp_gt (tgt := 52) hx hb dX1_track_36 (by decide) (fun c15 => ?_) (fun c15 => ?_)
        · skip
          have c15 := zlt c15
          refine lv_iconst (v := (nI 0)) hx hb dX1_track_52 (by decide) ?_
          exact tail _ _ _ _ ⟨bt0 (fun h => by obtain ⟨h1, -, h3, h4⟩ := h; unfold q_how at h3; omega), hP, hD, hS, lv_sub hl [0, 1, 2, 3, 4] rfl⟩
        · skip
          have c15 := znlt c15
          refine lv_aload_n hx hb dX1_track_39 rfl (lv_at hl 1 rfl) ?_
          refine va_get (D := (dC, dI)) (ci := 1) (v := .int (nI T)) (C := RX1) (T := TX1) (N := 14) hx hb hts (by decide +kernel) hown hK hP 0 rfl rfl 7 (by decide) (hts (.fieldLink RX1 58 "MotionDeskModel" "tracks" "I") (by decide +kernel)) (fun _ h9 => h9) rfl dX1_track_40 ?_
          refine lv_bipush (v := (nI 32)) hx hb dX1_track_43 (by decide) ?_
          refine lv_icmp_ge (tgt := 52) hx hb dX1_track_45 (by decide) (fun c16 => ?_) (fun c16 => ?_)
          · skip
            have c16 := zle c16
            refine lv_iconst (v := (nI 0)) hx hb dX1_track_52 (by decide) ?_
            exact tail _ _ _ _ ⟨bt0 (fun h => by obtain ⟨h1, -, h3, h4⟩ := h; unfold q_how at h3; omega), hP, hD, hS, lv_sub hl [0, 1, 2, 3, 4] rfl⟩
          · skip
            have c16 := znle c16
            refine lv_iconst (v := (nI 1)) hx hb dX1_track_48 (by decide) ?_
            refine lv_goto (tgt := 53) hx hb dX1_track_49 (by decide) ?_
            exact tail _ _ _ _ ⟨bt1 ⟨by omega, c13, by unfold q_how; omega, by omega⟩, hP, hD, hS, lv_sub hl [0, 1, 2, 3, 4] rfl⟩
