set_option maxHeartbeats 4000000 in
set_option maxRecDepth 100000 in
/-- at(track, i, t) -/
theorem cm_at (l : Launch) (dC : Nat → ClassId) (dI : Nat → Nat → Nat) (cA : ClassId) (g0 b1 b2 b3 b4 b5 b6 b7 b8 b9 N T X : Nat) (nw : Int32) (fv tn tw th tk kt kn xt xn : Nat → Int32) (t j K : Nat) (v : Int32) (hT : T ≤ 32) (ht : t < T) (hj : j < 3) (hK1 : 1 ≤ K) (hK2 : K ≤ 32) (etk : tk t = nI K) (hw : q_how (th t)) (hg : q_grow kt (t * 32) K) (hv : q_time v) : Met l yX1_at wsX1_at ({ frames := 2, cells := 0, slots := 0, locals := 48 }) (va_Pc [.ref g0, .int (nI t), .int (nI j), .int v] (rM dC dI cA g0 b1 b2 b3 b4 b5 b6 b7 b8 b9 N T X nw fv tn tw th tk kt kn xt xn)) (vp_Si (fun r => r = plv kt kn v (th t) (t * 32) K j)) 0 0 (fun _ => False) := by
  refine Met.ofW (cc := cX1_at) (maxL := 19) (ret := (some .int)) (by decide) rfl ?_
  intro p e s m args below meth c s₁ B hml hv
  obtain ⟨rfl, hP, hK⟩ := hv
  have hx := B.exec
  have hb := B.bytes
  have hr := B.returns
  have hts := atoms_spec (ws := wsX1_at) B.pre
  have hown : s.vm.findClass RX1 = some m.cls := findClass_of_methodNamed B.named
  have hlocks := B.notSynchronized
  have hl := lv_entry ([.ref g0, .int (nI t), .int (nI j), .int v]) (n := 19) (Nat.le_of_ble_eq_true rfl)
  rw [lg_entry_eq]
  generalize (lg_sl ([.ref g0, .int (nI t), .int (nI j), .int v]) ++ List.replicate (19 - (lg_sl ([.ref g0, .int (nI t), .int (nI j), .int v])).length) Slot.unset).toArray = ls at hl ⊢
  have hl : lv_has ls 19 [(0, .ref g0), (1, .int (nI t)), (2, .int (nI j)), (3, .int v)] := hl
  have t0 := z_0
  have t1 : (nI 1).toInt = 1 := by decide
  refine lv_bipush (v := (nI 32)) hx hb dX1_at_0 (by decide) ?_
  refine lv_iload_n hx hb dX1_at_2 rfl (lv_at hl 1 rfl) ?_
  refine lv_imul hx hb dX1_at_3 ?_
  refine tp_i (y := nI (t * 32)) (by rw [pk_mul, Nat.mul_comm]) ?_
  refine lv_istore (lv' := [(4, .int (nI (t * 32))), (0, .ref g0), (1, .int (nI t)), (2, .int (nI j)), (3, .int v)]) hx hb dX1_at_4 hl (by decide) rfl (fun ls hl => ?_)
  refine lv_aload_n hx hb dX1_at_6 rfl (lv_at hl 1 rfl) ?_
  refine va_get (D := (dC, dI)) (ci := 1) (v := .ref b5) (C := RX1) (T := TX1) (N := 14) hx hb hts (by decide +kernel) hown hK hP 0 rfl rfl 11 (by decide) (hts (.fieldLink RX1 28 "MotionDeskModel" "keysOf" "[I") (by decide +kernel)) (fun _ h9 => h9) rfl dX1_at_7 ?_
  refine lv_iload_n hx hb dX1_at_10 rfl (lv_at hl 2 rfl) ?_
  refine va_iald hx hb hK hP 5 0 rfl rfl (vp_in_nI (by omega) (by omega)) dX1_at_11 ?_
  refine tp_i (y := (tk t)) (by rw [nI_clamp (by omega)]) ?_
  refine tp_i (y := nI K) (etk) ?_
  refine lv_iconst (v := (nI 1)) hx hb dX1_at_12 (by decide) ?_
  refine lv_isub hx hb dX1_at_13 ?_
  refine tp_i (y := nI (K - 1)) (pk_sub hK1) ?_
  refine lv_istore (lv' := [(5, .int (nI (K - 1))), (4, .int (nI (t * 32))), (0, .ref g0), (1, .int (nI t)), (2, .int (nI j)), (3, .int v)]) hx hb dX1_at_14 hl (by decide) rfl (fun ls hl => ?_)
  refine lv_iload_n hx hb dX1_at_16 rfl (lv_at hl 5 rfl) ?_
  refine lv_aload_n hx hb dX1_at_17 rfl (lv_at hl 2 rfl) ?_
  refine va_get (D := (dC, dI)) (ci := 1) (v := .ref b6) (C := RX1) (T := TX1) (N := 14) hx hb hts (by decide +kernel) hown hK hP 0 rfl rfl 12 (by decide) (hts (.fieldLink RX1 31 "MotionDeskModel" "times" "[I") (by decide +kernel)) (fun _ h9 => h9) rfl dX1_at_18 ?_
  refine lv_iload hx hb dX1_at_21 (lv_at hl 1 rfl) ?_
  refine va_iald hx hb hK hP 6 0 rfl rfl (vp_in_nI (by omega) (by omega)) dX1_at_23 ?_
  refine tp_i (y := (kt (t * 32))) (by rw [nI_clamp (by omega)]) ?_
  refine lv_icmp_ge (tgt := 39) hx hb dX1_at_24 (by decide) (fun c1 => ?_) (fun c1 => ?_)
  · skip
    have c1 := zle c1
    refine lv_iload_n hx hb dX1_at_39 rfl (lv_at hl 5 rfl) ?_
    refine lv_aload_n hx hb dX1_at_40 rfl (lv_at hl 2 rfl) ?_
    refine va_get (D := (dC, dI)) (ci := 1) (v := .ref b6) (C := RX1) (T := TX1) (N := 14) hx hb hts (by decide +kernel) hown hK hP 0 rfl rfl 12 (by decide) (hts (.fieldLink RX1 31 "MotionDeskModel" "times" "[I") (by decide +kernel)) (fun _ h9 => h9) rfl dX1_at_41 ?_
    refine lv_iload hx hb dX1_at_44 (lv_at hl 1 rfl) ?_
    refine lv_iload hx hb dX1_at_46 (lv_at hl 0 rfl) ?_
    refine lv_iadd hx hb dX1_at_48 ?_
    refine tp_i (y := nI (t * 32 + (K - 1))) (nI_add _ _) ?_
    refine va_iald hx hb hK hP 6 0 rfl rfl (vp_in_nI (by omega) (by omega)) dX1_at_49 ?_
    refine tp_i (y := (kt (t * 32 + (K - 1)))) (by rw [nI_clamp (by omega)]) ?_
    refine lv_icmp_lt (tgt := 70) hx hb dX1_at_50 (by decide) (fun c2 => ?_) (fun c2 => ?_)
    · skip
      have c2 := zlt c2
      refine lv_iconst (v := (nI 0)) hx hb dX1_at_70 (by decide) ?_
      refine lv_istore (lv' := [(6, .int (nI 0)), (5, .int (nI (K - 1))), (4, .int (nI (t * 32))), (0, .ref g0), (1, .int (nI t)), (2, .int (nI j)), (3, .int v)]) hx hb dX1_at_71 hl (by decide) rfl (fun ls hl => ?_)
      obtain ⟨n, k, hn, hn1, hk, hle, hl9⟩ : ∃ n k : Nat, k + n = K - 1 ∧ 1 ≤ n ∧ kif kt v (t * 32 + k) n = kif kt v (t * 32) (K - 1) ∧ (kt (t * 32 + k)).toInt ≤ v.toInt ∧ lv_has ls 19 [(6, .int (nI k)), (5, .int (nI (K - 1))), (4, .int (nI (t * 32))), (0, .ref g0), (1, .int (nI t)), (2, .int (nI j)), (3, .int v)] := by
        refine ⟨K - 1, 0, by omega, ?_, rfl, c1, hl⟩
        rcases Nat.eq_zero_or_pos (K - 1) with q | q
        · exfalso
          rw [q] at c2
          have : (kt (t * 32 + 0)).toInt = (kt (t * 32)).toInt := rfl
          omega
        · exact q
      clear hl; have hl := hl9; clear hl9
      induction n generalizing k ls with
      | zero => omega
      | succ n ih =>
        refine lv_iload_n hx hb dX1_at_73 rfl (lv_at hl 6 rfl) ?_
        refine lv_aload_n hx hb dX1_at_74 rfl (lv_at hl 3 rfl) ?_
        refine va_get (D := (dC, dI)) (ci := 1) (v := .ref b6) (C := RX1) (T := TX1) (N := 14) hx hb hts (by decide +kernel) hown hK hP 0 rfl rfl 12 (by decide) (hts (.fieldLink RX1 31 "MotionDeskModel" "times" "[I") (by decide +kernel)) (fun _ h9 => h9) rfl dX1_at_75 ?_
        refine lv_iload hx hb dX1_at_78 (lv_at hl 2 rfl) ?_
        refine lv_iload hx hb dX1_at_80 (lv_at hl 0 rfl) ?_
        refine lv_iadd hx hb dX1_at_82 ?_
        refine tp_i (y := nI (t * 32 + k)) (nI_add _ _) ?_
        refine lv_iconst (v := (nI 1)) hx hb dX1_at_83 (by decide) ?_
        refine lv_iadd hx hb dX1_at_84 ?_
        refine tp_i (y := nI (t * 32 + k + 1)) (nI_1 _) ?_
        refine va_iald hx hb hK hP 6 0 rfl rfl (vp_in_nI (by omega) (by omega)) dX1_at_85 ?_
        refine tp_i (y := (kt (t * 32 + k + 1))) (by rw [nI_clamp (by omega)]) ?_
        refine lv_icmp_lt (tgt := 95) hx hb dX1_at_86 (by decide) (fun c3 => ?_) (fun c3 => ?_)
        · skip
          have c3 := zlt c3
          have ek : kif kt v (t * 32) (K - 1) = t * 32 + k := by rw [← hk, kif_s, if_neg (by omega)]
          have gv0 : q_time (kt (t * 32 + k)) := hg.1 k (by omega)
          have gv1 : q_time (kt (t * 32 + k + 1)) := by have := hg.1 (k + 1) (by omega); rwa [← Nat.add_assoc] at this
          have gl : (kt (t * 32 + k)).toInt < (kt (t * 32 + k + 1)).toInt := hg.2 k (by omega)
          have hp : plv kt kn v (th t) (t * 32) K j = btw kt kn v (th t) (t * 32 + k) j := by unfold plv; rw [ek, if_neg (by omega)]
          have s1 := sub64 hv gv0
          have s2 := sub64 gv1 gv0
          have p2 := pos64 gv1 gv0 gl
          refine lv_aload_n hx hb dX1_at_95 rfl (lv_at hl 3 rfl) ?_
          refine va_get (D := (dC, dI)) (ci := 1) (v := .ref b6) (C := RX1) (T := TX1) (N := 14) hx hb hts (by decide +kernel) hown hK hP 0 rfl rfl 12 (by decide) (hts (.fieldLink RX1 31 "MotionDeskModel" "times" "[I") (by decide +kernel)) (fun _ h9 => h9) rfl dX1_at_96 ?_
          refine lv_iload hx hb dX1_at_99 (lv_at hl 2 rfl) ?_
          refine lv_iload hx hb dX1_at_101 (lv_at hl 0 rfl) ?_
          refine lv_iadd hx hb dX1_at_103 ?_
          refine tp_i (y := nI (t * 32 + k)) (nI_add _ _) ?_
          refine va_iald hx hb hK hP 6 0 rfl rfl (vp_in_nI (by omega) (by omega)) dX1_at_104 ?_
          refine tp_i (y := (kt (t * 32 + k))) (by rw [nI_clamp (by omega)]) ?_
          refine lv_i2l (v := (kt (t * 32 + k)).toInt64) hx hb dX1_at_105 rfl ?_
          refine lv_lstore (lv' := [(7, .long ((kt (t * 32 + k)).toInt64)), (6, .int (nI k)), (5, .int (nI (K - 1))), (4, .int (nI (t * 32))), (0, .ref g0), (1, .int (nI t)), (2, .int (nI j)), (3, .int v)]) hx hb dX1_at_106 hl (by decide) rfl (fun ls hl => ?_)
          refine lv_aload_n hx hb dX1_at_108 rfl (lv_at hl 4 rfl) ?_
          refine va_get (D := (dC, dI)) (ci := 1) (v := .ref b6) (C := RX1) (T := TX1) (N := 14) hx hb hts (by decide +kernel) hown hK hP 0 rfl rfl 12 (by decide) (hts (.fieldLink RX1 31 "MotionDeskModel" "times" "[I") (by decide +kernel)) (fun _ h9 => h9) rfl dX1_at_109 ?_
          refine lv_iload hx hb dX1_at_112 (lv_at hl 3 rfl) ?_
          refine lv_iload hx hb dX1_at_114 (lv_at hl 1 rfl) ?_
          refine lv_iadd hx hb dX1_at_116 ?_
          refine tp_i (y := nI (t * 32 + k)) (nI_add _ _) ?_
          refine lv_iconst (v := (nI 1)) hx hb dX1_at_117 (by decide) ?_
          refine lv_iadd hx hb dX1_at_118 ?_
          refine tp_i (y := nI (t * 32 + k + 1)) (nI_1 _) ?_
          refine va_iald hx hb hK hP 6 0 rfl rfl (vp_in_nI (by omega) (by omega)) dX1_at_119 ?_
          refine tp_i (y := (kt (t * 32 + k + 1))) (by rw [nI_clamp (by omega)]) ?_
          refine lv_i2l (v := (kt (t * 32 + k + 1)).toInt64) hx hb dX1_at_120 rfl ?_
          refine lv_lstore (lv' := [(9, .long ((kt (t * 32 + k + 1)).toInt64)), (7, .long ((kt (t * 32 + k)).toInt64)), (6, .int (nI k)), (5, .int (nI (K - 1))), (4, .int (nI (t * 32))), (0, .ref g0), (1, .int (nI t)), (2, .int (nI j)), (3, .int v)]) hx hb dX1_at_121 hl (by decide) rfl (fun ls hl => ?_)
          refine lv_aload_n hx hb dX1_at_123 rfl (lv_at hl 5 rfl) ?_
          refine va_get (D := (dC, dI)) (ci := 1) (v := .ref b7) (C := RX1) (T := TX1) (N := 14) hx hb hts (by decide +kernel) hown hK hP 0 rfl rfl 13 (by decide) (hts (.fieldLink RX1 34 "MotionDeskModel" "values" "[I") (by decide +kernel)) (fun _ h9 => h9) rfl dX1_at_124 ?_
          refine lv_bipush (v := (nI 96)) hx hb dX1_at_127 (by decide) ?_
          refine lv_iload_n hx hb dX1_at_129 rfl (lv_at hl 6 rfl) ?_
          refine lv_imul hx hb dX1_at_130 ?_
          refine tp_i (y := nI (t * 96)) (by rw [pk_mul, Nat.mul_comm]) ?_
          refine lv_iconst (v := (nI 3)) hx hb dX1_at_131 (by decide) ?_
          refine lv_iload hx hb dX1_at_132 (lv_at hl 2 rfl) ?_
          refine lv_imul hx hb dX1_at_134 ?_
          refine tp_i (y := nI (k * 3)) (by rw [pk_mul, Nat.mul_comm]) ?_
          refine lv_iadd hx hb dX1_at_135 ?_
          refine tp_i (y := nI ((t * 32 + k) * 3)) (by rw [nI_add, show t * 96 + k * 3 = (t * 32 + k) * 3 by omega]) ?_
          refine lv_iload_n hx hb dX1_at_136 rfl (lv_at hl 7 rfl) ?_
          refine lv_iadd hx hb dX1_at_137 ?_
          refine tp_i (y := nI ((t * 32 + k) * 3 + j)) (nI_add _ _) ?_
          refine va_iald hx hb hK hP 7 0 rfl rfl (vp_in_nI (by omega) (by omega)) dX1_at_138 ?_
          refine tp_i (y := (kn ((t * 32 + k) * 3 + j))) (by rw [nI_clamp (by omega)]) ?_
          refine lv_i2l (v := (kn ((t * 32 + k) * 3 + j)).toInt64) hx hb dX1_at_139 rfl ?_
          refine lv_lstore (lv' := [(11, .long ((kn ((t * 32 + k) * 3 + j)).toInt64)), (9, .long ((kt (t * 32 + k + 1)).toInt64)), (7, .long ((kt (t * 32 + k)).toInt64)), (6, .int (nI k)), (5, .int (nI (K - 1))), (4, .int (nI (t * 32))), (0, .ref g0), (1, .int (nI t)), (2, .int (nI j)), (3, .int v)]) hx hb dX1_at_140 hl (by decide) rfl (fun ls hl => ?_)
          refine lv_aload_n hx hb dX1_at_142 rfl (lv_at hl 6 rfl) ?_
          refine va_get (D := (dC, dI)) (ci := 1) (v := .ref b7) (C := RX1) (T := TX1) (N := 14) hx hb hts (by decide +kernel) hown hK hP 0 rfl rfl 13 (by decide) (hts (.fieldLink RX1 34 "MotionDeskModel" "values" "[I") (by decide +kernel)) (fun _ h9 => h9) rfl dX1_at_143 ?_
          refine lv_bipush (v := (nI 96)) hx hb dX1_at_146 (by decide) ?_
          refine lv_iload_n hx hb dX1_at_148 rfl (lv_at hl 7 rfl) ?_
          refine lv_imul hx hb dX1_at_149 ?_
          refine tp_i (y := nI (t * 96)) (by rw [pk_mul, Nat.mul_comm]) ?_
          refine lv_iconst (v := (nI 3)) hx hb dX1_at_150 (by decide) ?_
          refine lv_iload hx hb dX1_at_151 (lv_at hl 3 rfl) ?_
          refine lv_imul hx hb dX1_at_153 ?_
          refine tp_i (y := nI (k * 3)) (by rw [pk_mul, Nat.mul_comm]) ?_
          refine lv_iadd hx hb dX1_at_154 ?_
          refine tp_i (y := nI ((t * 32 + k) * 3)) (by rw [nI_add, show t * 96 + k * 3 = (t * 32 + k) * 3 by omega]) ?_
          refine lv_iconst (v := (nI 3)) hx hb dX1_at_155 (by decide) ?_
          refine lv_iadd hx hb dX1_at_156 ?_
          refine tp_i (y := nI ((t * 32 + k + 1) * 3)) (by rw [nI_add, show (t * 32 + k) * 3 + 3 = (t * 32 + k + 1) * 3 by omega]) ?_
          refine lv_iload_n hx hb dX1_at_157 rfl (lv_at hl 8 rfl) ?_
          refine lv_iadd hx hb dX1_at_158 ?_
          refine tp_i (y := nI ((t * 32 + k + 1) * 3 + j)) (nI_add _ _) ?_
          refine va_iald hx hb hK hP 7 0 rfl rfl (vp_in_nI (by omega) (by omega)) dX1_at_159 ?_
          refine tp_i (y := (kn ((t * 32 + k + 1) * 3 + j))) (by rw [nI_clamp (by omega)]) ?_
          refine lv_i2l (v := (kn ((t * 32 + k + 1) * 3 + j)).toInt64) hx hb dX1_at_160 rfl ?_
          refine lv_lstore (lv' := [(13, .long ((kn ((t * 32 + k + 1) * 3 + j)).toInt64)), (11, .long ((kn ((t * 32 + k) * 3 + j)).toInt64)), (9, .long ((kt (t * 32 + k + 1)).toInt64)), (7, .long ((kt (t * 32 + k)).toInt64)), (6, .int (nI k)), (5, .int (nI (K - 1))), (4, .int (nI (t * 32))), (0, .ref g0), (1, .int (nI t)), (2, .int (nI j)), (3, .int v)]) hx hb dX1_at_161 hl (by decide) rfl (fun ls hl => ?_)
          refine lv_aload_n hx hb dX1_at_163 rfl (lv_at hl 7 rfl) ?_
          refine va_get (D := (dC, dI)) (ci := 1) (v := .ref b4) (C := RX1) (T := TX1) (N := 14) hx hb hts (by decide +kernel) hown hK hP 0 rfl rfl 10 (by decide) (hts (.fieldLink RX1 25 "MotionDeskModel" "howOf" "[I") (by decide +kernel)) (fun _ h9 => h9) rfl dX1_at_164 ?_
          refine lv_iload_n hx hb dX1_at_167 rfl (lv_at hl 8 rfl) ?_
          refine va_iald hx hb hK hP 4 0 rfl rfl (vp_in_nI (by omega) (by omega)) dX1_at_168 ?_
          refine tp_i (y := (th t)) (by rw [nI_clamp (by omega)]) ?_
          refine lv_if_ne (tgt := 176) hx hb dX1_at_169 (by decide) (fun c4 => ?_) (fun c4 => ?_)
          · skip
            have c4 := zne c4
            refine lv_aload_n hx hb dX1_at_176 rfl (lv_at hl 7 rfl) ?_
            refine va_get (D := (dC, dI)) (ci := 1) (v := .ref b4) (C := RX1) (T := TX1) (N := 14) hx hb hts (by decide +kernel) hown hK hP 0 rfl rfl 10 (by decide) (hts (.fieldLink RX1 25 "MotionDeskModel" "howOf" "[I") (by decide +kernel)) (fun _ h9 => h9) rfl dX1_at_177 ?_
            refine lv_iload_n hx hb dX1_at_180 rfl (lv_at hl 8 rfl) ?_
            refine va_iald hx hb hK hP 4 0 rfl rfl (vp_in_nI (by omega) (by omega)) dX1_at_181 ?_
            refine tp_i (y := (th t)) (by rw [nI_clamp (by omega)]) ?_
            refine lv_iconst (v := (nI 1)) hx hb dX1_at_182 (by decide) ?_
            refine lv_icmp_ne (tgt := 210) hx hb dX1_at_183 (by decide) (fun c5 => ?_) (fun c5 => ?_)
            · skip
              have c5 := zne c5
              refine lv_iload_n hx hb dX1_at_210 rfl (lv_at hl 10 rfl) ?_
              refine lv_i2l (v := v.toInt64) hx hb dX1_at_211 rfl ?_
              refine lv_lload hx hb dX1_at_212 (lv_at hl 3 rfl) ?_
              refine lv_lsub hx hb dX1_at_214 ?_
              refine lv_ldc2 (v := 65536) hx hb hown (hts (.constantLong RX1 61 65536) (by decide +kernel)) dX1_at_215 ?_
              refine lv_lmul hx hb dX1_at_218 ?_
              refine lv_lload hx hb dX1_at_219 (lv_at hl 2 rfl) ?_
              refine lv_lload hx hb dX1_at_221 (lv_at hl 3 rfl) ?_
              refine lv_lsub hx hb dX1_at_223 ?_
              refine vp_callSl (W.runS (As := [.long ((v.toInt64 - ((kt (t * 32 + k)).toInt64)) * 65536), .long (((kt (t * 32 + k + 1)).toInt64) - ((kt (t * 32 + k)).toInt64))]) (rest := []) ⟨hx, hb, hml, hown, hts⟩ (cm_div l ((v.toInt64 - ((kt (t * 32 + k)).toInt64)) * 65536) (((kt (t * 32 + k + 1)).toInt64) - ((kt (t * 32 + k)).toInt64)) p2) (va_cwS 2 hts gX1_at_X1_div rfl rfl rfl (by decide +kernel) ⟨Nat.le_of_ble_eq_true rfl, Nat.le_of_ble_eq_true rfl⟩) preEq rfl rfl hl.1 rfl (lv_room (Nat.le_of_ble_eq_true rfl)) dX1_at_224 ⟨Nat.le_of_ble_eq_true rfl, Nat.le_of_ble_eq_true rfl⟩) (fun r6 h_r6 => ?_)
              refine lv_lstore (lv' := [(15, .long r6), (13, .long ((kn ((t * 32 + k + 1) * 3 + j)).toInt64)), (11, .long ((kn ((t * 32 + k) * 3 + j)).toInt64)), (9, .long ((kt (t * 32 + k + 1)).toInt64)), (7, .long ((kt (t * 32 + k)).toInt64)), (6, .int (nI k)), (5, .int (nI (K - 1))), (4, .int (nI (t * 32))), (0, .ref g0), (1, .int (nI t)), (2, .int (nI j)), (3, .int v)]) hx hb dX1_at_227 hl (by decide) rfl (fun ls hl => ?_)
              refine lv_lload hx hb dX1_at_229 (lv_at hl 0 rfl) ?_
              refine lv_lload hx hb dX1_at_231 (lv_at hl 0 rfl) ?_
              refine vp_callSl (W.runS (As := [.long r6, .long r6]) (rest := []) ⟨hx, hb, hml, hown, hts⟩ (cm_mul l r6 r6) (va_cwS 2 hts gX1_at_X1_mul rfl rfl rfl (by decide +kernel) ⟨Nat.le_of_ble_eq_true rfl, Nat.le_of_ble_eq_true rfl⟩) preEq rfl rfl hl.1 rfl (lv_room (Nat.le_of_ble_eq_true rfl)) dX1_at_233 ⟨Nat.le_of_ble_eq_true rfl, Nat.le_of_ble_eq_true rfl⟩) (fun r7 h_r7 => ?_)
              refine lv_ldc2 (v := 196608) hx hb hown (hts (.constantLong RX1 70 196608) (by decide +kernel)) dX1_at_236 ?_
              refine lv_ldc2 (v := 2) hx hb hown (hts (.constantLong RX1 72 2) (by decide +kernel)) dX1_at_239 ?_
              refine lv_lload hx hb dX1_at_242 (lv_at hl 0 rfl) ?_
              refine lv_lmul hx hb dX1_at_244 ?_
              refine lv_lsub hx hb dX1_at_245 ?_
              refine vp_callSl (W.runS (As := [.long r7, .long (196608 - (2 * r6))]) (rest := []) ⟨hx, hb, hml, hown, hts⟩ (cm_mul l r7 (196608 - (2 * r6))) (va_cwS 2 hts gX1_at_X1_mul rfl rfl rfl (by decide +kernel) ⟨Nat.le_of_ble_eq_true rfl, Nat.le_of_ble_eq_true rfl⟩) preEq rfl rfl hl.1 rfl (lv_room (Nat.le_of_ble_eq_true rfl)) dX1_at_246 ⟨Nat.le_of_ble_eq_true rfl, Nat.le_of_ble_eq_true rfl⟩) (fun r8 h_r8 => ?_)
              refine lv_lstore (lv' := [(17, .long r8), (15, .long r6), (13, .long ((kn ((t * 32 + k + 1) * 3 + j)).toInt64)), (11, .long ((kn ((t * 32 + k) * 3 + j)).toInt64)), (9, .long ((kt (t * 32 + k + 1)).toInt64)), (7, .long ((kt (t * 32 + k)).toInt64)), (6, .int (nI k)), (5, .int (nI (K - 1))), (4, .int (nI (t * 32))), (0, .ref g0), (1, .int (nI t)), (2, .int (nI j)), (3, .int v)]) hx hb dX1_at_249 hl (by decide) rfl (fun ls hl => ?_)
              refine lv_lload hx hb dX1_at_251 (lv_at hl 3 rfl) ?_
              refine lv_lload hx hb dX1_at_253 (lv_at hl 2 rfl) ?_
              refine lv_lload hx hb dX1_at_255 (lv_at hl 3 rfl) ?_
              refine lv_lsub hx hb dX1_at_257 ?_
              refine lv_lload hx hb dX1_at_258 (lv_at hl 0 rfl) ?_
              refine vp_callSl (W.runS (As := [.long (((kn ((t * 32 + k + 1) * 3 + j)).toInt64) - ((kn ((t * 32 + k) * 3 + j)).toInt64)), .long r8]) (rest := [.long ((kn ((t * 32 + k) * 3 + j)).toInt64)]) ⟨hx, hb, hml, hown, hts⟩ (cm_mul l (((kn ((t * 32 + k + 1) * 3 + j)).toInt64) - ((kn ((t * 32 + k) * 3 + j)).toInt64)) r8) (va_cwS 2 hts gX1_at_X1_mul rfl rfl rfl (by decide +kernel) ⟨Nat.le_of_ble_eq_true rfl, Nat.le_of_ble_eq_true rfl⟩) preEq rfl rfl hl.1 rfl (lv_room (Nat.le_of_ble_eq_true rfl)) dX1_at_260 ⟨Nat.le_of_ble_eq_true rfl, Nat.le_of_ble_eq_true rfl⟩) (fun r9 h_r9 => ?_)
              refine lv_ladd hx hb dX1_at_263 ?_
              refine lv_l2i (v := (((kn ((t * 32 + k) * 3 + j)).toInt64) + r9).toInt32) hx hb dX1_at_264 rfl ?_
              exact W.iret (v := (((kn ((t * 32 + k) * 3 + j)).toInt64) + r9).toInt32) hx hb hr (fun t9 ht9 hW9 => ⟨_, rfl, by rw [hp]; unfold btw; unfold q_how at hw; rw [if_neg (by omega), if_pos (by omega), s1, s2, h_r9, h_r8, h_r7, h_r6]; rfl, ht9⟩) (fun q h => by cases h) dX1_at_265
            · skip
              have c5 := zeq c5
              refine lv_lload hx hb dX1_at_186 (lv_at hl 1 rfl) ?_
              refine lv_lload hx hb dX1_at_188 (lv_at hl 0 rfl) ?_
              refine lv_lload hx hb dX1_at_190 (lv_at hl 1 rfl) ?_
              refine lv_lsub hx hb dX1_at_192 ?_
              refine lv_iload_n hx hb dX1_at_193 rfl (lv_at hl 10 rfl) ?_
              refine lv_i2l (v := v.toInt64) hx hb dX1_at_194 rfl ?_
              refine lv_lload hx hb dX1_at_195 (lv_at hl 3 rfl) ?_
              refine lv_lsub hx hb dX1_at_197 ?_
              refine lv_lmul hx hb dX1_at_198 ?_
              refine lv_lload hx hb dX1_at_199 (lv_at hl 2 rfl) ?_
              refine lv_lload hx hb dX1_at_201 (lv_at hl 3 rfl) ?_
              refine lv_lsub hx hb dX1_at_203 ?_
              refine vp_callSl (W.runS (As := [.long ((((kn ((t * 32 + k + 1) * 3 + j)).toInt64) - ((kn ((t * 32 + k) * 3 + j)).toInt64)) * (v.toInt64 - ((kt (t * 32 + k)).toInt64))), .long (((kt (t * 32 + k + 1)).toInt64) - ((kt (t * 32 + k)).toInt64))]) (rest := [.long ((kn ((t * 32 + k) * 3 + j)).toInt64)]) ⟨hx, hb, hml, hown, hts⟩ (cm_div l ((((kn ((t * 32 + k + 1) * 3 + j)).toInt64) - ((kn ((t * 32 + k) * 3 + j)).toInt64)) * (v.toInt64 - ((kt (t * 32 + k)).toInt64))) (((kt (t * 32 + k + 1)).toInt64) - ((kt (t * 32 + k)).toInt64)) p2) (va_cwS 2 hts gX1_at_X1_div rfl rfl rfl (by decide +kernel) ⟨Nat.le_of_ble_eq_true rfl, Nat.le_of_ble_eq_true rfl⟩) preEq rfl rfl hl.1 rfl (lv_room (Nat.le_of_ble_eq_true rfl)) dX1_at_204 ⟨Nat.le_of_ble_eq_true rfl, Nat.le_of_ble_eq_true rfl⟩) (fun r10 h_r10 => ?_)
              refine lv_ladd hx hb dX1_at_207 ?_
              refine lv_l2i (v := (((kn ((t * 32 + k) * 3 + j)).toInt64) + r10).toInt32) hx hb dX1_at_208 rfl ?_
              exact W.iret (v := (((kn ((t * 32 + k) * 3 + j)).toInt64) + r10).toInt32) hx hb hr (fun t9 ht9 hW9 => ⟨_, rfl, by rw [hp]; unfold btw; rw [if_pos (by omega), s1, s2, h_r10], ht9⟩) (fun q h => by cases h) dX1_at_209
          · skip
            have c4 := zeq c4
            refine lv_lload hx hb dX1_at_172 (lv_at hl 1 rfl) ?_
            refine lv_l2i (v := ((kn ((t * 32 + k) * 3 + j)).toInt64).toInt32) hx hb dX1_at_174 rfl ?_
            exact W.iret (v := ((kn ((t * 32 + k) * 3 + j)).toInt64).toInt32) hx hb hr (fun t9 ht9 hW9 => ⟨_, rfl, by rw [hp]; unfold btw; unfold q_how at hw; rw [if_neg (by omega), if_neg (by omega)], ht9⟩) (fun q h => by cases h) dX1_at_175
        · skip
          have c3 := znlt c3
          refine lv_iinc (v := nI (k + 1)) (lv' := [(6, .int (nI (k + 1))), (5, .int (nI (K - 1))), (4, .int (nI (t * 32))), (0, .ref g0), (1, .int (nI t)), (2, .int (nI j)), (3, .int v)]) hx hb dX1_at_89 hl (k := 0) rfl (nI_1 k) (by decide) rfl (fun ls hl => ?_)
          refine lv_goto (tgt := 73) hx hb dX1_at_92 (by decide) ?_
          have hn2 : 1 ≤ n := by
            rcases Nat.eq_zero_or_pos n with q | q
            · exfalso
              rw [show t * 32 + k + 1 = t * 32 + (K - 1) by omega] at c3
              omega
            · exact q
          exact ih (ls := ls) (k := k + 1) (by omega) hn2 (by rw [← hk, kif_s, if_pos c3, Nat.add_assoc]) (by rw [← Nat.add_assoc]; exact c3) (lv_sub hl [0, 1, 2, 3, 4, 5, 6] rfl)
    · skip
      have c2 := znlt c2
      refine lv_aload_n hx hb dX1_at_53 rfl (lv_at hl 2 rfl) ?_
      refine va_get (D := (dC, dI)) (ci := 1) (v := .ref b7) (C := RX1) (T := TX1) (N := 14) hx hb hts (by decide +kernel) hown hK hP 0 rfl rfl 13 (by decide) (hts (.fieldLink RX1 34 "MotionDeskModel" "values" "[I") (by decide +kernel)) (fun _ h9 => h9) rfl dX1_at_54 ?_
      refine lv_bipush (v := (nI 96)) hx hb dX1_at_57 (by decide) ?_
      refine lv_iload_n hx hb dX1_at_59 rfl (lv_at hl 3 rfl) ?_
      refine lv_imul hx hb dX1_at_60 ?_
      refine tp_i (y := nI (t * 96)) (by rw [pk_mul, Nat.mul_comm]) ?_
      refine lv_iconst (v := (nI 3)) hx hb dX1_at_61 (by decide) ?_
      refine lv_iload hx hb dX1_at_62 (lv_at hl 0 rfl) ?_
      refine lv_imul hx hb dX1_at_64 ?_
      refine tp_i (y := nI ((K - 1) * 3)) (by rw [pk_mul, Nat.mul_comm]) ?_
      refine lv_iadd hx hb dX1_at_65 ?_
      refine tp_i (y := nI ((t * 32 + (K - 1)) * 3)) (by rw [nI_add, show t * 96 + (K - 1) * 3 = (t * 32 + (K - 1)) * 3 by omega]) ?_
      refine lv_iload_n hx hb dX1_at_66 rfl (lv_at hl 4 rfl) ?_
      refine lv_iadd hx hb dX1_at_67 ?_
      refine tp_i (y := nI ((t * 32 + (K - 1)) * 3 + j)) (nI_add _ _) ?_
      refine va_iald hx hb hK hP 7 0 rfl rfl (vp_in_nI (by omega) (by omega)) dX1_at_68 ?_
      refine tp_i (y := (kn ((t * 32 + (K - 1)) * 3 + j))) (by rw [nI_clamp (by omega)]) ?_
      exact W.iret (v := (kn ((t * 32 + (K - 1)) * 3 + j))) hx hb hr (fun t9 ht9 hW9 => ⟨_, rfl, by unfold plv; rw [kif_all (K - 1) (t * 32) (fun i h1 h2 => by have := grow_le hg (t * 32 + (K - 1) - i) (i - t * 32) (by omega); rw [show t * 32 + (i - t * 32) = i by omega, show t * 32 + (i - t * 32 + (t * 32 + (K - 1) - i)) = t * 32 + (K - 1) by omega] at this; omega), if_pos (Or.inl (by omega))], ht9⟩) (fun q h => by cases h) dX1_at_69
  · skip
    have c1 := znle c1
    refine lv_aload_n hx hb dX1_at_27 rfl (lv_at hl 2 rfl) ?_
    refine va_get (D := (dC, dI)) (ci := 1) (v := .ref b7) (C := RX1) (T := TX1) (N := 14) hx hb hts (by decide +kernel) hown hK hP 0 rfl rfl 13 (by decide) (hts (.fieldLink RX1 34 "MotionDeskModel" "values" "[I") (by decide +kernel)) (fun _ h9 => h9) rfl dX1_at_28 ?_
    refine lv_bipush (v := (nI 96)) hx hb dX1_at_31 (by decide) ?_
    refine lv_iload_n hx hb dX1_at_33 rfl (lv_at hl 3 rfl) ?_
    refine lv_imul hx hb dX1_at_34 ?_
    refine tp_i (y := nI (t * 96)) (by rw [pk_mul, Nat.mul_comm]) ?_
    refine lv_iload_n hx hb dX1_at_35 rfl (lv_at hl 4 rfl) ?_
    refine lv_iadd hx hb dX1_at_36 ?_
    refine tp_i (y := nI (t * 32 * 3 + j)) (by rw [nI_add, show t * 96 = t * 32 * 3 by omega]) ?_
    refine va_iald hx hb hK hP 7 0 rfl rfl (vp_in_nI (by omega) (by omega)) dX1_at_37 ?_
    refine tp_i (y := (kn (t * 32 * 3 + j))) (by rw [nI_clamp (by omega)]) ?_
    exact W.iret (v := (kn (t * 32 * 3 + j))) hx hb hr (fun t9 ht9 hW9 => ⟨_, rfl, by unfold plv; rw [kif_none (K - 1) (t * 32) (fun h => by have := hg.2 0 (by omega); rw [Nat.add_zero] at this; omega), if_pos (Or.inr c1)], ht9⟩) (fun q h => by cases h) dX1_at_38
