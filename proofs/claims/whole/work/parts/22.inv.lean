-- a state in order
def iG (N T X : Nat) (tn tw th tk kt xt : Nat → Int32) : Prop := (1 ≤ N ∧ N ≤ 48) ∧ T ≤ 32 ∧ X ≤ 32 ∧ (∀ j, j < T → q_trk N tn tw tk j ∧ q_how (th j) ∧ q_grow kt (j * 32) (tk j).toInt.toNat) ∧ q_grow xt 0 X
theorem iG_0 {N : Nat} {tn tw th tk kt xt : Nat → Int32} (h : 1 ≤ N ∧ N ≤ 48) : iG N 0 0 tn tw th tk kt xt := ⟨h, by omega, by omega, fun j hj => absurd hj (by omega), fun k hk => absurd hk (by omega), fun k hk => absurd hk (by omega)⟩
theorem iG_clear {N T X : Nat} {tn tw th tk kt xt : Nat → Int32} (h : iG N T X tn tw th tk kt xt) : iG N 0 X tn tw th tk kt xt := ⟨h.1, by omega, h.2.2.1, fun j hj => absurd hj (by omega), h.2.2.2.2⟩
theorem upd_n {f : Nat → Int32} {k j : Nat} {x : Int32} (h : j ≠ k) : upd f k x j = f j := by unfold upd; rw [if_neg h]
theorem upd_s {f : Nat → Int32} {k : Nat} {x : Int32} : upd f k x k = x := by unfold upd; rw [if_pos rfl]
theorem iG_key {N T X : Nat} {tn tw th tk kt xt xn : Nat → Int32} {t x1 x2 x3 r : Int32} {u : Nat × (Nat → Int32) × (Nat → Int32)} (h : iG N T X tn tw th tk kt xt)
    (hw : ((X < 32 ∧ q_time t ∧ q_can (nI 0) x1 x2 x3 ∧ (0 < X → (xt (X - 1)).toInt < t.toInt)) → r = nI (X + 1) ∧ u = (X + 1, upd xt X t, put3 xn (X * 3) x1 x2 x3)) ∧ (¬ (X < 32 ∧ q_time t ∧ q_can (nI 0) x1 x2 x3 ∧ (0 < X → (xt (X - 1)).toInt < t.toInt)) → r = -1 ∧ u = (X, xt, xn))) : iG N T u.1 tn tw th tk kt u.2.1 := by
  by_cases c : (X < 32 ∧ q_time t ∧ q_can (nI 0) x1 x2 x3 ∧ (0 < X → (xt (X - 1)).toInt < t.toInt))
  · obtain ⟨-, rfl⟩ := hw.1 c
    obtain ⟨h1, h2, h3, h4, h5⟩ := h
    refine ⟨h1, h2, by show X + 1 ≤ 32; omega, h4, fun k hk => ?_, fun k hk => ?_⟩
    · have hk : k < X + 1 := hk
      show q_time (upd xt X t (0 + k))
      by_cases e : 0 + k = X
      · rw [e, upd_s]; exact c.2.1
      · rw [upd_n e]; exact h5.1 k (by omega)
    · have hk : k + 1 < X + 1 := hk
      show (upd xt X t (0 + k)).toInt < (upd xt X t (0 + k + 1)).toInt
      rw [upd_n (show 0 + k ≠ X by omega)]
      by_cases e : 0 + k + 1 = X
      · rw [e, upd_s]
        have := c.2.2.2 (by omega)
        rw [show X - 1 = 0 + k by omega] at this
        exact this
      · rw [upd_n e]; exact h5.2 k (by omega)
  · obtain ⟨-, rfl⟩ := hw.2 c
    exact h
theorem iG_track {N T X : Nat} {tn tw th tk kt kn xt xn : Nat → Int32} {x y z r : Int32} {u : Nat × (Nat → Int32) × (Nat → Int32) × (Nat → Int32) × (Nat → Int32) × (Nat → Int32) × (Nat → Int32)} (h : iG N T X tn tw th tk kt xt)
    (hw : ((X ≠ 0 ∧ T < 32 ∧ q_node N x ∧ q_what y ∧ q_how z ∧ q_all y xn X) → r = nI T ∧ u = (T + 1, upd tn T x, upd tw T y, upd th T z, upd tk T (nI X), va_cpy xt kt 0 (T * 32) X, va_cpy xn kn 0 (T * 32 * 3) (X * 3))) ∧ (¬ (X ≠ 0 ∧ T < 32 ∧ q_node N x ∧ q_what y ∧ q_how z ∧ q_all y xn X) → r = -1 ∧ u = (T, tn, tw, th, tk, kt, kn))) : iG N u.1 0 u.2.1 u.2.2.1 u.2.2.2.1 u.2.2.2.2.1 u.2.2.2.2.2.1 xt := by
  have z0 : q_grow xt 0 0 := ⟨fun k hk => absurd hk (by omega), fun k hk => absurd hk (by omega)⟩
  by_cases c : (X ≠ 0 ∧ T < 32 ∧ q_node N x ∧ q_what y ∧ q_how z ∧ q_all y xn X)
  · obtain ⟨-, rfl⟩ := hw.1 c
    obtain ⟨h1, h2, h3, h4, h5⟩ := h
    refine ⟨h1, by show T + 1 ≤ 32; omega, by omega, fun j hj => ?_, z0⟩
    have hj : j < T + 1 := hj
    show (q_node N (upd tn T x j) ∧ q_what (upd tw T y j) ∧ 1 ≤ (upd tk T (nI X) j).toInt ∧ (upd tk T (nI X) j).toInt ≤ 32) ∧ q_how (upd th T z j) ∧ q_grow (va_cpy xt kt 0 (T * 32) X) (j * 32) (upd tk T (nI X) j).toInt.toNat
    by_cases e : j = T
    · subst e
      rw [upd_s, upd_s, upd_s, upd_s, nI_toInt (by omega)]
      have q : ∀ k, k < X → va_cpy xt kt 0 (j * 32) X (j * 32 + k) = xt (0 + k) := by
        intro k hk
        unfold va_cpy
        rw [if_pos (by omega), show j * 32 + k - j * 32 = k by omega]
      refine ⟨⟨c.2.2.1, c.2.2.2.1, by omega, by omega⟩, c.2.2.2.2.1, fun k hk => ?_, fun k hk => ?_⟩
      · rw [q k (by omega)]; exact h5.1 k (by omega)
      · rw [q k (by omega), Nat.add_assoc, q (k + 1) (by omega)]; exact h5.2 k (by omega)
    · obtain ⟨g1, g2, g3⟩ := h4 j (by omega)
      rw [upd_n e, upd_n e, upd_n e, upd_n e]
      have hk32 := g1.2.2.2
      have q : ∀ k, k < 32 → va_cpy xt kt 0 (T * 32) X (j * 32 + k) = kt (j * 32 + k) := by
        intro k hk
        unfold va_cpy
        rw [if_neg (by omega)]
      refine ⟨g1, g2, fun k hk => ?_, fun k hk => ?_⟩
      · rw [q k (by omega)]; exact g3.1 k hk
      · rw [q k (by omega), Nat.add_assoc, q (k + 1) (by omega)]; exact g3.2 k hk
  · obtain ⟨-, rfl⟩ := hw.2 c
    exact ⟨h.1, h.2.1, by omega, h.2.2.2.1, z0⟩
theorem same2 {P : Prop} {α β : Type} {r1 r2 a b : α} {u1 u2 c d : β} (h1 : (P → r1 = a ∧ u1 = c) ∧ (¬ P → r1 = b ∧ u1 = d)) (h2 : (P → r2 = a ∧ u2 = c) ∧ (¬ P → r2 = b ∧ u2 = d)) : r1 = r2 ∧ u1 = u2 := by
  by_cases q : P
  · exact ⟨(h1.1 q).1.trans (h2.1 q).1.symm, (h1.1 q).2.trans (h2.1 q).2.symm⟩
  · exact ⟨(h1.2 q).1.trans (h2.2 q).1.symm, (h1.2 q).2.trans (h2.2 q).2.symm⟩
theorem same1 {P : Prop} {α : Type} {r1 r2 a b : α} (h1 : (P → r1 = a) ∧ (¬ P → r1 = b)) (h2 : (P → r2 = a) ∧ (¬ P → r2 = b)) : r1 = r2 := by
  by_cases q : P
  · exact (h1.1 q).trans (h2.1 q).symm
  · exact (h1.2 q).trans (h2.2 q).symm
theorem arr_of {args : Array Value} {s : State} (h : (Cond.arrayClass .int).before args s = true) : ∃ cA : ClassId, ArrOfT s cA .int ∧ va_RA s cA .int := by
  obtain ⟨cA, kA, comp, hfind, hk, hkind⟩ := Cond.arrayClass_spec h
  exact ⟨cA, fun n z => ⟨fun k h => (by cases h), kA, hk, comp, hkind⟩, hfind⟩

/-! THE CLAIM OUT OF ONE WALK OF THE LAW'S BODY. Your part is whole_start (and what it stands on); all else here is the same for every law, but numbers. -/
def R_law : String := "MotionDeskLaw"
def lw_P (b : Addr) (xs : List Int32) (args : Array Value) (s : State) : Prop := args = #[.ref b] ∧ s.IntsAt b xs ∧ xs.length ≤ 3073 ∧ (Jvm.Cond.and given_1 narrow_1).before args s = true
def lw_Q (_ : Array Value) (s : State) (o : Outcome) (t : State) : Prop := o = .returned (some (.int 1)) ∧ Framed s o t [] 600000 7302250
def lw_Z (below : List Frame) (a : Array Value) (s : State) : State → Prop := fun t => ∃ o, t.status = .running ∧ Ended t below o ∧ lw_Q a s o t
/-- the law's own end, with 1 on the stack, nothing written that was there before, its room as the claim has it -/
theorem lw_ret {p : Program} {l : Launch} {e : Env} {s : State} {m : MethodId} {below : List Frame} {meth : Method} {c : Code} {b : Nat} (hx : p.tables.exec = Jvm.exec) (hb : c.code = code) (hr : meth.sig.returnType = ret) (hlocks : meth.locks = false) {pc : Nat} {H : Heap} {ls : Array Slot} (hdg : decode code pc = .ok (.ireturn, 1)) : W p l e room_1 s m #[Value.ref b] below meth c H [] 600000 7302250 (lw_Z below #[Value.ref b] s) (F0 m pc ls [.int 1]) := by
  intro T hT X
  obtain ⟨fs, hret, hrun, hended, hW, hframe⟩ := X.leave (v := some (.int 1)) (hlocks := hlocks) (fun h => by rw [hr] at h; cases h)
  have hmeth' : T.vm.method? m = some meth := X.method'
  refine ⟨T.setFrames fs, ?_, .returned (some (.int 1)), hrun, hended, rfl, ⟨_, rfl⟩, hW, hframe⟩
  jvm_step X.here [X.here.top, hx, hb, hdg, hmeth', hr, ret, narrow_b1]
  (try refine ⟨rfl, ?_⟩); (try refine ⟨rfl, ?_⟩)
  first | (intro acts; rw [hret _ acts rfl rfl rfl]) | rw [hret _ _ rfl rfl rfl]
  exact Steps.refl _
/-- what holds at the law's entry: the machine, the code, the tables' words (any of lw_tbl by 'hts w (by decide +kernel)'), the script of L ints xs at the cell b, what the Statement gives of the start (any of its parts by flat_of_before) -/
def lw_At (p : Program) (s : State) (m : MethodId) (meth : Method) (c : Code) (b L : Nat) (xs : Nat → Int32) : Prop :=
  p.tables.exec = Jvm.exec ∧ c.code = code ∧ meth.sig.returnType = ret ∧ c.maxLocals = 4 ∧ s.vm.findClass R_law = some m.cls ∧ (∀ w ∈ lw_tbl, w.before #[Value.ref b] s = true) ∧ va_X b L xs s s.heap ∧ b < s.heap.size ∧ meth.locks = false ∧ (Jvm.Cond.and given_1 narrow_1).before #[Value.ref b] s = true

