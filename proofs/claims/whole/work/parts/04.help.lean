section TP
variable {p : Program} {l : Launch} {e : Env} {R : Room} {s : State} {m : MethodId} {args : Array Value} {below : List Frame} {meth : Method} {c : Code} {H : Heap} {locs : List Loc} {cells slots : Nat} {Q : State → Prop} {pc : Nat} {ls : Array Slot} {rest : List Value}
/-- the number on top under another name -/
theorem tp_i {x y : Int32} (h : x = y) (k : W p l e R s m args below meth c H locs cells slots Q (F0 m pc ls (.int y :: rest))) : W p l e R s m args below meth c H locs cells slots Q (F0 m pc ls (.int x :: rest)) := by
  rw [h]; exact k
theorem tp_l {x y : Int64} (h : x = y) (k : W p l e R s m args below meth c H locs cells slots Q (F0 m pc ls (.long y :: rest))) : W p l e R s m args below meth c H locs cells slots Q (F0 m pc ls (.long x :: rest)) := by
  rw [h]; exact k
end TP
-- compares of ints, as integers
theorem zlt {a b : Int32} (h : a < b) : a.toInt < b.toInt := Int32.lt_iff_toInt_lt.mp h
theorem znlt {a b : Int32} (h : ¬ a < b) : b.toInt ≤ a.toInt := by
  rw [Int32.lt_iff_toInt_lt] at h; omega
theorem zle {a b : Int32} (h : a ≤ b) : a.toInt ≤ b.toInt := Int32.le_iff_toInt_le.mp h
theorem znle {a b : Int32} (h : ¬ a ≤ b) : b.toInt < a.toInt := by
  rw [Int32.le_iff_toInt_le] at h; omega
theorem zeq {a b : Int32} (h : a = b) : a.toInt = b.toInt := by rw [h]
theorem zne {a b : Int32} (h : ¬ a = b) : a.toInt ≠ b.toInt := fun q => h (Int32.toInt_inj.mp q)
theorem z_0 : (0 : Int32).toInt = 0 := by decide
theorem z_m1 : (-1 : Int32).toInt = -1 := by decide
theorem z_neg {a : Int32} (h : 0 ≤ a.toInt) : (-a).toInt = -a.toInt := by
  have h2 := Int32.toInt_lt a
  rw [Int32.toInt_neg, Int.bmod_eq_of_le (by omega) (by omega)]
/-- a truth as the machine has it -/
theorem bt1 {P : Prop} (h : P) : (nI 1 = 0 ↔ ¬ P) := ⟨fun h1 => absurd h1 (by decide), fun h2 => absurd h h2⟩
theorem bt0 {P : Prop} (h : ¬ P) : (nI 0 = 0 ↔ ¬ P) := ⟨fun _ => h, fun _ => by decide⟩
theorem btT {P : Prop} {r : Int32} (h : r = 0 ↔ ¬ P) (c : ¬ r = 0) : P := Classical.byContradiction fun q => c (h.mpr q)
theorem btF {P : Prop} {r : Int32} (h : r = 0 ↔ ¬ P) (c : r = 0) : ¬ P := h.mp c
/-- an int in a range is nI of a number -/
theorem z_nat {x : Int32} (h : 0 ≤ x.toInt) : x = nI x.toInt.toNat := by
  have h2 := Int32.toInt_lt x
  apply Int32.toInt_inj.mp
  rw [nI_toInt (by omega)]; omega
theorem z_in {x : Int32} {n : Nat} (h : 0 ≤ x.toInt) (h2 : x.toInt < n) : ∃ j : Nat, j < n ∧ x = nI j := ⟨x.toInt.toNat, by omega, z_nat h⟩
theorem z_in1 {x : Int32} {n : Nat} (h : 1 ≤ x.toInt) (h2 : x.toInt ≤ n) : ∃ j : Nat, 1 ≤ j ∧ j ≤ n ∧ x = nI j := ⟨x.toInt.toNat, by omega, by omega, z_nat (by omega)⟩
-- three numbers side by side
def put3 (f : Nat → Int32) (k : Nat) (x y z : Int32) : Nat → Int32 := upd (upd (upd f k x) (k + 1) y) (k + 2) z
-- joining a callee's one cell into the caller's world
theorem wj_1 {A : Nat → Prop} {D : va_G} {cl : List vw_C} {ws : va_W} {H H1 : Heap} {a k : Nat} {e0 e : va_E} (hP : va_P D cl ws H) (hD : va_D A ws) (hk : ws[k]? = some (a, e0)) (hk1 : ∀ q : Nat, q < H.size → ¬ va_A [(a, e0)] H.size q → H1[q]? = H[q]?) (hP1 : va_P D cl [(a, e)] H1) : va_P D cl (ws.set k (a, e)) H1 ∧ va_D A (ws.set k (a, e)) := by
  refine ⟨?_, hD.set hk⟩
  intro i q hq
  by_cases hi : i = k
  · subst hi
    have hlt := (List.getElem?_eq_some_iff.mp hk).1
    rw [List.getElem?_set_self hlt] at hq
    cases hq
    exact hP1 0 _ rfl
  · rw [List.getElem?_set_ne (fun h => hi h.symm)] at hq
    have hl := (hP i q hq).lt
    refine (hP i q hq).kept (hk1 q.1 hl ?_)
    rintro (⟨j, e9, h⟩ | h)
    · cases j with
      | zero =>
        simp at h
        exact hi (hD.1 i k q (a, e0) hq hk h.1.symm)
      | succ j => simp at h
    · omega
section TP2
variable {p : Program} {l : Launch} {e : Env} {R : Room} {s : State} {m : MethodId} {args : Array Value} {below : List Frame} {meth : Method} {c : Code} {H : Heap} {locs : List Loc} {cells slots : Nat} {Q : State → Prop} {pc : Nat} {ls : Array Slot} {rest : List Value}
theorem tp_i2 {x y x' y' : Int32} (h : x = x') (h2 : y = y') (k : W p l e R s m args below meth c H locs cells slots Q (F0 m pc ls (.int x' :: .int y' :: rest))) : W p l e R s m args below meth c H locs cells slots Q (F0 m pc ls (.int x :: .int y :: rest)) := by
  rw [h, h2]; exact k
end TP2

