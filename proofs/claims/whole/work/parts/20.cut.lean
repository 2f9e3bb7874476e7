/-- a place where several ways meet -/
theorem w_cut {p : Program} {l : Launch} {e : Env} {R : Room} {s : State} {m : MethodId} {args : Array Value} {below : List Frame} {meth : Method} {c : Code} {H : Heap} {locs : List Loc} {cells slots : Nat} {Q : State → Prop} {g : JFrame} {α : Type} (I : α → Heap → List Loc → Array Slot → Prop) (F : α → Array Slot → JFrame)
    (tail : ∀ (a : α) (H : Heap) (locs : List Loc) (ls : Array Slot), I a H locs ls → W p l e R s m args below meth c H locs cells slots Q (F a ls))
    (k : (∀ (a : α) (H : Heap) (locs : List Loc) (ls : Array Slot), I a H locs ls → W p l e R s m args below meth c H locs cells slots Q (F a ls)) → W p l e R s m args below meth c H locs cells slots Q g) : W p l e R s m args below meth c H locs cells slots Q g := k tail
theorem cpy_0 (f g : Nat → Int32) (sp dp : Nat) : va_cpy f g sp dp 0 = g := by
  funext j
  unfold va_cpy
  rw [if_neg (by omega)]
theorem cpy_s (f g : Nat → Int32) (dp k : Nat) : upd (va_cpy f g 0 dp k) (dp + k) (f k) = va_cpy f g 0 dp (k + 1) := by
  funext j
  unfold upd va_cpy
  by_cases c : j = dp + k
  · rw [if_pos c, if_pos (by omega), show 0 + (j - dp) = k by omega]
  · rw [if_neg c]
    by_cases d : dp ≤ j ∧ j < dp + k
    · rw [if_pos d, if_pos (by omega)]
    · rw [if_neg d, if_neg (by omega)]
theorem q_all_iff (a : Int32) (xn : Nat → Int32) (K : Nat) : q_all a xn K ↔ ∀ j, j < K * 3 → q_in (xn j) (q_reach a) := by
  constructor
  · intro h j hj
    have h1 := h (j / 3) (by omega)
    unfold q_fits q_can at h1
    rcases (show j = j / 3 * 3 ∨ j = j / 3 * 3 + 1 ∨ j = j / 3 * 3 + 2 by omega) with q | q | q
    · rw [q]; exact h1.1
    · rw [q]; exact h1.2.1
    · rw [q]; exact h1.2.2
  · intro h k hk
    exact ⟨h _ (by omega), h _ (by omega), h _ (by omega)⟩

