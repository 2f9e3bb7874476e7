-- what the methods ask of their numbers
def q_what (x : Int32) : Prop := 0 ≤ x.toInt ∧ x.toInt < 3
def q_how (x : Int32) : Prop := 0 ≤ x.toInt ∧ x.toInt ≤ 2
def q_time (x : Int32) : Prop := 0 ≤ x.toInt ∧ x.toInt ≤ 1000000
def q_node (N : Nat) (x : Int32) : Prop := 0 ≤ x.toInt ∧ x.toInt < N
def q_in (x : Int32) (r : Int) : Prop := -r ≤ x.toInt ∧ x.toInt ≤ r
def q_reach (a : Int32) : Int := if a.toInt = 0 then 4194304 else 1048576
def q_can (a x y z : Int32) : Prop := q_in x (q_reach a) ∧ q_in y (q_reach a) ∧ q_in z (q_reach a)
def q_fits (a : Int32) (xn : Nat → Int32) (k : Nat) : Prop := q_can a (xn (k * 3)) (xn (k * 3 + 1)) (xn (k * 3 + 2))
def q_all (a : Int32) (xn : Nat → Int32) (K : Nat) : Prop := ∀ k, k < K → q_fits a xn k
/-- the place of a node's what -/
def pl_of (a b : Int32) : Nat := (a.toInt.toNat * 3 + b.toInt.toNat) * 3
/-- the key in force: from k on, n keys may follow -/
def kif (kt : Nat → Int32) (nw : Int32) : Nat → Nat → Nat
  | k, 0 => k
  | k, n + 1 => if (kt (k + 1)).toInt ≤ nw.toInt then kif kt nw (k + 1) n else k
theorem kif_0 (kt : Nat → Int32) (nw : Int32) (k : Nat) : kif kt nw k 0 = k := rfl
theorem kif_s (kt : Nat → Int32) (nw : Int32) (k n : Nat) : kif kt nw k (n + 1) = if (kt (k + 1)).toInt ≤ nw.toInt then kif kt nw (k + 1) n else k := rfl
theorem kif_le (kt : Nat → Int32) (nw : Int32) : ∀ (n k : Nat), k ≤ kif kt nw k n ∧ kif kt nw k n ≤ k + n := by
  intro n
  induction n with
  | zero => intro k; exact ⟨Nat.le_refl _, Nat.le_refl _⟩
  | succ n ih =>
    intro k
    rw [kif_s]
    split
    · have := ih (k + 1); omega
    · omega
-- whole numbers by longs
def fdv (x y : Int64) : Int64 := if (x ^^^ y) < 0 ∧ ¬ x / y * y = x then x / y - 1 else x / y
def dvL (a b : Int64) : Int64 := if b = 0 then 0 else fdv a b
def mlL (a b : Int64) : Int64 := dvL (a * b) 65536
def smL (f : Int64) : Int64 := mlL (mlL f f) (196608 - 2 * f)
/-- between two keys -/
def btw (kt kn : Nat → Int32) (nw how : Int32) (k j : Nat) : Int32 :=
  if how.toInt = 1 then ((kn (k * 3 + j)).toInt64 + dvL (((kn ((k + 1) * 3 + j)).toInt64 - (kn (k * 3 + j)).toInt64) * (nw - kt k).toInt64) (kt (k + 1) - kt k).toInt64).toInt32
  else if how.toInt = 2 then ((kn (k * 3 + j)).toInt64 + mlL ((kn ((k + 1) * 3 + j)).toInt64 - (kn (k * 3 + j)).toInt64) (smL (dvL ((nw - kt k).toInt64 * 65536) (kt (k + 1) - kt k).toInt64))).toInt32
  else (kn (k * 3 + j)).toInt64.toInt32
/-- what a track of K keys from place f on sets -/
def plv (kt kn : Nat → Int32) (nw how : Int32) (f K j : Nat) : Int32 :=
  if kif kt nw f (K - 1) = f + K - 1 ∨ nw.toInt < (kt (kif kt nw f (K - 1))).toInt then kn (kif kt nw f (K - 1) * 3 + j) else btw kt kn nw how (kif kt nw f (K - 1)) j
def pl1 (kt kn : Nat → Int32) (nw : Int32) (tn tw th tk : Nat → Int32) (t : Nat) (fv : Nat → Int32) : Nat → Int32 :=
  put3 fv (pl_of (tn t) (tw t)) (plv kt kn nw (th t) (t * 32) (tk t).toInt.toNat 0) (plv kt kn nw (th t) (t * 32) (tk t).toInt.toNat 1) (plv kt kn nw (th t) (t * 32) (tk t).toInt.toNat 2)
def pls (kt kn : Nat → Int32) (nw : Int32) (tn tw th tk : Nat → Int32) (fv : Nat → Int32) : Nat → Nat → Int32
  | 0 => fv
  | t + 1 => pl1 kt kn nw tn tw th tk t (pls kt kn nw tn tw th tk fv t)
/-- a track's rows are in order -/
def q_trk (N : Nat) (tn tw tk : Nat → Int32) (t : Nat) : Prop := q_node N (tn t) ∧ q_what (tw t) ∧ 1 ≤ (tk t).toInt ∧ (tk t).toInt ≤ 32
theorem lcmp0 {x y : Int64} (h : ¬ lg_cmp x y = 0) : ¬ x = y := by
  intro q
  subst q
  exact h (by simp [lg_cmp])
theorem lcmp1 {x y : Int64} (h : lg_cmp x y = 0) : x = y := by
  unfold lg_cmp at h
  split at h
  · exact absurd h (by decide)
  · split at h
    · assumption
    · exact absurd h (by decide)
-- a new desk
def cl48 (v : Int32) : Nat := if v.toInt < 1 then 1 else if 48 < v.toInt then 48 else v.toInt.toNat
theorem cl48_le (v : Int32) : 1 ≤ cl48 v ∧ cl48 v ≤ 48 := by
  unfold cl48
  split
  · omega
  · split
    · omega
    · omega
theorem cl48_eq (v : Int32) : (if nI 1 < (if v < nI 48 then v else nI 48) then (if v < nI 48 then v else nI 48) else nI 1) = nI (cl48 v) := by
  have h1 : (nI 1).toInt = 1 := by decide
  have h48 : (nI 48).toInt = 48 := by decide
  unfold cl48
  by_cases a : v < nI 48
  · rw [if_pos a]
    have a1 := zlt a
    by_cases b : nI 1 < v
    · rw [if_pos b]
      have b1 := zlt b
      rw [if_neg (by omega), if_neg (by omega)]
      exact z_nat (by omega)
    · rw [if_neg b]
      have b1 := znlt b
      by_cases c : v.toInt < 1
      · rw [if_pos c]
      · rw [if_neg c, if_neg (by omega), show v.toInt.toNat = 1 by omega]
  · rw [if_neg a]
    have a1 := znlt a
    rw [if_pos (by decide), if_neg (by omega)]
    by_cases c : 48 < v.toInt
    · rw [if_pos c]
    · rw [if_neg c, show v.toInt.toNat = 48 by omega]
def ini (k j : Nat) : Int32 := if j / 9 < k ∧ 6 ≤ j % 9 then 65536 else 0
theorem ini_z : ini 0 = fun _ => 0 := by
  funext j
  unfold ini
  rw [if_neg (by omega)]
theorem ini_upd (k : Nat) : upd (upd (upd (ini k) ((k * 3 + 2) * 3 + 0) 65536) ((k * 3 + 2) * 3 + 1) 65536) ((k * 3 + 2) * 3 + 2) 65536 = ini (k + 1) := by
  funext j
  unfold upd ini
  by_cases c2 : j = (k * 3 + 2) * 3 + 2
  · rw [if_pos c2, if_pos (by omega)]
  · rw [if_neg c2]
    by_cases c1 : j = (k * 3 + 2) * 3 + 1
    · rw [if_pos c1, if_pos (by omega)]
    · rw [if_neg c1]
      by_cases c0 : j = (k * 3 + 2) * 3 + 0
      · rw [if_pos c0, if_pos (by omega)]
      · rw [if_neg c0]
        by_cases hc : j / 9 < k ∧ 6 ≤ j % 9
        · rw [if_pos hc, if_pos (by omega)]
        · rw [if_neg hc, if_neg (by omega)]
/-- arrays of ints have one class -/
theorem arr_one {D : va_G} {cl : List vw_C} {s : State} {cA cB : ClassId} (hK : va_K D cl ([(cA, .int)] ++ [(cB, .int)]) s) : cB = cA := by
  have h1 : s.vm.findClass ("[" ++ FieldType.int.toString) = some cA := (hK.2 0 _ rfl).2
  have h2 : s.vm.findClass ("[" ++ FieldType.int.toString) = some cB := (hK.2 1 _ rfl).2
  exact Option.some.inj (h2.symm.trans h1)

