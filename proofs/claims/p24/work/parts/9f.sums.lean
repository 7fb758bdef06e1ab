/-! sums over the rooms -/
def sm (f : Nat → Int32) : Nat → Int32
  | 0 => 0
  | n + 1 => sm f n + f n
theorem sm_congr {f g : Nat → Int32} : ∀ n, (∀ i, i < n → f i = g i) → sm f n = sm g n := by
  intro n
  induction n with
  | zero => intro _; rfl
  | succ n ih =>
    intro h
    rw [sm, sm, ih (fun i hi => h i (by omega)), h n (by omega)]
theorem sm_plus {f g : Nat → Int32} : ∀ n, sm (fun i => f i + g i) n = sm f n + sm g n := by
  intro n
  induction n with
  | zero => rfl
  | succ n ih =>
    rw [sm, sm, sm, ih]
    grind
theorem sm_neg {f : Nat → Int32} : ∀ n, sm (fun i => -(f i)) n = -(sm f n) := by
  intro n
  induction n with
  | zero => exact Int32.neg_zero.symm
  | succ n ih =>
    rw [sm, sm, ih]
    grind
theorem sm_zero : ∀ n, sm (fun _ => (0 : Int32)) n = 0 := by
  intro n
  induction n with
  | zero => rfl
  | succ n ih => rw [sm, ih]; rfl
theorem sm_up {f : Nat → Int32} {j : Nat} {x : Int32} : ∀ n, j < n → sm (upd f j x) n = sm f n - f j + x := by
  intro n
  induction n with
  | zero => intro h; omega
  | succ n ih =>
    intro h
    rw [sm, sm]
    by_cases e : j = n
    · subst e
      rw [upd_same, sm_congr (g := f) j (fun i hi => upd_ne (by omega))]
      grind
    · rw [upd_ne (fun z => e z.symm), ih (by omega)]
      grind
theorem gp_sm {s : Nat → Int32} {r : Nat} : ∀ m, gp s r m = sm (fun j => flo s r j) m := by
  intro m
  induction m with
  | zero => rfl
  | succ m ih => rw [gp_s, ih, sm]
/-- what rooms give to one another adds up to 0 -/
theorem flo_sum {s : Nat → Int32} {n : Nat} (hA : Anti s n) : ∀ m, m ≤ n → sm (fun r => gp s r m) m = 0 := by
  intro m
  induction m with
  | zero => intro _; rfl
  | succ m ih =>
    intro hm
    have e1 : sm (fun r => gp s r (m + 1)) m = sm (fun r => gp s r m) m + sm (fun r => flo s r m) m := by
      rw [← sm_plus]
      exact sm_congr m (fun i _ => gp_s)
    have e2 : sm (fun r => flo s r m) m = -(sm (fun j => flo s m j) m) := by
      rw [← sm_neg]
      exact sm_congr m (fun i hi => hA m i (by omega) (by omega))
    rw [sm, e1, ih (by omega), e2, gp_s, flo_rr, gp_sm]
    grind
