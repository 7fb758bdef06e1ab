/-! whole numbers: what an operation gives when it doesn't wrap -/
theorem i_add {a b : Int32} (h1 : -2147483648 ≤ a.toInt + b.toInt) (h2 : a.toInt + b.toInt < 2147483648) : (a + b).toInt = a.toInt + b.toInt := by
  rw [Int32.toInt_add]
  exact Int.bmod_eq_of_le (by simpa using h1) (by simpa using h2)
theorem i_sub {a b : Int32} (h1 : -2147483648 ≤ a.toInt - b.toInt) (h2 : a.toInt - b.toInt < 2147483648) : (a - b).toInt = a.toInt - b.toInt := by
  rw [Int32.toInt_sub]
  exact Int.bmod_eq_of_le (by simpa using h1) (by simpa using h2)
theorem i_mul {a b : Int32} (h1 : -2147483648 ≤ a.toInt * b.toInt) (h2 : a.toInt * b.toInt < 2147483648) : (a * b).toInt = a.toInt * b.toInt := by
  rw [Int32.toInt_mul]
  exact Int.bmod_eq_of_le (by simpa using h1) (by simpa using h2)
theorem i_neg {a : Int32} (h1 : -2147483648 < a.toInt) : (-a).toInt = -a.toInt := by
  rw [Int32.toInt_neg]
  have := Int32.toInt_lt a
  exact Int.bmod_eq_of_le (by simp; omega) (by simp; omega)
theorem i_div {a b : Int32} (h1 : -2147483648 < a.toInt) : (a / b).toInt = a.toInt.tdiv b.toInt := by
  rw [Int32.toInt_div]
  have h2 := Int32.toInt_lt a
  have h3 : (a.toInt.tdiv b.toInt).natAbs ≤ a.toInt.natAbs := by
    rw [Int.natAbs_tdiv]
    exact Nat.div_le_self _ _
  exact Int.bmod_eq_of_le (by simp; omega) (by simp; omega)
theorem i_ext {a b : Int32} (h : a.toInt = b.toInt) : a = b := Int32.toInt_inj.mp h
theorem i_lt {a b : Int32} : a < b ↔ a.toInt < b.toInt := Int32.lt_iff_toInt_lt
theorem i_le {a b : Int32} : a ≤ b ↔ a.toInt ≤ b.toInt := Int32.le_iff_toInt_le
theorem i_eq {a b : Int32} : a = b ↔ a.toInt = b.toInt := Int32.toInt_inj.symm
theorem i_rng (a : Int32) : -2147483648 ≤ a.toInt ∧ a.toInt < 2147483648 := ⟨Int32.le_toInt a, Int32.toInt_lt a⟩
theorem bz_0 : bz 0 = 0 := rfl
theorem bz_1 : bz 1 = 1 := rfl
theorem bz_eq0 {x : Int32} : bz x = 0 ↔ x = 0 := by
  unfold bz
  constructor
  · intro h
    by_cases hx : x = 0
    · exact hx
    · rw [if_neg hx] at h; exact absurd h (by decide)
  · intro h; rw [if_pos h]
theorem bz_n0 {x : Int32} : ¬ bz x = 0 ↔ bz x = 1 := by
  rcases bz_cases x with h | h <;> rw [h] <;> decide
theorem bz_of01 {x : Int32} (h : x = 0 ∨ x = 1) : bz x = x := by rcases h with rfl | rfl <;> rfl
theorem nI_lit (n : Nat) : nI n = Int32.ofNat n := rfl
theorem inb_nI {i N : Nat} (h : i < N) (hN : N < 2 ^ 31) : inb (nI i) N := vp_in_nI h hN
theorem cl_nI {i : Nat} (h : i < 2 ^ 31) : Int32.toNatClampNeg (nI i) = i := nI_clamp h
theorem nm_eq {α β : Type} (x : α) (K : α → Option β) : nm x K = K x := rfl
theorem oc_none {β : Type} {A : Option β} {K : Nat → Option β} : oc none A K = A := rfl
theorem oc_some {β : Type} {A : Option β} {K : Nat → Option β} {a : Nat} : oc (some a) A K = K a := rfl
theorem bd_some {α β : Type} (x : α) (K : α → Option β) : (some x).bind K = K x := rfl
/-- a cell's contents, changed as a whole -/
def upc (σ : xM) (c : Nat) (f : Nat → Int32) : xM := fun i => if i = c then f else σ i
theorem upc_same {σ : xM} {c : Nat} {f : Nat → Int32} : upc σ c f c = f := by simp [upc]
theorem upc_ne {σ : xM} {c i : Nat} {f : Nat → Int32} (h : i ≠ c) : upc σ c f i = σ i := by simp [upc, h]
theorem upc_upc {σ : xM} {c : Nat} {f g : Nat → Int32} : upc (upc σ c f) c g = upc σ c g := by
  funext i; by_cases h : i = c <;> simp [upc, h]
theorem upc_self {σ : xM} {c : Nat} : upc σ c (σ c) = σ := by
  funext i; by_cases h : i = c <;> simp [upc, h]
theorem xup_upc {σ : xM} {c j : Nat} {x : Int32} : xup σ c j x = upc σ c (upd (σ c) j x) := rfl
theorem upd_same {f : Nat → Int32} {k : Nat} {x : Int32} : upd f k x k = x := by simp [upd]
theorem upd_ne {f : Nat → Int32} {k j : Nat} {x : Int32} (h : j ≠ k) : upd f k x j = f j := by simp [upd, h]
/-! a loop that counts up -/
def itr {S : Type} (f : Nat → S → S) : Nat → Nat → S → S
  | 0, _, s => s
  | d + 1, i, s => itr f d (i + 1) (f i s)
theorem loop_up {S β : Type} (F : Nat → Nat → S → Option β) (f : Nat → S → S) (fin : S → Option β) (I : Nat → S → Prop) (n : Nat)
    (hs : ∀ N i s, i < n → I i s → F (N + 1) i s = F N (i + 1) (f i s) ∧ I (i + 1) (f i s)) (hf : ∀ N s, I n s → F (N + 1) n s = fin s) :
    ∀ d i s N, i + d = n → I i s → d < N → F N i s = fin (itr f d i s) ∧ I n (itr f d i s) := by
  intro d
  induction d with
  | zero =>
    intro i s N hi hI hN
    obtain ⟨N, rfl⟩ : ∃ M, N = M + 1 := ⟨N - 1, by omega⟩
    obtain rfl : i = n := by omega
    exact ⟨hf N s hI, hI⟩
  | succ d ih =>
    intro i s N hi hI hN
    obtain ⟨N, rfl⟩ : ∃ M, N = M + 1 := ⟨N - 1, by omega⟩
    obtain ⟨h1, h2⟩ := hs N i s (by omega) hI
    rw [h1]
    exact ih (i + 1) (f i s) N (by omega) h2 (by omega)
