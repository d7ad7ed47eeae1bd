def pb (c : Prop) [Decidable c] : Int32 := if c then 1 else 0
theorem pb_T [Decidable True] : pb True = 1 := by simp [pb]
theorem pb_F [Decidable False] : pb False = 0 := by simp [pb]
theorem pb_0 (c : Prop) [Decidable c] : (pb c = 0) ↔ ¬ c := by by_cases h : c <;> simp [pb, h]
theorem pb_n0 (c : Prop) [Decidable c] : (¬ pb c = 0) ↔ c := by by_cases h : c <;> simp [pb, h]
theorem pb_or (c : Prop) [Decidable c] : (pb c = 0 ∨ pb c = 1) ↔ True := by by_cases h : c <;> simp [pb, h]
theorem nn_ok {n N : Nat} (h : n < 2 ^ 31) : qa_ok (nI n) N ↔ n < N := by
  unfold qa_ok
  rw [nI_clamp h]
  exact ⟨fun q => q.2, fun q => ⟨nI_pos h, q⟩⟩
theorem nn_mul (a b : Nat) : nI a * nI b = nI (a * b) := (Int32.ofNat_mul a b).symm
theorem nn_sub {a b : Nat} (h : b ≤ a) : nI a - nI b = nI (a - b) := by
  have h1 : nI a = nI (a - b) + nI b := by rw [nI_add, Nat.sub_add_cancel h]
  rw [h1, Int32.add_sub_cancel]
theorem nn_e {e : Int32} (h : e = 0 ∨ e = 1) : ∃ n : Nat, n < 2 ∧ e = nI n := by
  rcases h with rfl | rfl
  · exact ⟨0, by decide, rfl⟩
  · exact ⟨1, by decide, rfl⟩
theorem nn_e1 {n : Nat} (h : n < 2) : pb (nI n = 0 ∨ nI n = 1) = 1 := by
  have : n = 0 ∨ n = 1 := by omega
  rcases this with rfl | rfl <;> rfl
theorem nn_e0 {e : Int32} (h : ¬ (e = 0 ∨ e = 1)) : pb (e = 0 ∨ e = 1) = 0 := by simp [pb, h]
theorem nn_10 : ¬ (1 : Int32) = 0 := by decide
theorem nn_ne {a b : Prop} (h : ¬ a) : (a → b) ↔ True := ⟨fun _ => trivial, fun _ q => absurd q h⟩
theorem ok_T {n N : Nat} (h : n < 2 ^ 31) (h2 : n < N) : qa_ok (nI n) N ↔ True := by rw [nn_ok h]; exact ⟨fun _ => trivial, fun _ => h2⟩
theorem lt_T {a b : Nat} (h : a < b) (hb : b < 2 ^ 31) : nI a < nI b ↔ True := by rw [nI_ltI (by omega) hb]; exact ⟨fun _ => trivial, fun _ => h⟩
theorem lt_F {a b : Nat} (h : b ≤ a) (ha : a < 2 ^ 31) : nI a < nI b ↔ False := by rw [nI_ltI ha (by omega)]; exact ⟨fun q => by omega, fun q => q.elim⟩
theorem le_T {a b : Nat} (h : a ≤ b) (hb : b < 2 ^ 31) : nI a ≤ nI b ↔ True := by rw [nI_leI (by omega) hb]; exact ⟨fun _ => trivial, fun _ => h⟩
theorem le_F {a b : Nat} (h : b < a) (ha : a < 2 ^ 31) : nI a ≤ nI b ↔ False := by rw [nI_leI ha (by omega)]; exact ⟨fun q => by omega, fun q => q.elim⟩
theorem eq_T {a b : Nat} (h : a = b) : nI a = nI b ↔ True := by rw [h]; exact ⟨fun _ => trivial, fun _ => rfl⟩
theorem eq_F {a b : Nat} (h : a ≠ b) (ha : a < 2 ^ 31) (hb : b < 2 ^ 31) : nI a = nI b ↔ False := by rw [nI_eq ha hb]; exact ⟨fun q => h q, fun q => q.elim⟩
theorem z_lt {a : Nat} (h : a < 2 ^ 31) : nI a < 0 ↔ False := ⟨fun q => nI_pos h q, fun q => q.elim⟩
theorem z_ge {a : Nat} (h : a < 2 ^ 31) : 0 ≤ nI a ↔ True := ⟨fun _ => trivial, fun _ => nI_pos' h⟩
theorem z_gtT {a : Nat} (h : 0 < a) (h2 : a < 2 ^ 31) : 0 < nI a ↔ True := lt_T (a := 0) h h2
theorem z_gtF {a : Nat} (h : a = 0) : 0 < nI a ↔ False := by subst h; exact lt_F (a := 0) (Nat.le_refl _) (by decide)
theorem z_leT {a : Nat} (h : a = 0) : nI a ≤ 0 ↔ True := by subst h; exact le_T (a := 0) (Nat.le_refl _) (by decide)
theorem z_leF {a : Nat} (h : 0 < a) (h2 : a < 2 ^ 31) : nI a ≤ 0 ↔ False := le_F (b := 0) h h2
theorem z_eqT {a : Nat} (h : a = 0) : nI a = 0 ↔ True := by subst h; exact eq_T (a := 0) rfl
theorem z_eqF {a : Nat} (h : 0 < a) (h2 : a < 2 ^ 31) : nI a = 0 ↔ False := eq_F (b := 0) (by omega) h2 (by decide)
theorem m_eq {a : Nat} (h : a < 2 ^ 31) : nI a = -1 ↔ False := ⟨fun q => by have := nI_pos h; rw [q] at this; exact this (by decide), fun q => q.elim⟩
theorem m_eq2 {a : Nat} (h : a < 2 ^ 31) : nI a = -2 ↔ False := ⟨fun q => by have := nI_pos h; rw [q] at this; exact this (by decide), fun q => q.elim⟩
theorem m_lt {a : Nat} (h : a < 2 ^ 31) : nI a < -1 ↔ False := by
  refine ⟨fun q => ?_, fun q => q.elim⟩
  rw [Int32.lt_iff_toInt_lt, nI_toInt h] at q
  have : (-1 : Int32).toInt = -1 := by decide
  omega
theorem m_lt2 {a : Nat} (h : a < 2 ^ 31) : nI a < -2 ↔ False := by
  refine ⟨fun q => ?_, fun q => q.elim⟩
  rw [Int32.lt_iff_toInt_lt, nI_toInt h] at q
  have : (-2 : Int32).toInt = -2 := by decide
  omega
theorem s_1 {a : Nat} (h : 1 ≤ a) : nI a - 1 = nI (a - 1) := nn_sub (b := 1) h
theorem l_1 : (1 : Int32) = nI 1 := rfl
theorem l_2 : (2 : Int32) = nI 2 := rfl
theorem ml_2 (a : Nat) : 2 * nI a = nI (2 * a) := nn_mul 2 a
theorem ml_8 (a : Nat) : 8 * nI a = nI (8 * a) := nn_mul 8 a
theorem ml_12 (a : Nat) : 12 * nI a = nI (12 * a) := nn_mul 12 a
theorem ml_16 (a : Nat) : 16 * nI a = nI (16 * a) := nn_mul 16 a
theorem ml_40 (a : Nat) : 40 * nI a = nI (40 * a) := nn_mul 40 a
theorem ml_256 (a : Nat) : 256 * nI a = nI (256 * a) := nn_mul 256 a
theorem ml_300 (a : Nat) : 300 * nI a = nI (300 * a) := nn_mul 300 a
theorem al_2 (a : Nat) : 2 + nI a = nI (2 + a) := nI_add 2 a
theorem al_16 (a : Nat) : nI a + 16 = nI (a + 16) := nI_add a 16
theorem al_40 (a : Nat) : nI a + 40 = nI (a + 40) := nI_add a 40
theorem al_r2 (a : Nat) : nI a + 2 = nI (a + 2) := nI_add a 2
theorem ni_cmp (x : Int32) {n : Nat} (hn : n < 2 ^ 31) : (x < 0) ∨ (∃ k, k ≤ n ∧ x = nI k) ∨ (¬ x < 0 ∧ nI n < x ∧ ∃ k, n < k ∧ k < 2 ^ 31 ∧ x = nI k) := by
  by_cases h : x < 0
  · exact Or.inl h
  · obtain ⟨k, hk, rfl⟩ := nI_of h
    by_cases h2 : k ≤ n
    · exact Or.inr (Or.inl ⟨k, h2, rfl⟩)
    · exact Or.inr (Or.inr ⟨h, nI_lt (by omega) hk, k, by omega, hk, rfl⟩)
