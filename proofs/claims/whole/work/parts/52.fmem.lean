/-! a whole array at once -/
def qa_fia (M : qa_M) (κ a : Nat) (f : Nat → Int32) : qa_M := (M.1, M.2.1, M.2.2.1, M.2.2.2.1, M.2.2.2.2.1, (fun g b q => if g = κ ∧ b = a then f q else M.2.2.2.2.2.1 g b q), M.2.2.2.2.2.2)
def qa_fpa (M : qa_M) (κ a : Nat) (f : Nat → Option Nat) : qa_M := (M.1, M.2.1, M.2.2.1, M.2.2.2.1, M.2.2.2.2.1, M.2.2.2.2.2.1, M.2.2.2.2.2.2.1, (fun g b q => if g = κ ∧ b = a then f q else M.2.2.2.2.2.2.2 g b q))
theorem qa_k_fia (M : qa_M) (κ a : Nat) (f : Nat → Int32) : qa_k (qa_fia M κ a f) = qa_k M := rfl
theorem qa_n_fia (M : qa_M) (κ a : Nat) (f : Nat → Int32) : qa_n (qa_fia M κ a f) = qa_n M := rfl
theorem qa_i_fia (M : qa_M) (κ a : Nat) (f : Nat → Int32) : qa_i (qa_fia M κ a f) = qa_i M := rfl
theorem qa_j_fia (M : qa_M) (κ a : Nat) (f : Nat → Int32) : qa_j (qa_fia M κ a f) = qa_j M := rfl
theorem qa_p_fia (M : qa_M) (κ a : Nat) (f : Nat → Int32) : qa_p (qa_fia M κ a f) = qa_p M := rfl
theorem qa_ia_fia (M : qa_M) (κ a : Nat) (f : Nat → Int32) (g b q : Nat) : qa_ia (qa_fia M κ a f) g b q = if g = κ ∧ b = a then f q else qa_ia M g b q := rfl
theorem qa_ja_fia (M : qa_M) (κ a : Nat) (f : Nat → Int32) : qa_ja (qa_fia M κ a f) = qa_ja M := rfl
theorem qa_pa_fia (M : qa_M) (κ a : Nat) (f : Nat → Int32) : qa_pa (qa_fia M κ a f) = qa_pa M := rfl
theorem qa_k_fpa (M : qa_M) (κ a : Nat) (f : Nat → Option Nat) : qa_k (qa_fpa M κ a f) = qa_k M := rfl
theorem qa_n_fpa (M : qa_M) (κ a : Nat) (f : Nat → Option Nat) : qa_n (qa_fpa M κ a f) = qa_n M := rfl
theorem qa_i_fpa (M : qa_M) (κ a : Nat) (f : Nat → Option Nat) : qa_i (qa_fpa M κ a f) = qa_i M := rfl
theorem qa_j_fpa (M : qa_M) (κ a : Nat) (f : Nat → Option Nat) : qa_j (qa_fpa M κ a f) = qa_j M := rfl
theorem qa_p_fpa (M : qa_M) (κ a : Nat) (f : Nat → Option Nat) : qa_p (qa_fpa M κ a f) = qa_p M := rfl
theorem qa_ia_fpa (M : qa_M) (κ a : Nat) (f : Nat → Option Nat) : qa_ia (qa_fpa M κ a f) = qa_ia M := rfl
theorem qa_ja_fpa (M : qa_M) (κ a : Nat) (f : Nat → Option Nat) : qa_ja (qa_fpa M κ a f) = qa_ja M := rfl
theorem qa_pa_fpa (M : qa_M) (κ a : Nat) (f : Nat → Option Nat) (g b q : Nat) : qa_pa (qa_fpa M κ a f) g b q = if g = κ ∧ b = a then f q else qa_pa M g b q := rfl
theorem fi_w (M : qa_M) (κ a j : Nat) (f : Nat → Int32) (v : Int32) : qa_wia (qa_fia M κ a f) κ a j v = qa_fia M κ a (fun q => if q = j then v else f q) := by
  unfold qa_wia qa_fia
  refine Prod.ext rfl (Prod.ext rfl (Prod.ext rfl (Prod.ext rfl (Prod.ext rfl (Prod.ext ?_ rfl)))))
  funext g b q
  by_cases h : g = κ ∧ b = a
  · by_cases h2 : q = j <;> simp [h.1, h.2, h2]
  · have h3 : ¬ (g = κ ∧ b = a ∧ q = j) := fun z => h ⟨z.1, z.2.1⟩
    simp [h, h3]
theorem fi_0 (M : qa_M) (κ a : Nat) (f : Nat → Int32) (h : ∀ q, f q = qa_ia M κ a q) : M = qa_fia M κ a f := by
  unfold qa_fia
  refine Prod.ext rfl (Prod.ext rfl (Prod.ext rfl (Prod.ext rfl (Prod.ext rfl (Prod.ext ?_ rfl)))))
  funext g b q
  by_cases h2 : g = κ ∧ b = a
  · show _ = if g = κ ∧ b = a then f q else _
    rw [if_pos h2, h, h2.1, h2.2]
    rfl
  · show _ = if g = κ ∧ b = a then f q else _
    rw [if_neg h2]
theorem fq_w (M : qa_M) (κ a j : Nat) (f : Nat → Option Nat) (v : Option Nat) : qa_wpa (qa_fpa M κ a f) κ a j v = qa_fpa M κ a (fun q => if q = j then v else f q) := by
  unfold qa_wpa qa_fpa
  refine Prod.ext rfl (Prod.ext rfl (Prod.ext rfl (Prod.ext rfl (Prod.ext rfl (Prod.ext rfl (Prod.ext rfl ?_))))))
  funext g b q
  by_cases h : g = κ ∧ b = a
  · by_cases h2 : q = j <;> simp [h.1, h.2, h2]
  · have h3 : ¬ (g = κ ∧ b = a ∧ q = j) := fun z => h ⟨z.1, z.2.1⟩
    simp [h, h3]
theorem fq_0 (M : qa_M) (κ a : Nat) (f : Nat → Option Nat) (h : ∀ q, f q = qa_pa M κ a q) : M = qa_fpa M κ a f := by
  unfold qa_fpa
  refine Prod.ext rfl (Prod.ext rfl (Prod.ext rfl (Prod.ext rfl (Prod.ext rfl (Prod.ext rfl (Prod.ext rfl ?_))))))
  funext g b q
  by_cases h2 : g = κ ∧ b = a
  · show _ = if g = κ ∧ b = a then f q else _
    rw [if_pos h2, h, h2.1, h2.2]
    rfl
  · show _ = if g = κ ∧ b = a then f q else _
    rw [if_neg h2]
