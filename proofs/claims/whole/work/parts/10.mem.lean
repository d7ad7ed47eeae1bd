/-! the memory: kinds, lengths, fields by number and address, arrays by kind, address and place -/
abbrev qa_M : Type := (Nat → Nat) × (Nat → Nat) × (Nat → Nat → Int32) × (Nat → Nat → Int64) × (Nat → Nat → Option Nat) × (Nat → Nat → Nat → Int32) × (Nat → Nat → Nat → Int64) × (Nat → Nat → Nat → Option Nat)
def qa_k (M : qa_M) : Nat → Nat := M.1
def qa_n (M : qa_M) : Nat → Nat := M.2.1
def qa_i (M : qa_M) : Nat → Nat → Int32 := M.2.2.1
def qa_j (M : qa_M) : Nat → Nat → Int64 := M.2.2.2.1
def qa_p (M : qa_M) : Nat → Nat → Option Nat := M.2.2.2.2.1
def qa_ia (M : qa_M) : Nat → Nat → Nat → Int32 := M.2.2.2.2.2.1
def qa_ja (M : qa_M) : Nat → Nat → Nat → Int64 := M.2.2.2.2.2.2.1
def qa_pa (M : qa_M) : Nat → Nat → Nat → Option Nat := M.2.2.2.2.2.2.2
def qa_wi (M : qa_M) (f a : Nat) (v : Int32) : qa_M := (M.1, M.2.1, (fun g b => if g = f ∧ b = a then v else M.2.2.1 g b), M.2.2.2)
def qa_wj (M : qa_M) (f a : Nat) (v : Int64) : qa_M := (M.1, M.2.1, M.2.2.1, (fun g b => if g = f ∧ b = a then v else M.2.2.2.1 g b), M.2.2.2.2)
def qa_wp (M : qa_M) (f a : Nat) (v : Option Nat) : qa_M := (M.1, M.2.1, M.2.2.1, M.2.2.2.1, (fun g b => if g = f ∧ b = a then v else M.2.2.2.2.1 g b), M.2.2.2.2.2)
def qa_wia (M : qa_M) (κ a j : Nat) (v : Int32) : qa_M := (M.1, M.2.1, M.2.2.1, M.2.2.2.1, M.2.2.2.2.1, (fun g b q => if g = κ ∧ b = a ∧ q = j then v else M.2.2.2.2.2.1 g b q), M.2.2.2.2.2.2)
def qa_wja (M : qa_M) (κ a j : Nat) (v : Int64) : qa_M := (M.1, M.2.1, M.2.2.1, M.2.2.2.1, M.2.2.2.2.1, M.2.2.2.2.2.1, (fun g b q => if g = κ ∧ b = a ∧ q = j then v else M.2.2.2.2.2.2.1 g b q), M.2.2.2.2.2.2.2)
def qa_wpa (M : qa_M) (κ a j : Nat) (v : Option Nat) : qa_M := (M.1, M.2.1, M.2.2.1, M.2.2.2.1, M.2.2.2.2.1, M.2.2.2.2.2.1, M.2.2.2.2.2.2.1, (fun g b q => if g = κ ∧ b = a ∧ q = j then v else M.2.2.2.2.2.2.2 g b q))
def qa_nw (M : qa_M) (c a : Nat) : qa_M := ((fun b => if b = a then c else M.1 b), M.2.1, (fun g b => if b = a then 0 else M.2.2.1 g b), (fun g b => if b = a then 0 else M.2.2.2.1 g b), (fun g b => if b = a then none else M.2.2.2.2.1 g b), M.2.2.2.2.2)
def qa_na (M : qa_M) (κ a n : Nat) : qa_M := ((fun b => if b = a then κ else M.1 b), (fun b => if b = a then n else M.2.1 b), M.2.2.1, M.2.2.2.1, M.2.2.2.2.1, (fun g b q => if b = a then 0 else M.2.2.2.2.2.1 g b q), (fun g b q => if b = a then 0 else M.2.2.2.2.2.2.1 g b q), (fun g b q => if b = a then none else M.2.2.2.2.2.2.2 g b q))
theorem qa_k_wi (M : qa_M) (f a : Nat) (v : Int32) : qa_k (qa_wi M f a v) = qa_k M := rfl
theorem qa_n_wi (M : qa_M) (f a : Nat) (v : Int32) : qa_n (qa_wi M f a v) = qa_n M := rfl
theorem qa_i_wi (M : qa_M) (f a : Nat) (v : Int32) (g b : Nat) : qa_i (qa_wi M f a v) g b = if g = f ∧ b = a then v else qa_i M g b := rfl
theorem qa_j_wi (M : qa_M) (f a : Nat) (v : Int32) : qa_j (qa_wi M f a v) = qa_j M := rfl
theorem qa_p_wi (M : qa_M) (f a : Nat) (v : Int32) : qa_p (qa_wi M f a v) = qa_p M := rfl
theorem qa_ia_wi (M : qa_M) (f a : Nat) (v : Int32) : qa_ia (qa_wi M f a v) = qa_ia M := rfl
theorem qa_ja_wi (M : qa_M) (f a : Nat) (v : Int32) : qa_ja (qa_wi M f a v) = qa_ja M := rfl
theorem qa_pa_wi (M : qa_M) (f a : Nat) (v : Int32) : qa_pa (qa_wi M f a v) = qa_pa M := rfl
theorem qa_k_wj (M : qa_M) (f a : Nat) (v : Int64) : qa_k (qa_wj M f a v) = qa_k M := rfl
theorem qa_n_wj (M : qa_M) (f a : Nat) (v : Int64) : qa_n (qa_wj M f a v) = qa_n M := rfl
theorem qa_i_wj (M : qa_M) (f a : Nat) (v : Int64) : qa_i (qa_wj M f a v) = qa_i M := rfl
theorem qa_j_wj (M : qa_M) (f a : Nat) (v : Int64) (g b : Nat) : qa_j (qa_wj M f a v) g b = if g = f ∧ b = a then v else qa_j M g b := rfl
theorem qa_p_wj (M : qa_M) (f a : Nat) (v : Int64) : qa_p (qa_wj M f a v) = qa_p M := rfl
theorem qa_ia_wj (M : qa_M) (f a : Nat) (v : Int64) : qa_ia (qa_wj M f a v) = qa_ia M := rfl
theorem qa_ja_wj (M : qa_M) (f a : Nat) (v : Int64) : qa_ja (qa_wj M f a v) = qa_ja M := rfl
theorem qa_pa_wj (M : qa_M) (f a : Nat) (v : Int64) : qa_pa (qa_wj M f a v) = qa_pa M := rfl
theorem qa_k_wp (M : qa_M) (f a : Nat) (v : Option Nat) : qa_k (qa_wp M f a v) = qa_k M := rfl
theorem qa_n_wp (M : qa_M) (f a : Nat) (v : Option Nat) : qa_n (qa_wp M f a v) = qa_n M := rfl
theorem qa_i_wp (M : qa_M) (f a : Nat) (v : Option Nat) : qa_i (qa_wp M f a v) = qa_i M := rfl
theorem qa_j_wp (M : qa_M) (f a : Nat) (v : Option Nat) : qa_j (qa_wp M f a v) = qa_j M := rfl
theorem qa_p_wp (M : qa_M) (f a : Nat) (v : Option Nat) (g b : Nat) : qa_p (qa_wp M f a v) g b = if g = f ∧ b = a then v else qa_p M g b := rfl
theorem qa_ia_wp (M : qa_M) (f a : Nat) (v : Option Nat) : qa_ia (qa_wp M f a v) = qa_ia M := rfl
theorem qa_ja_wp (M : qa_M) (f a : Nat) (v : Option Nat) : qa_ja (qa_wp M f a v) = qa_ja M := rfl
theorem qa_pa_wp (M : qa_M) (f a : Nat) (v : Option Nat) : qa_pa (qa_wp M f a v) = qa_pa M := rfl
theorem qa_k_wia (M : qa_M) (κ a x : Nat) (v : Int32) : qa_k (qa_wia M κ a x v) = qa_k M := rfl
theorem qa_n_wia (M : qa_M) (κ a x : Nat) (v : Int32) : qa_n (qa_wia M κ a x v) = qa_n M := rfl
theorem qa_i_wia (M : qa_M) (κ a x : Nat) (v : Int32) : qa_i (qa_wia M κ a x v) = qa_i M := rfl
theorem qa_j_wia (M : qa_M) (κ a x : Nat) (v : Int32) : qa_j (qa_wia M κ a x v) = qa_j M := rfl
theorem qa_p_wia (M : qa_M) (κ a x : Nat) (v : Int32) : qa_p (qa_wia M κ a x v) = qa_p M := rfl
theorem qa_ia_wia (M : qa_M) (κ a x : Nat) (v : Int32) (g b q : Nat) : qa_ia (qa_wia M κ a x v) g b q = if g = κ ∧ b = a ∧ q = x then v else qa_ia M g b q := rfl
theorem qa_ja_wia (M : qa_M) (κ a x : Nat) (v : Int32) : qa_ja (qa_wia M κ a x v) = qa_ja M := rfl
theorem qa_pa_wia (M : qa_M) (κ a x : Nat) (v : Int32) : qa_pa (qa_wia M κ a x v) = qa_pa M := rfl
theorem qa_k_wja (M : qa_M) (κ a x : Nat) (v : Int64) : qa_k (qa_wja M κ a x v) = qa_k M := rfl
theorem qa_n_wja (M : qa_M) (κ a x : Nat) (v : Int64) : qa_n (qa_wja M κ a x v) = qa_n M := rfl
theorem qa_i_wja (M : qa_M) (κ a x : Nat) (v : Int64) : qa_i (qa_wja M κ a x v) = qa_i M := rfl
theorem qa_j_wja (M : qa_M) (κ a x : Nat) (v : Int64) : qa_j (qa_wja M κ a x v) = qa_j M := rfl
theorem qa_p_wja (M : qa_M) (κ a x : Nat) (v : Int64) : qa_p (qa_wja M κ a x v) = qa_p M := rfl
theorem qa_ia_wja (M : qa_M) (κ a x : Nat) (v : Int64) : qa_ia (qa_wja M κ a x v) = qa_ia M := rfl
theorem qa_ja_wja (M : qa_M) (κ a x : Nat) (v : Int64) (g b q : Nat) : qa_ja (qa_wja M κ a x v) g b q = if g = κ ∧ b = a ∧ q = x then v else qa_ja M g b q := rfl
theorem qa_pa_wja (M : qa_M) (κ a x : Nat) (v : Int64) : qa_pa (qa_wja M κ a x v) = qa_pa M := rfl
theorem qa_k_wpa (M : qa_M) (κ a x : Nat) (v : Option Nat) : qa_k (qa_wpa M κ a x v) = qa_k M := rfl
theorem qa_n_wpa (M : qa_M) (κ a x : Nat) (v : Option Nat) : qa_n (qa_wpa M κ a x v) = qa_n M := rfl
theorem qa_i_wpa (M : qa_M) (κ a x : Nat) (v : Option Nat) : qa_i (qa_wpa M κ a x v) = qa_i M := rfl
theorem qa_j_wpa (M : qa_M) (κ a x : Nat) (v : Option Nat) : qa_j (qa_wpa M κ a x v) = qa_j M := rfl
theorem qa_p_wpa (M : qa_M) (κ a x : Nat) (v : Option Nat) : qa_p (qa_wpa M κ a x v) = qa_p M := rfl
theorem qa_ia_wpa (M : qa_M) (κ a x : Nat) (v : Option Nat) : qa_ia (qa_wpa M κ a x v) = qa_ia M := rfl
theorem qa_ja_wpa (M : qa_M) (κ a x : Nat) (v : Option Nat) : qa_ja (qa_wpa M κ a x v) = qa_ja M := rfl
theorem qa_pa_wpa (M : qa_M) (κ a x : Nat) (v : Option Nat) (g b q : Nat) : qa_pa (qa_wpa M κ a x v) g b q = if g = κ ∧ b = a ∧ q = x then v else qa_pa M g b q := rfl
theorem qa_k_nw (M : qa_M) (c a : Nat) (b : Nat) : qa_k (qa_nw M c a) b = if b = a then c else qa_k M b := rfl
theorem qa_n_nw (M : qa_M) (c a : Nat) : qa_n (qa_nw M c a) = qa_n M := rfl
theorem qa_i_nw (M : qa_M) (c a : Nat) (g b : Nat) : qa_i (qa_nw M c a) g b = if b = a then 0 else qa_i M g b := rfl
theorem qa_j_nw (M : qa_M) (c a : Nat) (g b : Nat) : qa_j (qa_nw M c a) g b = if b = a then 0 else qa_j M g b := rfl
theorem qa_p_nw (M : qa_M) (c a : Nat) (g b : Nat) : qa_p (qa_nw M c a) g b = if b = a then none else qa_p M g b := rfl
theorem qa_ia_nw (M : qa_M) (c a : Nat) : qa_ia (qa_nw M c a) = qa_ia M := rfl
theorem qa_ja_nw (M : qa_M) (c a : Nat) : qa_ja (qa_nw M c a) = qa_ja M := rfl
theorem qa_pa_nw (M : qa_M) (c a : Nat) : qa_pa (qa_nw M c a) = qa_pa M := rfl
theorem qa_k_na (M : qa_M) (κ a n : Nat) (b : Nat) : qa_k (qa_na M κ a n) b = if b = a then κ else qa_k M b := rfl
theorem qa_n_na (M : qa_M) (κ a n : Nat) (b : Nat) : qa_n (qa_na M κ a n) b = if b = a then n else qa_n M b := rfl
theorem qa_i_na (M : qa_M) (κ a n : Nat) : qa_i (qa_na M κ a n) = qa_i M := rfl
theorem qa_j_na (M : qa_M) (κ a n : Nat) : qa_j (qa_na M κ a n) = qa_j M := rfl
theorem qa_p_na (M : qa_M) (κ a n : Nat) : qa_p (qa_na M κ a n) = qa_p M := rfl
theorem qa_ia_na (M : qa_M) (κ a n : Nat) (g b q : Nat) : qa_ia (qa_na M κ a n) g b q = if b = a then 0 else qa_ia M g b q := rfl
theorem qa_ja_na (M : qa_M) (κ a n : Nat) (g b q : Nat) : qa_ja (qa_na M κ a n) g b q = if b = a then 0 else qa_ja M g b q := rfl
theorem qa_pa_na (M : qa_M) (κ a n : Nat) (g b q : Nat) : qa_pa (qa_na M κ a n) g b q = if b = a then none else qa_pa M g b q := rfl
/-! locals as a list by number -/
abbrev qa_L : Type := List (Option Value)
def qa_gt : qa_L → Nat → Option Value
  | [], _ => none
  | x :: _, 0 => x
  | _ :: l, i + 1 => qa_gt l i
def qa_c2 (x : Option Value) : Option Value := match x with
  | some (.long _) => none
  | some (.double _) => none
  | y => y
def qa_n0 : qa_L → qa_L
  | [] => []
  | _ :: l => none :: l
def qa_u1 : qa_L → Nat → Value → qa_L
  | [], _, _ => []
  | _ :: l, 0, v => some v :: l
  | x :: l, 1, v => qa_c2 x :: qa_u1 l 0 v
  | x :: l, i + 2, v => x :: qa_u1 l (i + 1) v
def qa_u2 : qa_L → Nat → Value → qa_L
  | [], _, _ => []
  | _ :: l, 0, v => some v :: qa_n0 l
  | x :: l, 1, v => qa_c2 x :: qa_u2 l 0 v
  | x :: l, i + 2, v => x :: qa_u2 l (i + 1) v
def qa_V (ls : Array Slot) (nL : Nat) (lv : qa_L) : Prop := ls.size = nL ∧ lv_wf ls ∧ ∀ (i : Nat) (v : Value), qa_gt lv i = some v → ls[i]? = some (.val v)
def qa_pr : Nat → qa_L → List (Nat × Value)
  | _, [] => []
  | j, none :: l => qa_pr (j + 1) l
  | j, some v :: l => (j, v) :: qa_pr (j + 1) l
theorem qa_pr_mem (lv : qa_L) : ∀ (b j : Nat) (v : Value), (j, v) ∈ qa_pr b lv ↔ ∃ t, j = b + t ∧ qa_gt lv t = some v := by
  induction lv with
  | nil => intro b j v; simp [qa_pr, qa_gt]
  | cons x l ih =>
    intro b j v
    cases x with
    | none =>
      rw [qa_pr, ih]
      constructor
      · rintro ⟨t, h1, h2⟩
        exact ⟨t + 1, by omega, h2⟩
      · rintro ⟨t, h1, h2⟩
        cases t with
        | zero => simp [qa_gt] at h2
        | succ t => exact ⟨t, by omega, h2⟩
    | some w =>
      rw [qa_pr, List.mem_cons, ih]
      constructor
      · rintro (h | ⟨t, h1, h2⟩)
        · cases h
          exact ⟨0, rfl, rfl⟩
        · exact ⟨t + 1, by omega, h2⟩
      · rintro ⟨t, h1, h2⟩
        cases t with
        | zero =>
          left
          have h3 : w = v := Option.some.inj h2
          rw [h1, h3]
          rfl
        | succ t => exact Or.inr ⟨t, by omega, h2⟩
theorem qa_V.has {ls : Array Slot} {nL : Nat} {lv : qa_L} (h : qa_V ls nL lv) : lv_has ls nL (qa_pr 0 lv) := by
  refine ⟨h.1, h.2.1, fun q hq => ?_⟩
  obtain ⟨j, v⟩ := q
  obtain ⟨t, h1, h2⟩ := (qa_pr_mem lv 0 j v).mp hq
  have h3 : j = t := by omega
  subst h3
  exact h.2.2 _ _ h2
theorem qa_c2_some {x : Option Value} {v : Value} (h : qa_c2 x = some v) : x = some v ∧ ¬ v.category = 2 := by
  cases x with
  | none => simp [qa_c2] at h
  | some w => cases w <;> simp [qa_c2] at h <;> subst h <;> simp [Value.category]
theorem qa_u1_gt (lv : qa_L) : ∀ (i j : Nat) (v w : Value), qa_gt (qa_u1 lv i v) j = some w → (j = i ∧ w = v) ∨ (qa_gt lv j = some w ∧ j ≠ i ∧ ¬ (j + 1 = i ∧ w.category = 2)) := by
  induction lv with
  | nil => intro i j v w h; simp [qa_u1, qa_gt] at h
  | cons x l ih =>
    intro i j v w h
    match i, j with
    | 0, 0 => exact Or.inl ⟨rfl, (Option.some.inj h).symm⟩
    | 0, j + 1 => exact Or.inr ⟨h, by omega, by omega⟩
    | 1, 0 =>
      obtain ⟨h1, h2⟩ := qa_c2_some h
      exact Or.inr ⟨h1, by omega, fun q => h2 q.2⟩
    | 1, j + 1 =>
      rcases ih 0 j v w h with ⟨h1, h2⟩ | ⟨h1, h2, h3⟩
      · exact Or.inl ⟨by omega, h2⟩
      · exact Or.inr ⟨h1, by omega, by omega⟩
    | i + 2, 0 => exact Or.inr ⟨h, by omega, by omega⟩
    | i + 2, j + 1 =>
      rcases ih (i + 1) j v w h with ⟨h1, h2⟩ | ⟨h1, h2, h3⟩
      · exact Or.inl ⟨by omega, h2⟩
      · exact Or.inr ⟨h1, by omega, fun q => h3 ⟨by omega, q.2⟩⟩
theorem qa_n0_gt {l : qa_L} {j : Nat} {w : Value} (h : qa_gt (qa_n0 l) j = some w) : qa_gt l j = some w ∧ j ≠ 0 := by
  cases l with
  | nil => simp [qa_n0, qa_gt] at h
  | cons x l =>
    cases j with
    | zero => simp [qa_n0, qa_gt] at h
    | succ j => exact ⟨h, by omega⟩
theorem qa_u2_gt (lv : qa_L) : ∀ (i j : Nat) (v w : Value), qa_gt (qa_u2 lv i v) j = some w → (j = i ∧ w = v) ∨ (qa_gt lv j = some w ∧ j ≠ i ∧ j ≠ i + 1 ∧ ¬ (j + 1 = i ∧ w.category = 2)) := by
  induction lv with
  | nil => intro i j v w h; simp [qa_u2, qa_gt] at h
  | cons x l ih =>
    intro i j v w h
    match i, j with
    | 0, 0 => exact Or.inl ⟨rfl, (Option.some.inj h).symm⟩
    | 0, j + 1 =>
      obtain ⟨h1, h2⟩ := qa_n0_gt (l := l) (j := j) (w := w) h
      exact Or.inr ⟨h1, by omega, by omega, by omega⟩
    | 1, 0 =>
      obtain ⟨h1, h2⟩ := qa_c2_some h
      exact Or.inr ⟨h1, by omega, by omega, fun q => h2 q.2⟩
    | 1, j + 1 =>
      rcases ih 0 j v w h with ⟨h1, h2⟩ | ⟨h1, h2, h3, h4⟩
      · exact Or.inl ⟨by omega, h2⟩
      · exact Or.inr ⟨h1, by omega, by omega, by omega⟩
    | i + 2, 0 => exact Or.inr ⟨h, by omega, by omega, by omega⟩
    | i + 2, j + 1 =>
      rcases ih (i + 1) j v w h with ⟨h1, h2⟩ | ⟨h1, h2, h3, h4⟩
      · exact Or.inl ⟨by omega, h2⟩
      · exact Or.inr ⟨h1, by omega, by omega, fun q => h4 ⟨by omega, q.2⟩⟩
theorem qa_V.of1 {ls : Array Slot} {nL i : Nat} {lv : qa_L} {v : Value} (h : lv_has ls nL ((i, v) :: (qa_pr 0 lv).filter (fun q => !(q.1 == i) && !(q.1 + 1 == i && q.2.category == 2)))) : qa_V ls nL (qa_u1 lv i v) := by
  refine ⟨h.1, h.2.1, fun j w hj => ?_⟩
  rcases qa_u1_gt lv i j v w hj with ⟨rfl, rfl⟩ | ⟨h1, h2, h3⟩
  · exact h.2.2 (j, w) List.mem_cons_self
  · refine h.2.2 (j, w) (List.mem_cons_of_mem _ (List.mem_filter.mpr ⟨(qa_pr_mem lv 0 j w).mpr ⟨j, by omega, h1⟩, ?_⟩))
    simp only [Bool.and_eq_true, Bool.not_eq_true', beq_eq_false_iff_ne, Bool.and_eq_false_iff, beq_iff_eq, ne_eq]
    refine ⟨h2, ?_⟩
    by_cases hq : j + 1 = i
    · exact Or.inr fun z => h3 ⟨hq, z⟩
    · exact Or.inl hq
theorem qa_V.of2 {ls : Array Slot} {nL i : Nat} {lv : qa_L} {v : Value} (h : lv_has ls nL ((i, v) :: (qa_pr 0 lv).filter (fun q => !(q.1 == i) && (!(q.1 == i + 1) && !(q.1 + 1 == i && q.2.category == 2))))) : qa_V ls nL (qa_u2 lv i v) := by
  refine ⟨h.1, h.2.1, fun j w hj => ?_⟩
  rcases qa_u2_gt lv i j v w hj with ⟨rfl, rfl⟩ | ⟨h1, h2, h3, h4⟩
  · exact h.2.2 (j, w) List.mem_cons_self
  · refine h.2.2 (j, w) (List.mem_cons_of_mem _ (List.mem_filter.mpr ⟨(qa_pr_mem lv 0 j w).mpr ⟨j, by omega, h1⟩, ?_⟩))
    simp only [Bool.and_eq_true, Bool.not_eq_true', beq_eq_false_iff_ne, Bool.and_eq_false_iff, beq_iff_eq, ne_eq]
    refine ⟨h2, h3, ?_⟩
    by_cases hq : j + 1 = i
    · exact Or.inr fun z => h4 ⟨hq, z⟩
    · exact Or.inl hq
/-! views of the stack and of the locals -/
def qv_i (st : List Value) (f : Int32 → List Value → Prop) : Prop := match st with
  | .int x :: r => f x r
  | _ => False
def qv_l (st : List Value) (f : Int64 → List Value → Prop) : Prop := match st with
  | .long x :: r => f x r
  | _ => False
def qv_r (st : List Value) (f : Nat → List Value → Prop) : Prop := match st with
  | .ref x :: r => f x r
  | _ => False
def qv_1 (st : List Value) (f : Value → List Value → Prop) : Prop := match st with
  | .int x :: r => f (.int x) r
  | .ref x :: r => f (.ref x) r
  | _ => False
def qv_gi (x : Option Value) (f : Int32 → Prop) : Prop := match x with
  | some (.int x) => f x
  | _ => False
def qv_gl (x : Option Value) (f : Int64 → Prop) : Prop := match x with
  | some (.long x) => f x
  | _ => False
def qv_gr (x : Option Value) (f : Nat → Prop) : Prop := match x with
  | some (.ref x) => f x
  | _ => False
theorem qv_i_inv {st : List Value} {f : Int32 → List Value → Prop} (h : qv_i st f) : ∃ x r, st = .int x :: r ∧ f x r := by
  unfold qv_i at h
  split at h
  · exact ⟨_, _, rfl, h⟩
  · exact h.elim
theorem qv_l_inv {st : List Value} {f : Int64 → List Value → Prop} (h : qv_l st f) : ∃ x r, st = .long x :: r ∧ f x r := by
  unfold qv_l at h
  split at h
  · exact ⟨_, _, rfl, h⟩
  · exact h.elim
theorem qv_r_inv {st : List Value} {f : Nat → List Value → Prop} (h : qv_r st f) : ∃ x r, st = .ref x :: r ∧ f x r := by
  unfold qv_r at h
  split at h
  · exact ⟨_, _, rfl, h⟩
  · exact h.elim
theorem qv_1_inv {st : List Value} {f : Value → List Value → Prop} (h : qv_1 st f) : ∃ v r, st = v :: r ∧ v.category = 1 ∧ f v r := by
  unfold qv_1 at h
  split at h
  · exact ⟨_, _, rfl, rfl, h⟩
  · exact ⟨_, _, rfl, rfl, h⟩
  · exact h.elim
theorem qv_gi_inv {x : Option Value} {f : Int32 → Prop} (h : qv_gi x f) : ∃ y, x = some (.int y) ∧ f y := by
  unfold qv_gi at h
  split at h
  · exact ⟨_, rfl, h⟩
  · exact h.elim
theorem qv_gl_inv {x : Option Value} {f : Int64 → Prop} (h : qv_gl x f) : ∃ y, x = some (.long y) ∧ f y := by
  unfold qv_gl at h
  split at h
  · exact ⟨_, rfl, h⟩
  · exact h.elim
theorem qv_gr_inv {x : Option Value} {f : Nat → Prop} (h : qv_gr x f) : ∃ y, x = some (.ref y) ∧ f y := by
  unfold qv_gr at h
  split at h
  · exact ⟨_, rfl, h⟩
  · exact h.elim
