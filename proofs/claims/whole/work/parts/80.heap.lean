/-! memories up to addresses: label l lies at ad l -/
def up (ad : Nat → Nat) (N a : Nat) : Nat → Nat := fun l => if l = N then a else ad l
theorem up_n (ad : Nat → Nat) (N a : Nat) : up ad N a N = a := by simp [up]
theorem up_o (ad : Nat → Nat) {N l : Nat} (a : Nat) (h : l < N) : up ad N a l = ad l := by
  unfold up
  rw [if_neg (by omega)]
theorem mp_o {o : Option Nat} {ad : Nat → Nat} {N : Nat} (a : Nat) (h : ∀ r, o = some r → r < N) : o.map (up ad N a) = o.map ad := by
  cases o with
  | none => rfl
  | some r =>
    show some (up ad N a r) = some (ad r)
    rw [up_o ad a (h r rfl)]
def Jm (M : qa_M) (N : Nat) (ad : Nat → Nat) (L : qa_M) (vl : Int32) : Prop :=
  (∀ l, l < N → qa_k M (ad l) = qa_k L l ∧ qa_k L l ≠ 0) ∧
  (∀ l l2, l < N → l2 < N → ad l = ad l2 → l = l2) ∧
  (∀ a, qa_k M a ≠ 0 → ∃ l, l < N ∧ ad l = a) ∧
  (∀ l, l < N → 1000 ≤ qa_k L l → qa_n M (ad l) = qa_n L l ∧ ∀ j, qa_ia M (qa_k L l) (ad l) j = qa_ia L (qa_k L l) l j ∧ qa_ja M (qa_k L l) (ad l) j = qa_ja L (qa_k L l) l j ∧ qa_pa M (qa_k L l) (ad l) j = (qa_pa L (qa_k L l) l j).map ad ∧ ∀ r, qa_pa L (qa_k L l) l j = some r → r < N) ∧
  (∀ l, l < N → qa_k L l < 1000 → ∀ f, (f ≠ 0 → f ≠ 192 → qa_i M f (ad l) = qa_i L f l) ∧ qa_j M f (ad l) = qa_j L f l ∧ qa_p M f (ad l) = (qa_p L f l).map ad ∧ ∀ r, qa_p L f l = some r → r < N) ∧
  (0 < N → qa_i M 0 (ad 0) = vl)
theorem Jm.fresh {M L : qa_M} {N a : Nat} {ad : Nat → Nat} {vl : Int32} (h : Jm M N ad L vl) (ha : qa_k M a = 0) {l : Nat} (hl : l < N) : ¬ ad l = a := fun q => by
  have := (h.1 l hl)
  rw [q, ha] at this
  exact this.2 this.1.symm
theorem jm_nw {M L : qa_M} {N a c : Nat} {ad : Nat → Nat} {vl : Int32} (h : Jm M N ad L vl) (ha : qa_k M a = 0) (hc : 0 < c) (hc2 : c < 1000) (hN : 0 < N) : Jm (qa_nw M c a) (N + 1) (up ad N a) (qa_nw L c N) vl := by
  have hf := fun l (hl : l < N) => h.fresh ha hl
  obtain ⟨h1, h2, h3, h4, h5, h6⟩ := h
  refine ⟨fun l hl => ?_, fun l l2 hl hl2 q => ?_, fun b hb => ?_, fun l hl hk => ?_, fun l hl hk f => ?_, fun _ => ?_⟩
  · by_cases e : l = N
    · subst e
      rw [up_n]
      simp [qa_k_wi, qa_n_wi, qa_i_wi, qa_j_wi, qa_p_wi, qa_ia_wi, qa_ja_wi, qa_pa_wi, qa_k_wj, qa_n_wj, qa_i_wj, qa_j_wj, qa_p_wj, qa_ia_wj, qa_ja_wj, qa_pa_wj, qa_k_wp, qa_n_wp, qa_i_wp, qa_j_wp, qa_p_wp, qa_ia_wp, qa_ja_wp, qa_pa_wp, qa_k_wia, qa_n_wia, qa_i_wia, qa_j_wia, qa_p_wia, qa_ia_wia, qa_ja_wia, qa_pa_wia, qa_k_wja, qa_n_wja, qa_i_wja, qa_j_wja, qa_p_wja, qa_ia_wja, qa_ja_wja, qa_pa_wja, qa_k_wpa, qa_n_wpa, qa_i_wpa, qa_j_wpa, qa_p_wpa, qa_ia_wpa, qa_ja_wpa, qa_pa_wpa, qa_k_nw, qa_n_nw, qa_i_nw, qa_j_nw, qa_p_nw, qa_ia_nw, qa_ja_nw, qa_pa_nw, qa_k_na, qa_n_na, qa_i_na, qa_j_na, qa_p_na, qa_ia_na, qa_ja_na, qa_pa_na]
      omega
    · have hl' : l < N := by omega
      rw [up_o ad a hl']
      simp [qa_k_wi, qa_n_wi, qa_i_wi, qa_j_wi, qa_p_wi, qa_ia_wi, qa_ja_wi, qa_pa_wi, qa_k_wj, qa_n_wj, qa_i_wj, qa_j_wj, qa_p_wj, qa_ia_wj, qa_ja_wj, qa_pa_wj, qa_k_wp, qa_n_wp, qa_i_wp, qa_j_wp, qa_p_wp, qa_ia_wp, qa_ja_wp, qa_pa_wp, qa_k_wia, qa_n_wia, qa_i_wia, qa_j_wia, qa_p_wia, qa_ia_wia, qa_ja_wia, qa_pa_wia, qa_k_wja, qa_n_wja, qa_i_wja, qa_j_wja, qa_p_wja, qa_ia_wja, qa_ja_wja, qa_pa_wja, qa_k_wpa, qa_n_wpa, qa_i_wpa, qa_j_wpa, qa_p_wpa, qa_ia_wpa, qa_ja_wpa, qa_pa_wpa, qa_k_nw, qa_n_nw, qa_i_nw, qa_j_nw, qa_p_nw, qa_ia_nw, qa_ja_nw, qa_pa_nw, qa_k_na, qa_n_na, qa_i_na, qa_j_na, qa_p_na, qa_ia_na, qa_ja_na, qa_pa_na, hf l hl', e, h1 l hl']
  · by_cases e : l = N
    · by_cases e2 : l2 = N
      · omega
      · rw [e, up_n, up_o ad a (show l2 < N by omega)] at q
        exact absurd q.symm (hf l2 (by omega))
    · by_cases e2 : l2 = N
      · rw [e2, up_n, up_o ad a (show l < N by omega)] at q
        exact absurd q (hf l (by omega))
      · rw [up_o ad a (show l < N by omega), up_o ad a (show l2 < N by omega)] at q
        exact h2 l l2 (by omega) (by omega) q
  · by_cases e : b = a
    · exact ⟨N, by omega, by rw [up_n, e]⟩
    · obtain ⟨l, hl, hl2⟩ := h3 b (by simpa [qa_k_wi, qa_n_wi, qa_i_wi, qa_j_wi, qa_p_wi, qa_ia_wi, qa_ja_wi, qa_pa_wi, qa_k_wj, qa_n_wj, qa_i_wj, qa_j_wj, qa_p_wj, qa_ia_wj, qa_ja_wj, qa_pa_wj, qa_k_wp, qa_n_wp, qa_i_wp, qa_j_wp, qa_p_wp, qa_ia_wp, qa_ja_wp, qa_pa_wp, qa_k_wia, qa_n_wia, qa_i_wia, qa_j_wia, qa_p_wia, qa_ia_wia, qa_ja_wia, qa_pa_wia, qa_k_wja, qa_n_wja, qa_i_wja, qa_j_wja, qa_p_wja, qa_ia_wja, qa_ja_wja, qa_pa_wja, qa_k_wpa, qa_n_wpa, qa_i_wpa, qa_j_wpa, qa_p_wpa, qa_ia_wpa, qa_ja_wpa, qa_pa_wpa, qa_k_nw, qa_n_nw, qa_i_nw, qa_j_nw, qa_p_nw, qa_ia_nw, qa_ja_nw, qa_pa_nw, qa_k_na, qa_n_na, qa_i_na, qa_j_na, qa_p_na, qa_ia_na, qa_ja_na, qa_pa_na, e] using hb)
      exact ⟨l, by omega, by rw [up_o ad a hl, hl2]⟩
  · by_cases e : l = N
    · subst e
      simp [qa_k_wi, qa_n_wi, qa_i_wi, qa_j_wi, qa_p_wi, qa_ia_wi, qa_ja_wi, qa_pa_wi, qa_k_wj, qa_n_wj, qa_i_wj, qa_j_wj, qa_p_wj, qa_ia_wj, qa_ja_wj, qa_pa_wj, qa_k_wp, qa_n_wp, qa_i_wp, qa_j_wp, qa_p_wp, qa_ia_wp, qa_ja_wp, qa_pa_wp, qa_k_wia, qa_n_wia, qa_i_wia, qa_j_wia, qa_p_wia, qa_ia_wia, qa_ja_wia, qa_pa_wia, qa_k_wja, qa_n_wja, qa_i_wja, qa_j_wja, qa_p_wja, qa_ia_wja, qa_ja_wja, qa_pa_wja, qa_k_wpa, qa_n_wpa, qa_i_wpa, qa_j_wpa, qa_p_wpa, qa_ia_wpa, qa_ja_wpa, qa_pa_wpa, qa_k_nw, qa_n_nw, qa_i_nw, qa_j_nw, qa_p_nw, qa_ia_nw, qa_ja_nw, qa_pa_nw, qa_k_na, qa_n_na, qa_i_na, qa_j_na, qa_p_na, qa_ia_na, qa_ja_na, qa_pa_na] at hk
      omega
    · have hl' : l < N := by omega
      have hk2 : qa_k (qa_nw L c N) l = qa_k L l := by simp [qa_k_wi, qa_n_wi, qa_i_wi, qa_j_wi, qa_p_wi, qa_ia_wi, qa_ja_wi, qa_pa_wi, qa_k_wj, qa_n_wj, qa_i_wj, qa_j_wj, qa_p_wj, qa_ia_wj, qa_ja_wj, qa_pa_wj, qa_k_wp, qa_n_wp, qa_i_wp, qa_j_wp, qa_p_wp, qa_ia_wp, qa_ja_wp, qa_pa_wp, qa_k_wia, qa_n_wia, qa_i_wia, qa_j_wia, qa_p_wia, qa_ia_wia, qa_ja_wia, qa_pa_wia, qa_k_wja, qa_n_wja, qa_i_wja, qa_j_wja, qa_p_wja, qa_ia_wja, qa_ja_wja, qa_pa_wja, qa_k_wpa, qa_n_wpa, qa_i_wpa, qa_j_wpa, qa_p_wpa, qa_ia_wpa, qa_ja_wpa, qa_pa_wpa, qa_k_nw, qa_n_nw, qa_i_nw, qa_j_nw, qa_p_nw, qa_ia_nw, qa_ja_nw, qa_pa_nw, qa_k_na, qa_n_na, qa_i_na, qa_j_na, qa_p_na, qa_ia_na, qa_ja_na, qa_pa_na, e]
      rw [hk2] at hk ⊢
      obtain ⟨g1, g2⟩ := h4 l hl' hk
      rw [up_o ad a hl']
      refine ⟨g1, fun j => ?_⟩
      obtain ⟨g3, g4, g5, g6⟩ := g2 j
      refine ⟨g3, g4, ?_, fun r hr => by have := g6 r hr; omega⟩
      show qa_pa M (qa_k L l) (ad l) j = (qa_pa L (qa_k L l) l j).map (up ad N a)
      rw [mp_o a g6]
      exact g5
  · by_cases e : l = N
    · subst e
      rw [up_n]
      simp [qa_k_wi, qa_n_wi, qa_i_wi, qa_j_wi, qa_p_wi, qa_ia_wi, qa_ja_wi, qa_pa_wi, qa_k_wj, qa_n_wj, qa_i_wj, qa_j_wj, qa_p_wj, qa_ia_wj, qa_ja_wj, qa_pa_wj, qa_k_wp, qa_n_wp, qa_i_wp, qa_j_wp, qa_p_wp, qa_ia_wp, qa_ja_wp, qa_pa_wp, qa_k_wia, qa_n_wia, qa_i_wia, qa_j_wia, qa_p_wia, qa_ia_wia, qa_ja_wia, qa_pa_wia, qa_k_wja, qa_n_wja, qa_i_wja, qa_j_wja, qa_p_wja, qa_ia_wja, qa_ja_wja, qa_pa_wja, qa_k_wpa, qa_n_wpa, qa_i_wpa, qa_j_wpa, qa_p_wpa, qa_ia_wpa, qa_ja_wpa, qa_pa_wpa, qa_k_nw, qa_n_nw, qa_i_nw, qa_j_nw, qa_p_nw, qa_ia_nw, qa_ja_nw, qa_pa_nw, qa_k_na, qa_n_na, qa_i_na, qa_j_na, qa_p_na, qa_ia_na, qa_ja_na, qa_pa_na]
    · have hl' : l < N := by omega
      have hk2 : qa_k (qa_nw L c N) l = qa_k L l := by simp [qa_k_wi, qa_n_wi, qa_i_wi, qa_j_wi, qa_p_wi, qa_ia_wi, qa_ja_wi, qa_pa_wi, qa_k_wj, qa_n_wj, qa_i_wj, qa_j_wj, qa_p_wj, qa_ia_wj, qa_ja_wj, qa_pa_wj, qa_k_wp, qa_n_wp, qa_i_wp, qa_j_wp, qa_p_wp, qa_ia_wp, qa_ja_wp, qa_pa_wp, qa_k_wia, qa_n_wia, qa_i_wia, qa_j_wia, qa_p_wia, qa_ia_wia, qa_ja_wia, qa_pa_wia, qa_k_wja, qa_n_wja, qa_i_wja, qa_j_wja, qa_p_wja, qa_ia_wja, qa_ja_wja, qa_pa_wja, qa_k_wpa, qa_n_wpa, qa_i_wpa, qa_j_wpa, qa_p_wpa, qa_ia_wpa, qa_ja_wpa, qa_pa_wpa, qa_k_nw, qa_n_nw, qa_i_nw, qa_j_nw, qa_p_nw, qa_ia_nw, qa_ja_nw, qa_pa_nw, qa_k_na, qa_n_na, qa_i_na, qa_j_na, qa_p_na, qa_ia_na, qa_ja_na, qa_pa_na, e]
      rw [hk2] at hk
      obtain ⟨g1, g2, g3, g4⟩ := h5 l hl' hk f
      rw [up_o ad a hl']
      have e1 : qa_p (qa_nw L c N) f l = qa_p L f l := by simp [qa_k_wi, qa_n_wi, qa_i_wi, qa_j_wi, qa_p_wi, qa_ia_wi, qa_ja_wi, qa_pa_wi, qa_k_wj, qa_n_wj, qa_i_wj, qa_j_wj, qa_p_wj, qa_ia_wj, qa_ja_wj, qa_pa_wj, qa_k_wp, qa_n_wp, qa_i_wp, qa_j_wp, qa_p_wp, qa_ia_wp, qa_ja_wp, qa_pa_wp, qa_k_wia, qa_n_wia, qa_i_wia, qa_j_wia, qa_p_wia, qa_ia_wia, qa_ja_wia, qa_pa_wia, qa_k_wja, qa_n_wja, qa_i_wja, qa_j_wja, qa_p_wja, qa_ia_wja, qa_ja_wja, qa_pa_wja, qa_k_wpa, qa_n_wpa, qa_i_wpa, qa_j_wpa, qa_p_wpa, qa_ia_wpa, qa_ja_wpa, qa_pa_wpa, qa_k_nw, qa_n_nw, qa_i_nw, qa_j_nw, qa_p_nw, qa_ia_nw, qa_ja_nw, qa_pa_nw, qa_k_na, qa_n_na, qa_i_na, qa_j_na, qa_p_na, qa_ia_na, qa_ja_na, qa_pa_na, e]
      rw [e1]
      refine ⟨fun q1 q2 => ?_, ?_, ?_, fun r hr => by have := g4 r hr; omega⟩
      · simp [qa_k_wi, qa_n_wi, qa_i_wi, qa_j_wi, qa_p_wi, qa_ia_wi, qa_ja_wi, qa_pa_wi, qa_k_wj, qa_n_wj, qa_i_wj, qa_j_wj, qa_p_wj, qa_ia_wj, qa_ja_wj, qa_pa_wj, qa_k_wp, qa_n_wp, qa_i_wp, qa_j_wp, qa_p_wp, qa_ia_wp, qa_ja_wp, qa_pa_wp, qa_k_wia, qa_n_wia, qa_i_wia, qa_j_wia, qa_p_wia, qa_ia_wia, qa_ja_wia, qa_pa_wia, qa_k_wja, qa_n_wja, qa_i_wja, qa_j_wja, qa_p_wja, qa_ia_wja, qa_ja_wja, qa_pa_wja, qa_k_wpa, qa_n_wpa, qa_i_wpa, qa_j_wpa, qa_p_wpa, qa_ia_wpa, qa_ja_wpa, qa_pa_wpa, qa_k_nw, qa_n_nw, qa_i_nw, qa_j_nw, qa_p_nw, qa_ia_nw, qa_ja_nw, qa_pa_nw, qa_k_na, qa_n_na, qa_i_na, qa_j_na, qa_p_na, qa_ia_na, qa_ja_na, qa_pa_na, hf l hl', e, g1 q1 q2]
      · simp [qa_k_wi, qa_n_wi, qa_i_wi, qa_j_wi, qa_p_wi, qa_ia_wi, qa_ja_wi, qa_pa_wi, qa_k_wj, qa_n_wj, qa_i_wj, qa_j_wj, qa_p_wj, qa_ia_wj, qa_ja_wj, qa_pa_wj, qa_k_wp, qa_n_wp, qa_i_wp, qa_j_wp, qa_p_wp, qa_ia_wp, qa_ja_wp, qa_pa_wp, qa_k_wia, qa_n_wia, qa_i_wia, qa_j_wia, qa_p_wia, qa_ia_wia, qa_ja_wia, qa_pa_wia, qa_k_wja, qa_n_wja, qa_i_wja, qa_j_wja, qa_p_wja, qa_ia_wja, qa_ja_wja, qa_pa_wja, qa_k_wpa, qa_n_wpa, qa_i_wpa, qa_j_wpa, qa_p_wpa, qa_ia_wpa, qa_ja_wpa, qa_pa_wpa, qa_k_nw, qa_n_nw, qa_i_nw, qa_j_nw, qa_p_nw, qa_ia_nw, qa_ja_nw, qa_pa_nw, qa_k_na, qa_n_na, qa_i_na, qa_j_na, qa_p_na, qa_ia_na, qa_ja_na, qa_pa_na, hf l hl', e, g2]
      · rw [mp_o a g4]
        simp [qa_k_wi, qa_n_wi, qa_i_wi, qa_j_wi, qa_p_wi, qa_ia_wi, qa_ja_wi, qa_pa_wi, qa_k_wj, qa_n_wj, qa_i_wj, qa_j_wj, qa_p_wj, qa_ia_wj, qa_ja_wj, qa_pa_wj, qa_k_wp, qa_n_wp, qa_i_wp, qa_j_wp, qa_p_wp, qa_ia_wp, qa_ja_wp, qa_pa_wp, qa_k_wia, qa_n_wia, qa_i_wia, qa_j_wia, qa_p_wia, qa_ia_wia, qa_ja_wia, qa_pa_wia, qa_k_wja, qa_n_wja, qa_i_wja, qa_j_wja, qa_p_wja, qa_ia_wja, qa_ja_wja, qa_pa_wja, qa_k_wpa, qa_n_wpa, qa_i_wpa, qa_j_wpa, qa_p_wpa, qa_ia_wpa, qa_ja_wpa, qa_pa_wpa, qa_k_nw, qa_n_nw, qa_i_nw, qa_j_nw, qa_p_nw, qa_ia_nw, qa_ja_nw, qa_pa_nw, qa_k_na, qa_n_na, qa_i_na, qa_j_na, qa_p_na, qa_ia_na, qa_ja_na, qa_pa_na, hf l hl', g3]
  · rw [up_o ad a hN]
    simp [qa_k_wi, qa_n_wi, qa_i_wi, qa_j_wi, qa_p_wi, qa_ia_wi, qa_ja_wi, qa_pa_wi, qa_k_wj, qa_n_wj, qa_i_wj, qa_j_wj, qa_p_wj, qa_ia_wj, qa_ja_wj, qa_pa_wj, qa_k_wp, qa_n_wp, qa_i_wp, qa_j_wp, qa_p_wp, qa_ia_wp, qa_ja_wp, qa_pa_wp, qa_k_wia, qa_n_wia, qa_i_wia, qa_j_wia, qa_p_wia, qa_ia_wia, qa_ja_wia, qa_pa_wia, qa_k_wja, qa_n_wja, qa_i_wja, qa_j_wja, qa_p_wja, qa_ia_wja, qa_ja_wja, qa_pa_wja, qa_k_wpa, qa_n_wpa, qa_i_wpa, qa_j_wpa, qa_p_wpa, qa_ia_wpa, qa_ja_wpa, qa_pa_wpa, qa_k_nw, qa_n_nw, qa_i_nw, qa_j_nw, qa_p_nw, qa_ia_nw, qa_ja_nw, qa_pa_nw, qa_k_na, qa_n_na, qa_i_na, qa_j_na, qa_p_na, qa_ia_na, qa_ja_na, qa_pa_na, hf 0 hN, h6 hN]
theorem jm_na {M L : qa_M} {N a κ n : Nat} {ad : Nat → Nat} {vl : Int32} (h : Jm M N ad L vl) (ha : qa_k M a = 0) (hκ : 1000 ≤ κ) (hN : 0 < N) : Jm (qa_na M κ a n) (N + 1) (up ad N a) (qa_na L κ N n) vl := by
  have hf := fun l (hl : l < N) => h.fresh ha hl
  obtain ⟨h1, h2, h3, h4, h5, h6⟩ := h
  refine ⟨fun l hl => ?_, fun l l2 hl hl2 q => ?_, fun b hb => ?_, fun l hl hk => ?_, fun l hl hk f => ?_, fun _ => ?_⟩
  · by_cases e : l = N
    · subst e
      rw [up_n]
      simp [qa_k_wi, qa_n_wi, qa_i_wi, qa_j_wi, qa_p_wi, qa_ia_wi, qa_ja_wi, qa_pa_wi, qa_k_wj, qa_n_wj, qa_i_wj, qa_j_wj, qa_p_wj, qa_ia_wj, qa_ja_wj, qa_pa_wj, qa_k_wp, qa_n_wp, qa_i_wp, qa_j_wp, qa_p_wp, qa_ia_wp, qa_ja_wp, qa_pa_wp, qa_k_wia, qa_n_wia, qa_i_wia, qa_j_wia, qa_p_wia, qa_ia_wia, qa_ja_wia, qa_pa_wia, qa_k_wja, qa_n_wja, qa_i_wja, qa_j_wja, qa_p_wja, qa_ia_wja, qa_ja_wja, qa_pa_wja, qa_k_wpa, qa_n_wpa, qa_i_wpa, qa_j_wpa, qa_p_wpa, qa_ia_wpa, qa_ja_wpa, qa_pa_wpa, qa_k_nw, qa_n_nw, qa_i_nw, qa_j_nw, qa_p_nw, qa_ia_nw, qa_ja_nw, qa_pa_nw, qa_k_na, qa_n_na, qa_i_na, qa_j_na, qa_p_na, qa_ia_na, qa_ja_na, qa_pa_na]
      omega
    · have hl' : l < N := by omega
      rw [up_o ad a hl']
      simp [qa_k_wi, qa_n_wi, qa_i_wi, qa_j_wi, qa_p_wi, qa_ia_wi, qa_ja_wi, qa_pa_wi, qa_k_wj, qa_n_wj, qa_i_wj, qa_j_wj, qa_p_wj, qa_ia_wj, qa_ja_wj, qa_pa_wj, qa_k_wp, qa_n_wp, qa_i_wp, qa_j_wp, qa_p_wp, qa_ia_wp, qa_ja_wp, qa_pa_wp, qa_k_wia, qa_n_wia, qa_i_wia, qa_j_wia, qa_p_wia, qa_ia_wia, qa_ja_wia, qa_pa_wia, qa_k_wja, qa_n_wja, qa_i_wja, qa_j_wja, qa_p_wja, qa_ia_wja, qa_ja_wja, qa_pa_wja, qa_k_wpa, qa_n_wpa, qa_i_wpa, qa_j_wpa, qa_p_wpa, qa_ia_wpa, qa_ja_wpa, qa_pa_wpa, qa_k_nw, qa_n_nw, qa_i_nw, qa_j_nw, qa_p_nw, qa_ia_nw, qa_ja_nw, qa_pa_nw, qa_k_na, qa_n_na, qa_i_na, qa_j_na, qa_p_na, qa_ia_na, qa_ja_na, qa_pa_na, hf l hl', e, h1 l hl']
  · by_cases e : l = N
    · by_cases e2 : l2 = N
      · omega
      · rw [e, up_n, up_o ad a (show l2 < N by omega)] at q
        exact absurd q.symm (hf l2 (by omega))
    · by_cases e2 : l2 = N
      · rw [e2, up_n, up_o ad a (show l < N by omega)] at q
        exact absurd q (hf l (by omega))
      · rw [up_o ad a (show l < N by omega), up_o ad a (show l2 < N by omega)] at q
        exact h2 l l2 (by omega) (by omega) q
  · by_cases e : b = a
    · exact ⟨N, by omega, by rw [up_n, e]⟩
    · obtain ⟨l, hl, hl2⟩ := h3 b (by simpa [qa_k_wi, qa_n_wi, qa_i_wi, qa_j_wi, qa_p_wi, qa_ia_wi, qa_ja_wi, qa_pa_wi, qa_k_wj, qa_n_wj, qa_i_wj, qa_j_wj, qa_p_wj, qa_ia_wj, qa_ja_wj, qa_pa_wj, qa_k_wp, qa_n_wp, qa_i_wp, qa_j_wp, qa_p_wp, qa_ia_wp, qa_ja_wp, qa_pa_wp, qa_k_wia, qa_n_wia, qa_i_wia, qa_j_wia, qa_p_wia, qa_ia_wia, qa_ja_wia, qa_pa_wia, qa_k_wja, qa_n_wja, qa_i_wja, qa_j_wja, qa_p_wja, qa_ia_wja, qa_ja_wja, qa_pa_wja, qa_k_wpa, qa_n_wpa, qa_i_wpa, qa_j_wpa, qa_p_wpa, qa_ia_wpa, qa_ja_wpa, qa_pa_wpa, qa_k_nw, qa_n_nw, qa_i_nw, qa_j_nw, qa_p_nw, qa_ia_nw, qa_ja_nw, qa_pa_nw, qa_k_na, qa_n_na, qa_i_na, qa_j_na, qa_p_na, qa_ia_na, qa_ja_na, qa_pa_na, e] using hb)
      exact ⟨l, by omega, by rw [up_o ad a hl, hl2]⟩
  · by_cases e : l = N
    · subst e
      rw [up_n]
      simp [qa_k_wi, qa_n_wi, qa_i_wi, qa_j_wi, qa_p_wi, qa_ia_wi, qa_ja_wi, qa_pa_wi, qa_k_wj, qa_n_wj, qa_i_wj, qa_j_wj, qa_p_wj, qa_ia_wj, qa_ja_wj, qa_pa_wj, qa_k_wp, qa_n_wp, qa_i_wp, qa_j_wp, qa_p_wp, qa_ia_wp, qa_ja_wp, qa_pa_wp, qa_k_wia, qa_n_wia, qa_i_wia, qa_j_wia, qa_p_wia, qa_ia_wia, qa_ja_wia, qa_pa_wia, qa_k_wja, qa_n_wja, qa_i_wja, qa_j_wja, qa_p_wja, qa_ia_wja, qa_ja_wja, qa_pa_wja, qa_k_wpa, qa_n_wpa, qa_i_wpa, qa_j_wpa, qa_p_wpa, qa_ia_wpa, qa_ja_wpa, qa_pa_wpa, qa_k_nw, qa_n_nw, qa_i_nw, qa_j_nw, qa_p_nw, qa_ia_nw, qa_ja_nw, qa_pa_nw, qa_k_na, qa_n_na, qa_i_na, qa_j_na, qa_p_na, qa_ia_na, qa_ja_na, qa_pa_na]
    · have hl' : l < N := by omega
      have hk2 : qa_k (qa_na L κ N n) l = qa_k L l := by simp [qa_k_wi, qa_n_wi, qa_i_wi, qa_j_wi, qa_p_wi, qa_ia_wi, qa_ja_wi, qa_pa_wi, qa_k_wj, qa_n_wj, qa_i_wj, qa_j_wj, qa_p_wj, qa_ia_wj, qa_ja_wj, qa_pa_wj, qa_k_wp, qa_n_wp, qa_i_wp, qa_j_wp, qa_p_wp, qa_ia_wp, qa_ja_wp, qa_pa_wp, qa_k_wia, qa_n_wia, qa_i_wia, qa_j_wia, qa_p_wia, qa_ia_wia, qa_ja_wia, qa_pa_wia, qa_k_wja, qa_n_wja, qa_i_wja, qa_j_wja, qa_p_wja, qa_ia_wja, qa_ja_wja, qa_pa_wja, qa_k_wpa, qa_n_wpa, qa_i_wpa, qa_j_wpa, qa_p_wpa, qa_ia_wpa, qa_ja_wpa, qa_pa_wpa, qa_k_nw, qa_n_nw, qa_i_nw, qa_j_nw, qa_p_nw, qa_ia_nw, qa_ja_nw, qa_pa_nw, qa_k_na, qa_n_na, qa_i_na, qa_j_na, qa_p_na, qa_ia_na, qa_ja_na, qa_pa_na, e]
      rw [hk2] at hk ⊢
      obtain ⟨g1, g2⟩ := h4 l hl' hk
      rw [up_o ad a hl']
      refine ⟨by simp [qa_k_wi, qa_n_wi, qa_i_wi, qa_j_wi, qa_p_wi, qa_ia_wi, qa_ja_wi, qa_pa_wi, qa_k_wj, qa_n_wj, qa_i_wj, qa_j_wj, qa_p_wj, qa_ia_wj, qa_ja_wj, qa_pa_wj, qa_k_wp, qa_n_wp, qa_i_wp, qa_j_wp, qa_p_wp, qa_ia_wp, qa_ja_wp, qa_pa_wp, qa_k_wia, qa_n_wia, qa_i_wia, qa_j_wia, qa_p_wia, qa_ia_wia, qa_ja_wia, qa_pa_wia, qa_k_wja, qa_n_wja, qa_i_wja, qa_j_wja, qa_p_wja, qa_ia_wja, qa_ja_wja, qa_pa_wja, qa_k_wpa, qa_n_wpa, qa_i_wpa, qa_j_wpa, qa_p_wpa, qa_ia_wpa, qa_ja_wpa, qa_pa_wpa, qa_k_nw, qa_n_nw, qa_i_nw, qa_j_nw, qa_p_nw, qa_ia_nw, qa_ja_nw, qa_pa_nw, qa_k_na, qa_n_na, qa_i_na, qa_j_na, qa_p_na, qa_ia_na, qa_ja_na, qa_pa_na, hf l hl', e, g1], fun j => ?_⟩
      obtain ⟨g3, g4, g5, g6⟩ := g2 j
      have e1 : qa_pa (qa_na L κ N n) (qa_k L l) l j = qa_pa L (qa_k L l) l j := by simp [qa_k_wi, qa_n_wi, qa_i_wi, qa_j_wi, qa_p_wi, qa_ia_wi, qa_ja_wi, qa_pa_wi, qa_k_wj, qa_n_wj, qa_i_wj, qa_j_wj, qa_p_wj, qa_ia_wj, qa_ja_wj, qa_pa_wj, qa_k_wp, qa_n_wp, qa_i_wp, qa_j_wp, qa_p_wp, qa_ia_wp, qa_ja_wp, qa_pa_wp, qa_k_wia, qa_n_wia, qa_i_wia, qa_j_wia, qa_p_wia, qa_ia_wia, qa_ja_wia, qa_pa_wia, qa_k_wja, qa_n_wja, qa_i_wja, qa_j_wja, qa_p_wja, qa_ia_wja, qa_ja_wja, qa_pa_wja, qa_k_wpa, qa_n_wpa, qa_i_wpa, qa_j_wpa, qa_p_wpa, qa_ia_wpa, qa_ja_wpa, qa_pa_wpa, qa_k_nw, qa_n_nw, qa_i_nw, qa_j_nw, qa_p_nw, qa_ia_nw, qa_ja_nw, qa_pa_nw, qa_k_na, qa_n_na, qa_i_na, qa_j_na, qa_p_na, qa_ia_na, qa_ja_na, qa_pa_na, e]
      rw [e1]
      refine ⟨by simp [qa_k_wi, qa_n_wi, qa_i_wi, qa_j_wi, qa_p_wi, qa_ia_wi, qa_ja_wi, qa_pa_wi, qa_k_wj, qa_n_wj, qa_i_wj, qa_j_wj, qa_p_wj, qa_ia_wj, qa_ja_wj, qa_pa_wj, qa_k_wp, qa_n_wp, qa_i_wp, qa_j_wp, qa_p_wp, qa_ia_wp, qa_ja_wp, qa_pa_wp, qa_k_wia, qa_n_wia, qa_i_wia, qa_j_wia, qa_p_wia, qa_ia_wia, qa_ja_wia, qa_pa_wia, qa_k_wja, qa_n_wja, qa_i_wja, qa_j_wja, qa_p_wja, qa_ia_wja, qa_ja_wja, qa_pa_wja, qa_k_wpa, qa_n_wpa, qa_i_wpa, qa_j_wpa, qa_p_wpa, qa_ia_wpa, qa_ja_wpa, qa_pa_wpa, qa_k_nw, qa_n_nw, qa_i_nw, qa_j_nw, qa_p_nw, qa_ia_nw, qa_ja_nw, qa_pa_nw, qa_k_na, qa_n_na, qa_i_na, qa_j_na, qa_p_na, qa_ia_na, qa_ja_na, qa_pa_na, hf l hl', e, g3], by simp [qa_k_wi, qa_n_wi, qa_i_wi, qa_j_wi, qa_p_wi, qa_ia_wi, qa_ja_wi, qa_pa_wi, qa_k_wj, qa_n_wj, qa_i_wj, qa_j_wj, qa_p_wj, qa_ia_wj, qa_ja_wj, qa_pa_wj, qa_k_wp, qa_n_wp, qa_i_wp, qa_j_wp, qa_p_wp, qa_ia_wp, qa_ja_wp, qa_pa_wp, qa_k_wia, qa_n_wia, qa_i_wia, qa_j_wia, qa_p_wia, qa_ia_wia, qa_ja_wia, qa_pa_wia, qa_k_wja, qa_n_wja, qa_i_wja, qa_j_wja, qa_p_wja, qa_ia_wja, qa_ja_wja, qa_pa_wja, qa_k_wpa, qa_n_wpa, qa_i_wpa, qa_j_wpa, qa_p_wpa, qa_ia_wpa, qa_ja_wpa, qa_pa_wpa, qa_k_nw, qa_n_nw, qa_i_nw, qa_j_nw, qa_p_nw, qa_ia_nw, qa_ja_nw, qa_pa_nw, qa_k_na, qa_n_na, qa_i_na, qa_j_na, qa_p_na, qa_ia_na, qa_ja_na, qa_pa_na, hf l hl', e, g4], ?_, fun r hr => by have := g6 r hr; omega⟩
      rw [mp_o a g6]
      simp [qa_k_wi, qa_n_wi, qa_i_wi, qa_j_wi, qa_p_wi, qa_ia_wi, qa_ja_wi, qa_pa_wi, qa_k_wj, qa_n_wj, qa_i_wj, qa_j_wj, qa_p_wj, qa_ia_wj, qa_ja_wj, qa_pa_wj, qa_k_wp, qa_n_wp, qa_i_wp, qa_j_wp, qa_p_wp, qa_ia_wp, qa_ja_wp, qa_pa_wp, qa_k_wia, qa_n_wia, qa_i_wia, qa_j_wia, qa_p_wia, qa_ia_wia, qa_ja_wia, qa_pa_wia, qa_k_wja, qa_n_wja, qa_i_wja, qa_j_wja, qa_p_wja, qa_ia_wja, qa_ja_wja, qa_pa_wja, qa_k_wpa, qa_n_wpa, qa_i_wpa, qa_j_wpa, qa_p_wpa, qa_ia_wpa, qa_ja_wpa, qa_pa_wpa, qa_k_nw, qa_n_nw, qa_i_nw, qa_j_nw, qa_p_nw, qa_ia_nw, qa_ja_nw, qa_pa_nw, qa_k_na, qa_n_na, qa_i_na, qa_j_na, qa_p_na, qa_ia_na, qa_ja_na, qa_pa_na, hf l hl', g5]
  · by_cases e : l = N
    · subst e
      simp [qa_k_wi, qa_n_wi, qa_i_wi, qa_j_wi, qa_p_wi, qa_ia_wi, qa_ja_wi, qa_pa_wi, qa_k_wj, qa_n_wj, qa_i_wj, qa_j_wj, qa_p_wj, qa_ia_wj, qa_ja_wj, qa_pa_wj, qa_k_wp, qa_n_wp, qa_i_wp, qa_j_wp, qa_p_wp, qa_ia_wp, qa_ja_wp, qa_pa_wp, qa_k_wia, qa_n_wia, qa_i_wia, qa_j_wia, qa_p_wia, qa_ia_wia, qa_ja_wia, qa_pa_wia, qa_k_wja, qa_n_wja, qa_i_wja, qa_j_wja, qa_p_wja, qa_ia_wja, qa_ja_wja, qa_pa_wja, qa_k_wpa, qa_n_wpa, qa_i_wpa, qa_j_wpa, qa_p_wpa, qa_ia_wpa, qa_ja_wpa, qa_pa_wpa, qa_k_nw, qa_n_nw, qa_i_nw, qa_j_nw, qa_p_nw, qa_ia_nw, qa_ja_nw, qa_pa_nw, qa_k_na, qa_n_na, qa_i_na, qa_j_na, qa_p_na, qa_ia_na, qa_ja_na, qa_pa_na] at hk
      omega
    · have hl' : l < N := by omega
      have hk2 : qa_k (qa_na L κ N n) l = qa_k L l := by simp [qa_k_wi, qa_n_wi, qa_i_wi, qa_j_wi, qa_p_wi, qa_ia_wi, qa_ja_wi, qa_pa_wi, qa_k_wj, qa_n_wj, qa_i_wj, qa_j_wj, qa_p_wj, qa_ia_wj, qa_ja_wj, qa_pa_wj, qa_k_wp, qa_n_wp, qa_i_wp, qa_j_wp, qa_p_wp, qa_ia_wp, qa_ja_wp, qa_pa_wp, qa_k_wia, qa_n_wia, qa_i_wia, qa_j_wia, qa_p_wia, qa_ia_wia, qa_ja_wia, qa_pa_wia, qa_k_wja, qa_n_wja, qa_i_wja, qa_j_wja, qa_p_wja, qa_ia_wja, qa_ja_wja, qa_pa_wja, qa_k_wpa, qa_n_wpa, qa_i_wpa, qa_j_wpa, qa_p_wpa, qa_ia_wpa, qa_ja_wpa, qa_pa_wpa, qa_k_nw, qa_n_nw, qa_i_nw, qa_j_nw, qa_p_nw, qa_ia_nw, qa_ja_nw, qa_pa_nw, qa_k_na, qa_n_na, qa_i_na, qa_j_na, qa_p_na, qa_ia_na, qa_ja_na, qa_pa_na, e]
      rw [hk2] at hk
      obtain ⟨g1, g2, g3, g4⟩ := h5 l hl' hk f
      rw [up_o ad a hl']
      refine ⟨g1, g2, ?_, fun r hr => by have := g4 r hr; omega⟩
      show qa_p M f (ad l) = (qa_p L f l).map (up ad N a)
      rw [mp_o a g4]
      exact g3
  · rw [up_o ad a hN]
    exact h6 hN
theorem jm_wp {M L : qa_M} {N f l r : Nat} {ad : Nat → Nat} {vl : Int32} (h : Jm M N ad L vl) (hl : l < N) (hr : r < N) (hk : qa_k L l < 1000) : Jm (qa_wp M f (ad l) (some (ad r))) N ad (qa_wp L f l (some r)) vl := by
  obtain ⟨h1, h2, h3, h4, h5, h6⟩ := h
  refine ⟨h1, h2, h3, h4, fun x hx hkx g => ?_, h6⟩
  obtain ⟨g1, g2, g3, g4⟩ := h5 x hx hkx g
  refine ⟨g1, g2, ?_⟩
  by_cases e : g = f ∧ x = l
  · obtain ⟨rfl, rfl⟩ := e
    simp [qa_k_wi, qa_n_wi, qa_i_wi, qa_j_wi, qa_p_wi, qa_ia_wi, qa_ja_wi, qa_pa_wi, qa_k_wj, qa_n_wj, qa_i_wj, qa_j_wj, qa_p_wj, qa_ia_wj, qa_ja_wj, qa_pa_wj, qa_k_wp, qa_n_wp, qa_i_wp, qa_j_wp, qa_p_wp, qa_ia_wp, qa_ja_wp, qa_pa_wp, qa_k_wia, qa_n_wia, qa_i_wia, qa_j_wia, qa_p_wia, qa_ia_wia, qa_ja_wia, qa_pa_wia, qa_k_wja, qa_n_wja, qa_i_wja, qa_j_wja, qa_p_wja, qa_ia_wja, qa_ja_wja, qa_pa_wja, qa_k_wpa, qa_n_wpa, qa_i_wpa, qa_j_wpa, qa_p_wpa, qa_ia_wpa, qa_ja_wpa, qa_pa_wpa, qa_k_nw, qa_n_nw, qa_i_nw, qa_j_nw, qa_p_nw, qa_ia_nw, qa_ja_nw, qa_pa_nw, qa_k_na, qa_n_na, qa_i_na, qa_j_na, qa_p_na, qa_ia_na, qa_ja_na, qa_pa_na]
    exact hr
  · have e2 : ¬ (g = f ∧ ad x = ad l) := fun q => e ⟨q.1, h2 x l hx hl q.2⟩
    rw [show qa_p (qa_wp M f (ad l) (some (ad r))) g (ad x) = qa_p M g (ad x) by simp [qa_k_wi, qa_n_wi, qa_i_wi, qa_j_wi, qa_p_wi, qa_ia_wi, qa_ja_wi, qa_pa_wi, qa_k_wj, qa_n_wj, qa_i_wj, qa_j_wj, qa_p_wj, qa_ia_wj, qa_ja_wj, qa_pa_wj, qa_k_wp, qa_n_wp, qa_i_wp, qa_j_wp, qa_p_wp, qa_ia_wp, qa_ja_wp, qa_pa_wp, qa_k_wia, qa_n_wia, qa_i_wia, qa_j_wia, qa_p_wia, qa_ia_wia, qa_ja_wia, qa_pa_wia, qa_k_wja, qa_n_wja, qa_i_wja, qa_j_wja, qa_p_wja, qa_ia_wja, qa_ja_wja, qa_pa_wja, qa_k_wpa, qa_n_wpa, qa_i_wpa, qa_j_wpa, qa_p_wpa, qa_ia_wpa, qa_ja_wpa, qa_pa_wpa, qa_k_nw, qa_n_nw, qa_i_nw, qa_j_nw, qa_p_nw, qa_ia_nw, qa_ja_nw, qa_pa_nw, qa_k_na, qa_n_na, qa_i_na, qa_j_na, qa_p_na, qa_ia_na, qa_ja_na, qa_pa_na, e2], show qa_p (qa_wp L f l (some r)) g x = qa_p L g x by simp [qa_k_wi, qa_n_wi, qa_i_wi, qa_j_wi, qa_p_wi, qa_ia_wi, qa_ja_wi, qa_pa_wi, qa_k_wj, qa_n_wj, qa_i_wj, qa_j_wj, qa_p_wj, qa_ia_wj, qa_ja_wj, qa_pa_wj, qa_k_wp, qa_n_wp, qa_i_wp, qa_j_wp, qa_p_wp, qa_ia_wp, qa_ja_wp, qa_pa_wp, qa_k_wia, qa_n_wia, qa_i_wia, qa_j_wia, qa_p_wia, qa_ia_wia, qa_ja_wia, qa_pa_wia, qa_k_wja, qa_n_wja, qa_i_wja, qa_j_wja, qa_p_wja, qa_ia_wja, qa_ja_wja, qa_pa_wja, qa_k_wpa, qa_n_wpa, qa_i_wpa, qa_j_wpa, qa_p_wpa, qa_ia_wpa, qa_ja_wpa, qa_pa_wpa, qa_k_nw, qa_n_nw, qa_i_nw, qa_j_nw, qa_p_nw, qa_ia_nw, qa_ja_nw, qa_pa_nw, qa_k_na, qa_n_na, qa_i_na, qa_j_na, qa_p_na, qa_ia_na, qa_ja_na, qa_pa_na, e]]
    exact ⟨g3, g4⟩
theorem jm_wi {M L : qa_M} {N f l : Nat} {v : Int32} {ad : Nat → Nat} {vl : Int32} (h : Jm M N ad L vl) (hl : l < N) (hf0 : f ≠ 0) : Jm (qa_wi M f (ad l) v) N ad (qa_wi L f l v) vl := by
  obtain ⟨h1, h2, h3, h4, h5, h6⟩ := h
  refine ⟨h1, h2, h3, h4, fun x hx hkx g => ?_, fun q => by
    have e0 : ¬ 0 = f := fun q => hf0 q.symm
    rw [← h6 q]
    simp [qa_k_wi, qa_n_wi, qa_i_wi, qa_j_wi, qa_p_wi, qa_ia_wi, qa_ja_wi, qa_pa_wi, qa_k_wj, qa_n_wj, qa_i_wj, qa_j_wj, qa_p_wj, qa_ia_wj, qa_ja_wj, qa_pa_wj, qa_k_wp, qa_n_wp, qa_i_wp, qa_j_wp, qa_p_wp, qa_ia_wp, qa_ja_wp, qa_pa_wp, qa_k_wia, qa_n_wia, qa_i_wia, qa_j_wia, qa_p_wia, qa_ia_wia, qa_ja_wia, qa_pa_wia, qa_k_wja, qa_n_wja, qa_i_wja, qa_j_wja, qa_p_wja, qa_ia_wja, qa_ja_wja, qa_pa_wja, qa_k_wpa, qa_n_wpa, qa_i_wpa, qa_j_wpa, qa_p_wpa, qa_ia_wpa, qa_ja_wpa, qa_pa_wpa, qa_k_nw, qa_n_nw, qa_i_nw, qa_j_nw, qa_p_nw, qa_ia_nw, qa_ja_nw, qa_pa_nw, qa_k_na, qa_n_na, qa_i_na, qa_j_na, qa_p_na, qa_ia_na, qa_ja_na, qa_pa_na, e0]⟩
  obtain ⟨g1, g2, g3, g4⟩ := h5 x hx hkx g
  refine ⟨fun q1 q2 => ?_, g2, g3, g4⟩
  by_cases e : g = f ∧ x = l
  · obtain ⟨rfl, rfl⟩ := e
    simp [qa_k_wi, qa_n_wi, qa_i_wi, qa_j_wi, qa_p_wi, qa_ia_wi, qa_ja_wi, qa_pa_wi, qa_k_wj, qa_n_wj, qa_i_wj, qa_j_wj, qa_p_wj, qa_ia_wj, qa_ja_wj, qa_pa_wj, qa_k_wp, qa_n_wp, qa_i_wp, qa_j_wp, qa_p_wp, qa_ia_wp, qa_ja_wp, qa_pa_wp, qa_k_wia, qa_n_wia, qa_i_wia, qa_j_wia, qa_p_wia, qa_ia_wia, qa_ja_wia, qa_pa_wia, qa_k_wja, qa_n_wja, qa_i_wja, qa_j_wja, qa_p_wja, qa_ia_wja, qa_ja_wja, qa_pa_wja, qa_k_wpa, qa_n_wpa, qa_i_wpa, qa_j_wpa, qa_p_wpa, qa_ia_wpa, qa_ja_wpa, qa_pa_wpa, qa_k_nw, qa_n_nw, qa_i_nw, qa_j_nw, qa_p_nw, qa_ia_nw, qa_ja_nw, qa_pa_nw, qa_k_na, qa_n_na, qa_i_na, qa_j_na, qa_p_na, qa_ia_na, qa_ja_na, qa_pa_na]
  · have e2 : ¬ (g = f ∧ ad x = ad l) := fun q => e ⟨q.1, h2 x l hx hl q.2⟩
    rw [show qa_i (qa_wi M f (ad l) v) g (ad x) = qa_i M g (ad x) by simp [qa_k_wi, qa_n_wi, qa_i_wi, qa_j_wi, qa_p_wi, qa_ia_wi, qa_ja_wi, qa_pa_wi, qa_k_wj, qa_n_wj, qa_i_wj, qa_j_wj, qa_p_wj, qa_ia_wj, qa_ja_wj, qa_pa_wj, qa_k_wp, qa_n_wp, qa_i_wp, qa_j_wp, qa_p_wp, qa_ia_wp, qa_ja_wp, qa_pa_wp, qa_k_wia, qa_n_wia, qa_i_wia, qa_j_wia, qa_p_wia, qa_ia_wia, qa_ja_wia, qa_pa_wia, qa_k_wja, qa_n_wja, qa_i_wja, qa_j_wja, qa_p_wja, qa_ia_wja, qa_ja_wja, qa_pa_wja, qa_k_wpa, qa_n_wpa, qa_i_wpa, qa_j_wpa, qa_p_wpa, qa_ia_wpa, qa_ja_wpa, qa_pa_wpa, qa_k_nw, qa_n_nw, qa_i_nw, qa_j_nw, qa_p_nw, qa_ia_nw, qa_ja_nw, qa_pa_nw, qa_k_na, qa_n_na, qa_i_na, qa_j_na, qa_p_na, qa_ia_na, qa_ja_na, qa_pa_na, e2], show qa_i (qa_wi L f l v) g x = qa_i L g x by simp [qa_k_wi, qa_n_wi, qa_i_wi, qa_j_wi, qa_p_wi, qa_ia_wi, qa_ja_wi, qa_pa_wi, qa_k_wj, qa_n_wj, qa_i_wj, qa_j_wj, qa_p_wj, qa_ia_wj, qa_ja_wj, qa_pa_wj, qa_k_wp, qa_n_wp, qa_i_wp, qa_j_wp, qa_p_wp, qa_ia_wp, qa_ja_wp, qa_pa_wp, qa_k_wia, qa_n_wia, qa_i_wia, qa_j_wia, qa_p_wia, qa_ia_wia, qa_ja_wia, qa_pa_wia, qa_k_wja, qa_n_wja, qa_i_wja, qa_j_wja, qa_p_wja, qa_ia_wja, qa_ja_wja, qa_pa_wja, qa_k_wpa, qa_n_wpa, qa_i_wpa, qa_j_wpa, qa_p_wpa, qa_ia_wpa, qa_ja_wpa, qa_pa_wpa, qa_k_nw, qa_n_nw, qa_i_nw, qa_j_nw, qa_p_nw, qa_ia_nw, qa_ja_nw, qa_pa_nw, qa_k_na, qa_n_na, qa_i_na, qa_j_na, qa_p_na, qa_ia_na, qa_ja_na, qa_pa_na, e]]
    exact g1 q1 q2
theorem jm_lim {M L : qa_M} {N : Nat} {v vl : Int32} {ad : Nat → Nat} (h : Jm M N ad L vl) (hN : 0 < N) : Jm (qa_wi M 0 (ad 0) v) N ad L v := by
  obtain ⟨h1, h2, h3, h4, h5, h6⟩ := h
  refine ⟨h1, h2, h3, h4, fun x hx hkx g => ?_, fun q => by simp [qa_k_wi, qa_n_wi, qa_i_wi, qa_j_wi, qa_p_wi, qa_ia_wi, qa_ja_wi, qa_pa_wi, qa_k_wj, qa_n_wj, qa_i_wj, qa_j_wj, qa_p_wj, qa_ia_wj, qa_ja_wj, qa_pa_wj, qa_k_wp, qa_n_wp, qa_i_wp, qa_j_wp, qa_p_wp, qa_ia_wp, qa_ja_wp, qa_pa_wp, qa_k_wia, qa_n_wia, qa_i_wia, qa_j_wia, qa_p_wia, qa_ia_wia, qa_ja_wia, qa_pa_wia, qa_k_wja, qa_n_wja, qa_i_wja, qa_j_wja, qa_p_wja, qa_ia_wja, qa_ja_wja, qa_pa_wja, qa_k_wpa, qa_n_wpa, qa_i_wpa, qa_j_wpa, qa_p_wpa, qa_ia_wpa, qa_ja_wpa, qa_pa_wpa, qa_k_nw, qa_n_nw, qa_i_nw, qa_j_nw, qa_p_nw, qa_ia_nw, qa_ja_nw, qa_pa_nw, qa_k_na, qa_n_na, qa_i_na, qa_j_na, qa_p_na, qa_ia_na, qa_ja_na, qa_pa_na]⟩
  obtain ⟨g1, g2, g3, g4⟩ := h5 x hx hkx g
  refine ⟨fun q1 q2 => ?_, g2, g3, g4⟩
  rw [show qa_i (qa_wi M 0 (ad 0) v) g (ad x) = qa_i M g (ad x) by simp [qa_k_wi, qa_n_wi, qa_i_wi, qa_j_wi, qa_p_wi, qa_ia_wi, qa_ja_wi, qa_pa_wi, qa_k_wj, qa_n_wj, qa_i_wj, qa_j_wj, qa_p_wj, qa_ia_wj, qa_ja_wj, qa_pa_wj, qa_k_wp, qa_n_wp, qa_i_wp, qa_j_wp, qa_p_wp, qa_ia_wp, qa_ja_wp, qa_pa_wp, qa_k_wia, qa_n_wia, qa_i_wia, qa_j_wia, qa_p_wia, qa_ia_wia, qa_ja_wia, qa_pa_wia, qa_k_wja, qa_n_wja, qa_i_wja, qa_j_wja, qa_p_wja, qa_ia_wja, qa_ja_wja, qa_pa_wja, qa_k_wpa, qa_n_wpa, qa_i_wpa, qa_j_wpa, qa_p_wpa, qa_ia_wpa, qa_ja_wpa, qa_pa_wpa, qa_k_nw, qa_n_nw, qa_i_nw, qa_j_nw, qa_p_nw, qa_ia_nw, qa_ja_nw, qa_pa_nw, qa_k_na, qa_n_na, qa_i_na, qa_j_na, qa_p_na, qa_ia_na, qa_ja_na, qa_pa_na, q1]]
  exact g1 q1 q2
theorem jm_192 {M L : qa_M} {N b : Nat} {v vl : Int32} {ad : Nat → Nat} (h : Jm M N ad L vl) : Jm (qa_wi M 192 b v) N ad L vl := by
  obtain ⟨h1, h2, h3, h4, h5, h6⟩ := h
  refine ⟨h1, h2, h3, h4, fun x hx hkx g => ?_, fun q => by rw [← h6 q]; simp [qa_k_wi, qa_n_wi, qa_i_wi, qa_j_wi, qa_p_wi, qa_ia_wi, qa_ja_wi, qa_pa_wi, qa_k_wj, qa_n_wj, qa_i_wj, qa_j_wj, qa_p_wj, qa_ia_wj, qa_ja_wj, qa_pa_wj, qa_k_wp, qa_n_wp, qa_i_wp, qa_j_wp, qa_p_wp, qa_ia_wp, qa_ja_wp, qa_pa_wp, qa_k_wia, qa_n_wia, qa_i_wia, qa_j_wia, qa_p_wia, qa_ia_wia, qa_ja_wia, qa_pa_wia, qa_k_wja, qa_n_wja, qa_i_wja, qa_j_wja, qa_p_wja, qa_ia_wja, qa_ja_wja, qa_pa_wja, qa_k_wpa, qa_n_wpa, qa_i_wpa, qa_j_wpa, qa_p_wpa, qa_ia_wpa, qa_ja_wpa, qa_pa_wpa, qa_k_nw, qa_n_nw, qa_i_nw, qa_j_nw, qa_p_nw, qa_ia_nw, qa_ja_nw, qa_pa_nw, qa_k_na, qa_n_na, qa_i_na, qa_j_na, qa_p_na, qa_ia_na, qa_ja_na, qa_pa_na]⟩
  obtain ⟨g1, g2, g3, g4⟩ := h5 x hx hkx g
  refine ⟨fun q1 q2 => ?_, g2, g3, g4⟩
  rw [show qa_i (qa_wi M 192 b v) g (ad x) = qa_i M g (ad x) by simp [qa_k_wi, qa_n_wi, qa_i_wi, qa_j_wi, qa_p_wi, qa_ia_wi, qa_ja_wi, qa_pa_wi, qa_k_wj, qa_n_wj, qa_i_wj, qa_j_wj, qa_p_wj, qa_ia_wj, qa_ja_wj, qa_pa_wj, qa_k_wp, qa_n_wp, qa_i_wp, qa_j_wp, qa_p_wp, qa_ia_wp, qa_ja_wp, qa_pa_wp, qa_k_wia, qa_n_wia, qa_i_wia, qa_j_wia, qa_p_wia, qa_ia_wia, qa_ja_wia, qa_pa_wia, qa_k_wja, qa_n_wja, qa_i_wja, qa_j_wja, qa_p_wja, qa_ia_wja, qa_ja_wja, qa_pa_wja, qa_k_wpa, qa_n_wpa, qa_i_wpa, qa_j_wpa, qa_p_wpa, qa_ia_wpa, qa_ja_wpa, qa_pa_wpa, qa_k_nw, qa_n_nw, qa_i_nw, qa_j_nw, qa_p_nw, qa_ia_nw, qa_ja_nw, qa_pa_nw, qa_k_na, qa_n_na, qa_i_na, qa_j_na, qa_p_na, qa_ia_na, qa_ja_na, qa_pa_na, q2]]
  exact g1 q1 q2
theorem jm_wpa {M L : qa_M} {N κ l j r : Nat} {ad : Nat → Nat} {vl : Int32} (h : Jm M N ad L vl) (hl : l < N) (hr : r < N) (hk : qa_k L l = κ) (hκ : 1000 ≤ κ) : Jm (qa_wpa M κ (ad l) j (some (ad r))) N ad (qa_wpa L κ l j (some r)) vl := by
  obtain ⟨h1, h2, h3, h4, h5, h6⟩ := h
  refine ⟨h1, h2, h3, fun x hx hkx => ?_, h5, h6⟩
  obtain ⟨g1, g2⟩ := h4 x hx hkx
  refine ⟨g1, fun i => ?_⟩
  obtain ⟨g3, g4, g5, g6⟩ := g2 i
  refine ⟨g3, g4, ?_⟩
  show qa_pa (qa_wpa M κ (ad l) j (some (ad r))) (qa_k L x) (ad x) i = (qa_pa (qa_wpa L κ l j (some r)) (qa_k L x) x i).map ad ∧ ∀ r2, qa_pa (qa_wpa L κ l j (some r)) (qa_k L x) x i = some r2 → r2 < N
  by_cases e : x = l ∧ i = j
  · obtain ⟨rfl, rfl⟩ := e
    rw [hk]
    simp [qa_k_wi, qa_n_wi, qa_i_wi, qa_j_wi, qa_p_wi, qa_ia_wi, qa_ja_wi, qa_pa_wi, qa_k_wj, qa_n_wj, qa_i_wj, qa_j_wj, qa_p_wj, qa_ia_wj, qa_ja_wj, qa_pa_wj, qa_k_wp, qa_n_wp, qa_i_wp, qa_j_wp, qa_p_wp, qa_ia_wp, qa_ja_wp, qa_pa_wp, qa_k_wia, qa_n_wia, qa_i_wia, qa_j_wia, qa_p_wia, qa_ia_wia, qa_ja_wia, qa_pa_wia, qa_k_wja, qa_n_wja, qa_i_wja, qa_j_wja, qa_p_wja, qa_ia_wja, qa_ja_wja, qa_pa_wja, qa_k_wpa, qa_n_wpa, qa_i_wpa, qa_j_wpa, qa_p_wpa, qa_ia_wpa, qa_ja_wpa, qa_pa_wpa, qa_k_nw, qa_n_nw, qa_i_nw, qa_j_nw, qa_p_nw, qa_ia_nw, qa_ja_nw, qa_pa_nw, qa_k_na, qa_n_na, qa_i_na, qa_j_na, qa_p_na, qa_ia_na, qa_ja_na, qa_pa_na]
    exact hr
  · have e1 : ¬ (qa_k L x = κ ∧ x = l ∧ i = j) := fun q => e ⟨q.2.1, q.2.2⟩
    have e2 : ¬ (qa_k L x = κ ∧ ad x = ad l ∧ i = j) := fun q => e ⟨h2 x l hx hl q.2.1, q.2.2⟩
    rw [show qa_pa (qa_wpa M κ (ad l) j (some (ad r))) (qa_k L x) (ad x) i = qa_pa M (qa_k L x) (ad x) i by simp [qa_k_wi, qa_n_wi, qa_i_wi, qa_j_wi, qa_p_wi, qa_ia_wi, qa_ja_wi, qa_pa_wi, qa_k_wj, qa_n_wj, qa_i_wj, qa_j_wj, qa_p_wj, qa_ia_wj, qa_ja_wj, qa_pa_wj, qa_k_wp, qa_n_wp, qa_i_wp, qa_j_wp, qa_p_wp, qa_ia_wp, qa_ja_wp, qa_pa_wp, qa_k_wia, qa_n_wia, qa_i_wia, qa_j_wia, qa_p_wia, qa_ia_wia, qa_ja_wia, qa_pa_wia, qa_k_wja, qa_n_wja, qa_i_wja, qa_j_wja, qa_p_wja, qa_ia_wja, qa_ja_wja, qa_pa_wja, qa_k_wpa, qa_n_wpa, qa_i_wpa, qa_j_wpa, qa_p_wpa, qa_ia_wpa, qa_ja_wpa, qa_pa_wpa, qa_k_nw, qa_n_nw, qa_i_nw, qa_j_nw, qa_p_nw, qa_ia_nw, qa_ja_nw, qa_pa_nw, qa_k_na, qa_n_na, qa_i_na, qa_j_na, qa_p_na, qa_ia_na, qa_ja_na, qa_pa_na, e2], show qa_pa (qa_wpa L κ l j (some r)) (qa_k L x) x i = qa_pa L (qa_k L x) x i by simp [qa_k_wi, qa_n_wi, qa_i_wi, qa_j_wi, qa_p_wi, qa_ia_wi, qa_ja_wi, qa_pa_wi, qa_k_wj, qa_n_wj, qa_i_wj, qa_j_wj, qa_p_wj, qa_ia_wj, qa_ja_wj, qa_pa_wj, qa_k_wp, qa_n_wp, qa_i_wp, qa_j_wp, qa_p_wp, qa_ia_wp, qa_ja_wp, qa_pa_wp, qa_k_wia, qa_n_wia, qa_i_wia, qa_j_wia, qa_p_wia, qa_ia_wia, qa_ja_wia, qa_pa_wia, qa_k_wja, qa_n_wja, qa_i_wja, qa_j_wja, qa_p_wja, qa_ia_wja, qa_ja_wja, qa_pa_wja, qa_k_wpa, qa_n_wpa, qa_i_wpa, qa_j_wpa, qa_p_wpa, qa_ia_wpa, qa_ja_wpa, qa_pa_wpa, qa_k_nw, qa_n_nw, qa_i_nw, qa_j_nw, qa_p_nw, qa_ia_nw, qa_ja_nw, qa_pa_nw, qa_k_na, qa_n_na, qa_i_na, qa_j_na, qa_p_na, qa_ia_na, qa_ja_na, qa_pa_na, e1]]
    exact ⟨g5, g6⟩
def Ex (M : qa_M) (N : Nat) (ad : Nat → Nat) (M2 : qa_M) (ad2 : Nat → Nat) : Prop := ∀ l, l < N → ad2 l = ad l ∧ qa_k M2 (ad l) = qa_k M (ad l)
theorem Ex.refl (M : qa_M) (N : Nat) (ad : Nat → Nat) : Ex M N ad M ad := fun _ _ => ⟨rfl, rfl⟩
theorem Ex.trans {M M2 M3 : qa_M} {N N2 : Nat} {ad ad2 ad3 : Nat → Nat} (h : Ex M N ad M2 ad2) (g : Ex M2 N2 ad2 M3 ad3) (hN : N ≤ N2) : Ex M N ad M3 ad3 := fun l hl => by
  obtain ⟨a1, a2⟩ := h l hl
  obtain ⟨b1, b2⟩ := g l (by omega)
  rw [a1] at b1 b2
  exact ⟨b1, b2.trans a2⟩
section EJ
variable {u v w : Nat × Nat} {lv : qa_L} {st : List Value} {M L : qa_M} {k : qa_K} {N : Nat} {ad : Nat → Nat} {vl : Int32}
theorem ev_newJ {c sz : Nat} (hJ : Jm M N ad L vl) (hN : 0 < N) (hc : 0 < c) (hc2 : c < 1000) (hle : u.1 + 1 ≤ v.1 ∧ u.2 + sz ≤ v.2) (h : ∀ a M2 ad2, Jm M2 (N + 1) ad2 (qa_nw L c N) vl → ad2 N = a → qa_k M2 a = c → Ex M N ad M2 ad2 → k (u.1 + 1, u.2 + sz) lv (.ref a :: st) M2) : qi_new c sz v k u lv st M := by
  refine ⟨hle, fun a ha => h a _ _ (jm_nw hJ ha hc hc2 hN) (up_n _ _ _) (by simp [qa_k_wi, qa_n_wi, qa_i_wi, qa_j_wi, qa_p_wi, qa_ia_wi, qa_ja_wi, qa_pa_wi, qa_k_wj, qa_n_wj, qa_i_wj, qa_j_wj, qa_p_wj, qa_ia_wj, qa_ja_wj, qa_pa_wj, qa_k_wp, qa_n_wp, qa_i_wp, qa_j_wp, qa_p_wp, qa_ia_wp, qa_ja_wp, qa_pa_wp, qa_k_wia, qa_n_wia, qa_i_wia, qa_j_wia, qa_p_wia, qa_ia_wia, qa_ja_wia, qa_pa_wia, qa_k_wja, qa_n_wja, qa_i_wja, qa_j_wja, qa_p_wja, qa_ia_wja, qa_ja_wja, qa_pa_wja, qa_k_wpa, qa_n_wpa, qa_i_wpa, qa_j_wpa, qa_p_wpa, qa_ia_wpa, qa_ja_wpa, qa_pa_wpa, qa_k_nw, qa_n_nw, qa_i_nw, qa_j_nw, qa_p_nw, qa_ia_nw, qa_ja_nw, qa_pa_nw, qa_k_na, qa_n_na, qa_i_na, qa_j_na, qa_p_na, qa_ia_na, qa_ja_na, qa_pa_na]) (fun l hl => ⟨up_o _ _ hl, ?_⟩)⟩
  simp [qa_k_wi, qa_n_wi, qa_i_wi, qa_j_wi, qa_p_wi, qa_ia_wi, qa_ja_wi, qa_pa_wi, qa_k_wj, qa_n_wj, qa_i_wj, qa_j_wj, qa_p_wj, qa_ia_wj, qa_ja_wj, qa_pa_wj, qa_k_wp, qa_n_wp, qa_i_wp, qa_j_wp, qa_p_wp, qa_ia_wp, qa_ja_wp, qa_pa_wp, qa_k_wia, qa_n_wia, qa_i_wia, qa_j_wia, qa_p_wia, qa_ia_wia, qa_ja_wia, qa_pa_wia, qa_k_wja, qa_n_wja, qa_i_wja, qa_j_wja, qa_p_wja, qa_ia_wja, qa_ja_wja, qa_pa_wja, qa_k_wpa, qa_n_wpa, qa_i_wpa, qa_j_wpa, qa_p_wpa, qa_ia_wpa, qa_ja_wpa, qa_pa_wpa, qa_k_nw, qa_n_nw, qa_i_nw, qa_j_nw, qa_p_nw, qa_ia_nw, qa_ja_nw, qa_pa_nw, qa_k_na, qa_n_na, qa_i_na, qa_j_na, qa_p_na, qa_ia_na, qa_ja_na, qa_pa_na, hJ.fresh ha hl]
theorem ev_newaJ {κ n : Nat} (hJ : Jm M N ad L vl) (hN : 0 < N) (hκ : 1000 ≤ κ) (hn : n ≤ 1000) (hle : u.1 + 1 ≤ v.1 ∧ u.2 + n ≤ v.2) (h : ∀ a M2 ad2, Jm M2 (N + 1) ad2 (qa_na L κ N n) vl → ad2 N = a → qa_k M2 a = κ → qa_n M2 a = n → Ex M N ad M2 ad2 → k (u.1 + 1, u.2 + n) lv (.ref a :: st) M2) : qi_newa κ v k u lv (.int (nI n) :: st) M := by
  have e : (nI n).toNatClampNeg = n := nI_clamp (by omega)
  refine ⟨nI_pos (by omega), by rw [e]; omega, by rw [e]; exact hle, fun a ha => ?_⟩
  rw [e]
  refine h a _ _ (jm_na hJ ha hκ hN) (up_n _ _ _) (by simp [qa_k_wi, qa_n_wi, qa_i_wi, qa_j_wi, qa_p_wi, qa_ia_wi, qa_ja_wi, qa_pa_wi, qa_k_wj, qa_n_wj, qa_i_wj, qa_j_wj, qa_p_wj, qa_ia_wj, qa_ja_wj, qa_pa_wj, qa_k_wp, qa_n_wp, qa_i_wp, qa_j_wp, qa_p_wp, qa_ia_wp, qa_ja_wp, qa_pa_wp, qa_k_wia, qa_n_wia, qa_i_wia, qa_j_wia, qa_p_wia, qa_ia_wia, qa_ja_wia, qa_pa_wia, qa_k_wja, qa_n_wja, qa_i_wja, qa_j_wja, qa_p_wja, qa_ia_wja, qa_ja_wja, qa_pa_wja, qa_k_wpa, qa_n_wpa, qa_i_wpa, qa_j_wpa, qa_p_wpa, qa_ia_wpa, qa_ja_wpa, qa_pa_wpa, qa_k_nw, qa_n_nw, qa_i_nw, qa_j_nw, qa_p_nw, qa_ia_nw, qa_ja_nw, qa_pa_nw, qa_k_na, qa_n_na, qa_i_na, qa_j_na, qa_p_na, qa_ia_na, qa_ja_na, qa_pa_na]) (by simp [qa_k_wi, qa_n_wi, qa_i_wi, qa_j_wi, qa_p_wi, qa_ia_wi, qa_ja_wi, qa_pa_wi, qa_k_wj, qa_n_wj, qa_i_wj, qa_j_wj, qa_p_wj, qa_ia_wj, qa_ja_wj, qa_pa_wj, qa_k_wp, qa_n_wp, qa_i_wp, qa_j_wp, qa_p_wp, qa_ia_wp, qa_ja_wp, qa_pa_wp, qa_k_wia, qa_n_wia, qa_i_wia, qa_j_wia, qa_p_wia, qa_ia_wia, qa_ja_wia, qa_pa_wia, qa_k_wja, qa_n_wja, qa_i_wja, qa_j_wja, qa_p_wja, qa_ia_wja, qa_ja_wja, qa_pa_wja, qa_k_wpa, qa_n_wpa, qa_i_wpa, qa_j_wpa, qa_p_wpa, qa_ia_wpa, qa_ja_wpa, qa_pa_wpa, qa_k_nw, qa_n_nw, qa_i_nw, qa_j_nw, qa_p_nw, qa_ia_nw, qa_ja_nw, qa_pa_nw, qa_k_na, qa_n_na, qa_i_na, qa_j_na, qa_p_na, qa_ia_na, qa_ja_na, qa_pa_na]) (fun l hl => ⟨up_o _ _ hl, ?_⟩)
  simp [qa_k_wi, qa_n_wi, qa_i_wi, qa_j_wi, qa_p_wi, qa_ia_wi, qa_ja_wi, qa_pa_wi, qa_k_wj, qa_n_wj, qa_i_wj, qa_j_wj, qa_p_wj, qa_ia_wj, qa_ja_wj, qa_pa_wj, qa_k_wp, qa_n_wp, qa_i_wp, qa_j_wp, qa_p_wp, qa_ia_wp, qa_ja_wp, qa_pa_wp, qa_k_wia, qa_n_wia, qa_i_wia, qa_j_wia, qa_p_wia, qa_ia_wia, qa_ja_wia, qa_pa_wia, qa_k_wja, qa_n_wja, qa_i_wja, qa_j_wja, qa_p_wja, qa_ia_wja, qa_ja_wja, qa_pa_wja, qa_k_wpa, qa_n_wpa, qa_i_wpa, qa_j_wpa, qa_p_wpa, qa_ia_wpa, qa_ja_wpa, qa_pa_wpa, qa_k_nw, qa_n_nw, qa_i_nw, qa_j_nw, qa_p_nw, qa_ia_nw, qa_ja_nw, qa_pa_nw, qa_k_na, qa_n_na, qa_i_na, qa_j_na, qa_p_na, qa_ia_na, qa_ja_na, qa_pa_na, hJ.fresh ha hl]
theorem ev_oinit {a : Nat} (hr : qa_rm st) (hk : k u lv st M) : qi_oinit k u lv (.ref a :: st) M := ⟨hr, hk⟩
theorem ev_callm1 {sp : qa_sp} {b : Nat} (hr : qa_rm st) (hu : u.1 + w.1 ≤ v.1 ∧ u.2 + w.2 ≤ v.2) (h : sp [.ref b] M fun r M2 => k (u.1 + w.1, u.2 + w.2) lv (qa_rs r st) M2) : qi_callm 1 v w sp k u lv (.ref b :: st) M := ⟨hr, hu, h⟩
theorem ev_callm2 {sp : qa_sp} {b : Nat} {a1 : Value} (hr : qa_rm st) (hu : u.1 + w.1 ≤ v.1 ∧ u.2 + w.2 ≤ v.2) (h : sp [.ref b, a1] M fun r M2 => k (u.1 + w.1, u.2 + w.2) lv (qa_rs r st) M2) : qi_callm 2 v w sp k u lv (a1 :: .ref b :: st) M := ⟨hr, hu, h⟩
theorem ev_callm3 {sp : qa_sp} {b : Nat} {a1 a2 : Value} (hr : qa_rm st) (hu : u.1 + w.1 ≤ v.1 ∧ u.2 + w.2 ≤ v.2) (h : sp [.ref b, a1, a2] M fun r M2 => k (u.1 + w.1, u.2 + w.2) lv (qa_rs r st) M2) : qi_callm 3 v w sp k u lv (a2 :: a1 :: .ref b :: st) M := ⟨hr, hu, h⟩
end EJ
