/-- a record is added behind the last of wire n -/
theorem st_add {G w : gg_G} {M M2 : qa_M} (hs : rSt G M) (hd : rDy G w M) {n c : Nat} (hn : n < 2) (hc : c < 12) (hc1 : qa_i M 65 (G 4 n) = nI c) (row0 : qa_i M2 65 (G 4 n) = nI (c + 1)) (row1 : ∀ a, a ≠ G 4 n → qa_i M2 65 a = qa_i M 65 a) (cnt0 : rA G M2 1203 n = nI (c + 1)) (cnt1 : ∀ e, e ≠ n → rA G M2 1203 e = rA G M 1203 e)
    (hp : ∀ p, qa_k M p = 2 → p ≠ w n c → G 8 p ≠ G 8 (w n c) → G 10 p < 4 → pkS G M M2 p) (m4 : ∀ j, j ≠ 12 * n + c → rA G M2 1204 j = rA G M 1204 j) (m5 : ∀ j, j ≠ 12 * n + c → rA G M2 1205 j = rA G M 1205 j) (m6 : ∀ j q, j < 40 → q ≠ 12 * n + c → rA G M2 1206 (40 * q + j) = rA G M 1206 (40 * q + j)) (hnew : rRc G M2 (w n c) 1204 1205 1206 40 (12 * n + c)) : ∀ e, e < 2 → rWi G w M2 e := by
  intro e he
  obtain ⟨d, hd1, h1, h2, h3⟩ := hd.wir e he
  have t0 := sl_t hd (t := n) (j := c) (by omega) (by rw [rc_lo hn]; omega)
  have old : ∀ k, k < 12 → k < d → (e ≠ n ∨ k ≠ c) → rRc G M2 (w e k) 1204 1205 1206 40 (12 * e + k) := fun k hk hkd hne => by
    have hi : 12 * e + k ≠ 12 * n + c := by omega
    have t := sl_t hd (t := e) (j := k) (by omega) (by rw [rc_lo he]; omega)
    have hw := ap_w hd (t := e) (t2 := n) (j := k) (j2 := c) (by omega) (by omega) (by rw [rc_lo he]; omega) (by rw [rc_lo hn]; omega) hne
    exact fr_Rc (h3 k hkd) (hp _ t.2.1 hw (ap_8 hs t.2.1 t0.2.1 hw) (by rw [t.2.2]; omega)) (m4 _ hi) (m5 _ hi) (fun j hj => m6 _ _ hj hi)
  by_cases hen : e = n
  · subst hen
    have hdc : d = c := by
      rw [h1] at hc1
      exact (nI_eq (by omega) (by omega)).mp hc1
    subst hdc
    refine ⟨d + 1, by omega, row0, cnt0, fun k hk => ?_⟩
    by_cases hkc : k = d
    · subst hkc
      exact hnew
    · exact old k (by omega) (by omega) (Or.inr hkc)
  · have hne : G 4 e ≠ G 4 n := fun q => hen (by rw [← hs.g4 e (by omega), ← hs.g4 n (by omega), q])
    exact ⟨d, hd1, by rw [row1 _ hne]; exact h1, by rw [cnt1 e hen]; exact h2, fun k hk => old k (by omega) hk (Or.inl hen)⟩
/-- what an added record leaves of the items and of the drafts -/
theorem st_addI {G w : gg_G} {M M2 : qa_M} (hs : rSt G M) (hd : rDy G w M) {n p0 : Nat} (hn : n < 2) (k0 : qa_k M p0 = 2) (o0 : G 10 p0 < 2) (row1 : ∀ a, a ≠ G 4 n → qa_i M2 65 a = qa_i M 65 a) (hp : ∀ p, qa_k M p = 2 → p ≠ p0 → G 8 p ≠ G 8 p0 → G 10 p < 4 → pkS G M M2 p) (m1 : ∀ j, rA G M2 1207 j = rA G M 1207 j) (m2 : ∀ j, rA G M2 1208 j = rA G M 1208 j) (m3 : ∀ j, rA G M2 1209 j = rA G M 1209 j) (m4 : ∀ j, rA G M2 1210 j = rA G M 1210 j) : ∀ e, e < 2 → rIt G w M2 e := by
  intro e he
  have hne : G 4 (2 + e) ≠ G 4 n := fun q => by
    have := hs.g4 (2 + e) (by omega)
    rw [q, hs.g4 n (by omega)] at this
    omega
  refine fr_It (hd.itm e he) (row1 _ hne) (m1 _) (fun k hk => ?_) (fun k hk => ⟨m2 _, m3 _, fun j hj => m4 _⟩)
  have t := sl_t hd (t := 2 + e) (j := k) (by omega) (by rw [rc_hi]; exact hk)
  have h1 : w (2 + e) k ≠ p0 := ap_o (G := G) (by rw [t.2.2]; omega)
  exact hp _ t.2.1 h1 (ap_8 hs t.2.1 k0 h1) (by rw [t.2.2]; omega)
