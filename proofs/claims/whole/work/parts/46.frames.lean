def pkS (G : gg_G) (M M2 : qa_M) (p : Nat) : Prop := qa_i M2 33 p = qa_i M 33 p ∧ qa_i M2 34 p = qa_i M 34 p ∧ ∀ j, qa_ia M2 1032 (G 8 p) j = qa_ia M 1032 (G 8 p) j
theorem fr_Rc {G : gg_G} {M M2 : qa_M} {p κt κs κb cap r : Nat} (h : rRc G M p κt κs κb cap r) (a : pkS G M M2 p) (m1 : rA G M2 κt r = rA G M κt r) (m2 : rA G M2 κs r = rA G M κs r) (m3 : ∀ j, j < cap → rA G M2 κb (cap * r + j) = rA G M κb (cap * r + j)) : rRc G M2 p κt κs κb cap r := by
  obtain ⟨h1, h2, z, hz, h3, h4, h5⟩ := h
  refine ⟨by rw [a.1, m1]; exact h1, by rw [m1]; exact h2, z, hz, by rw [a.2.1]; exact h3, by rw [m2]; exact h4, fun j hj => ?_⟩
  rw [a.2.2, m3 j (by omega)]
  exact h5 j hj
theorem fr_Wi {G w : gg_G} {M M2 : qa_M} {e : Nat} (h : rWi G w M e) (row : qa_i M2 65 (G 4 e) = qa_i M 65 (G 4 e)) (cnt : rA G M2 1203 e = rA G M 1203 e) (pk : ∀ k, k < 12 → pkS G M M2 (w e k)) (m : ∀ k, k < 12 → rA G M2 1204 (12 * e + k) = rA G M 1204 (12 * e + k) ∧ rA G M2 1205 (12 * e + k) = rA G M 1205 (12 * e + k) ∧ ∀ j, j < 40 → rA G M2 1206 (40 * (12 * e + k) + j) = rA G M 1206 (40 * (12 * e + k) + j)) : rWi G w M2 e := by
  obtain ⟨n, hn, h1, h2, h3⟩ := h
  refine ⟨n, hn, by rw [row]; exact h1, by rw [cnt]; exact h2, fun k hk => ?_⟩
  obtain ⟨m1, m2, m3⟩ := m k (by omega)
  exact fr_Rc (h3 k hk) (pk k (by omega)) m1 m2 m3
theorem fr_It {G w : gg_G} {M M2 : qa_M} {e : Nat} (h : rIt G w M e) (row : qa_i M2 65 (G 4 (2 + e)) = qa_i M 65 (G 4 (2 + e))) (cnt : rA G M2 1207 e = rA G M 1207 e) (pk : ∀ k, k < 16 → pkS G M M2 (w (2 + e) k)) (m : ∀ k, k < 16 → rA G M2 1208 (16 * e + k) = rA G M 1208 (16 * e + k) ∧ rA G M2 1209 (16 * e + k) = rA G M 1209 (16 * e + k) ∧ ∀ j, j < 16 → rA G M2 1210 (16 * (16 * e + k) + j) = rA G M 1210 (16 * (16 * e + k) + j)) : rIt G w M2 e := by
  obtain ⟨n, hn, h1, h2, h3⟩ := h
  refine ⟨n, hn, by rw [row]; exact h1, by rw [cnt]; exact h2, fun k hk => ?_⟩
  obtain ⟨m1, m2, m3⟩ := m k (by omega)
  exact fr_Rc (h3 k hk) (pk k (by omega)) m1 m2 m3
theorem fr_Dr {G : gg_G} {M M2 : qa_M} {e : Nat} (h : rDr G M e) (pk : pkS G M M2 (G 2 e)) (m1 : rA G M2 1202 e = rA G M 1202 e) (m2 : ∀ j, j < 16 → rA G M2 1201 (16 * e + j) = rA G M 1201 (16 * e + j)) : rDr G M2 e := by
  obtain ⟨n, hn, h1, h2, h3⟩ := h
  refine ⟨n, hn, by rw [pk.2.1]; exact h1, by rw [m1]; exact h2, fun j hj => ?_⟩
  rw [pk.2.2, m2 j (by omega)]
  exact h3 j hj
/-- packets of different owners, or at different places, are apart -/
theorem ap_o {G : gg_G} {p q : Nat} (h : G 10 p ≠ G 10 q) : p ≠ q := fun e => h (by rw [e])
theorem ap_8 {G : gg_G} {M : qa_M} (hs : rSt G M) {p q : Nat} (hp : qa_k M p = 2) (hq : qa_k M q = 2) (h : p ≠ q) : G 8 p ≠ G 8 q := fun e => h (by rw [← hs.g8 p hp, ← hs.g8 q hq, e])
theorem sl_t {G w : gg_G} {M : qa_M} (hd : rDy G w M) {t j : Nat} (ht : t < 4) (hj : j < rr_c t) : qa_pa M 1064 (G 9 t) j = some (w t j) ∧ qa_k M (w t j) = 2 ∧ G 10 (w t j) = t := (hd.slo t ht).1 j hj
theorem rc_lo {t : Nat} (h : t < 2) : rr_c t = 12 := by simp [rr_c, h]
theorem rc_hi (t : Nat) : rr_c (2 + t) = 16 := by simp [rr_c]
theorem ap_w {G w : gg_G} {M : qa_M} (hd : rDy G w M) {t t2 j j2 : Nat} (ht : t < 4) (ht2 : t2 < 4) (hj : j < rr_c t) (hj2 : j2 < rr_c t2) (h : t ≠ t2 ∨ j ≠ j2) : w t j ≠ w t2 j2 := by
  intro q
  by_cases ht3 : t = t2
  · subst ht3
    exact (h.resolve_left (fun z => z rfl)) ((hd.slo t ht).2 j j2 hj hj2 q)
  · exact ap_o (G := G) (by rw [(sl_t hd ht hj).2.2, (sl_t hd ht2 hj2).2.2]; exact ht3) q
/-- one packet p0 written: all others stay -/
theorem pkS_i {G : gg_G} {M M2 : qa_M} {p : Nat} (h1 : qa_i M2 33 p = qa_i M 33 p) (h2 : qa_i M2 34 p = qa_i M 34 p) (h3 : ∀ j, qa_ia M2 1032 (G 8 p) j = qa_ia M 1032 (G 8 p) j) : pkS G M M2 p := ⟨h1, h2, h3⟩
theorem rr_dr {n : Nat} (h : n < 2) : rr_r (4 + n) = 16 := by
  unfold rr_r
  rw [if_neg (by omega), if_pos (by omega)]
theorem rr_op (n : Nat) : rr_r (6 + n) = 17 := by
  unfold rr_r
  rw [if_neg (by omega), if_neg (by omega)]
theorem rr_wi {n : Nat} (h : n < 2) : rr_r n = 40 := by
  unfold rr_r
  rw [if_pos h]
theorem rr_it {n : Nat} (h : n < 2) : rr_r (2 + n) = 16 := by
  unfold rr_r
  rw [if_neg (by omega), if_pos (by omega)]
/-- a write to one packet of row t0: what stays -/
theorem st_Dr {G w : gg_G} {M M2 : qa_M} (hs : rSt G M) (hd : rDy G w M) {p0 : Nat} (k0 : qa_k M p0 = 2) (o0 : G 10 p0 < 4) (hp : ∀ p, qa_k M p = 2 → p ≠ p0 → G 8 p ≠ G 8 p0 → pkS G M M2 p) (m1 : ∀ e, rA G M2 1202 e = rA G M 1202 e) (m2 : ∀ j, rA G M2 1201 j = rA G M 1201 j) : ∀ e, e < 2 → rDr G M2 e := by
  intro e he
  have h1 : G 2 e ≠ p0 := ap_o (G := G) (by rw [hs.g2 e he]; omega)
  exact fr_Dr (hd.drf e he) (hp _ (hs.k2 e he) h1 (ap_8 hs (hs.k2 e he) k0 h1)) (m1 e) (fun j _ => m2 _)
theorem st_It {G w : gg_G} {M M2 : qa_M} (hs : rSt G M) (hd : rDy G w M) {p0 : Nat} (k0 : qa_k M p0 = 2) (o0 : G 10 p0 < 2) (hp : ∀ p, qa_k M p = 2 → p ≠ p0 → G 8 p ≠ G 8 p0 → pkS G M M2 p) (r : ∀ a, qa_i M2 65 a = qa_i M 65 a) (m1 : ∀ j, rA G M2 1207 j = rA G M 1207 j) (m2 : ∀ j, rA G M2 1208 j = rA G M 1208 j) (m3 : ∀ j, rA G M2 1209 j = rA G M 1209 j) (m4 : ∀ j, rA G M2 1210 j = rA G M 1210 j) : ∀ e, e < 2 → rIt G w M2 e := by
  intro e he
  refine fr_It (hd.itm e he) (r _) (m1 _) (fun k hk => ?_) (fun k hk => ⟨m2 _, m3 _, fun j hj => m4 _⟩)
  have t := sl_t hd (t := 2 + e) (j := k) (by omega) (by rw [rc_hi]; exact hk)
  have h1 : w (2 + e) k ≠ p0 := ap_o (G := G) (by rw [t.2.2]; omega)
  exact hp _ t.2.1 h1 (ap_8 hs t.2.1 k0 h1)
/-- one record of a wire changes -/
theorem st_Wi {G w : gg_G} {M M2 : qa_M} (hs : rSt G M) (hd : rDy G w M) {n k0 : Nat} (hn : n < 2) (hk0 : k0 < 12) (hp : ∀ p, qa_k M p = 2 → p ≠ w n k0 → G 8 p ≠ G 8 (w n k0) → pkS G M M2 p) (r : ∀ a, qa_i M2 65 a = qa_i M 65 a) (m1 : ∀ j, rA G M2 1203 j = rA G M 1203 j)
    (m2 : ∀ j, j ≠ 12 * n + k0 → rA G M2 1204 j = rA G M 1204 j) (m3 : ∀ j, j ≠ 12 * n + k0 → rA G M2 1205 j = rA G M 1205 j) (m4 : ∀ j q, j < 40 → q ≠ 12 * n + k0 → rA G M2 1206 (40 * q + j) = rA G M 1206 (40 * q + j)) (hnew : rRc G M (w n k0) 1204 1205 1206 40 (12 * n + k0) → rRc G M2 (w n k0) 1204 1205 1206 40 (12 * n + k0)) : ∀ e, e < 2 → rWi G w M2 e := by
  intro e he
  obtain ⟨c, hc, h1, h2, h3⟩ := hd.wir e he
  refine ⟨c, hc, by rw [r]; exact h1, by rw [m1]; exact h2, fun k hk => ?_⟩
  by_cases hq : e = n ∧ k = k0
  · obtain ⟨rfl, rfl⟩ := hq
    exact hnew (h3 k hk)
  · have hne : 12 * e + k ≠ 12 * n + k0 := by omega
    have t := sl_t hd (t := e) (j := k) (by omega) (by rw [rc_lo he]; omega)
    have t0 := sl_t hd (t := n) (j := k0) (by omega) (by rw [rc_lo hn]; omega)
    have hw := ap_w hd (t := e) (t2 := n) (j := k) (j2 := k0) (by omega) (by omega) (by rw [rc_lo he]; omega) (by rw [rc_lo hn]; omega) (by omega)
    exact fr_Rc (h3 k hk) (hp _ t.2.1 hw (ap_8 hs t.2.1 t0.2.1 hw)) (m2 _ hne) (m3 _ hne) (fun j hj => m4 _ _ hj hne)
theorem bx_xor {a b : Int32} (ha : isB a) (hb : isB b) : isB (a ^^^ b) := by
  obtain ⟨x, hx, rfl⟩ := ha
  obtain ⟨y, hy, rfl⟩ := hb
  exact ⟨x ^^^ y, Nat.xor_lt_two_pow (n := 8) hx hy, nx_xor x y⟩
