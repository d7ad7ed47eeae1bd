def lb (r k : Nat) : Nat := if r = 0 then 2 + 69 * k else if r = 1 then (if k < 2 then 2 + 69 * k + 1 else 2 + 69 * (k - 2) + 2) else if r = 2 then 2 + 69 * k + 3 else if r = 3 then 2 + 69 * k + 67 else if r = 4 then (if k < 2 then 2 + 69 * k + 5 else 2 + 69 * (k - 2) + 31) else if r = 6 then 2 + 69 * k + 65 else if r = 7 then 2 + 69 * k + 66 else if r = 9 then (if k < 2 then 2 + 69 * k + 6 else 2 + 69 * (k - 2) + 32) else if r = 11 then (if k ≤ 1212 then 141 + (k - 1193) else 161) else if k = 0 then 0 else if k = 1 then 140 else 1
def lw (t j : Nat) : Nat := if t < 2 then 2 + 69 * t + 7 + 2 * j else 2 + 69 * (t - 2) + 33 + 2 * j
def ow (l : Nat) : Nat := if (l - 2) % 69 = 3 then 4 + (l - 2) / 69 else if (l - 2) % 69 = 67 then 6 + (l - 2) / 69 else if (l - 2) % 69 ≤ 30 then (l - 2) / 69 else 2 + (l - 2) / 69
def iv1 (o l : Nat) : Nat := if (l - 2) % 69 = o then (l - 2) / 69 else 2 + (l - 2) / 69
theorem la_ex {ad : Nat → Nat} (hi : ∀ l l2, l < 162 → l2 < 162 → ad l = ad l2 → l = l2) : ∃ la : Nat → Nat, ∀ l, l < 162 → la (ad l) = l := by
  refine ⟨fun a => @dite Nat (∃ l, l < 162 ∧ ad l = a) (Classical.propDecidable _) (fun h => Classical.choose h) (fun _ => 0), fun l hl => ?_⟩
  have h : ∃ x, x < 162 ∧ ad x = ad l := ⟨l, hl, rfl⟩
  show @dite Nat (∃ x, x < 162 ∧ ad x = ad l) (Classical.propDecidable _) (fun h => Classical.choose h) (fun _ => 0) = l
  rw [dif_pos h]
  have := Classical.choose_spec h
  exact hi _ _ this.1 hl this.2
def gG (ad la : Nat → Nat) : gg_G := fun r k => if r = 8 then ad (la k + 1) else if r = 10 then ow (la k) else if r = 13 then iv1 5 (la k) else if r = 14 then iv1 6 (la k) else if r = 15 then iv1 1 (la k) else if r = 16 then iv1 65 (la k) else if r = 17 then ad (la k - 1) else if r = 18 then (la k - 2) / 69 else ad (lb r k)
section ZZ
def zM (L : qa_M) : Prop := (∀ κ l j, qa_ia L κ l j = 0) ∧ (∀ κ l j, qa_ja L κ l j = 0) ∧ ∀ f l, qa_j L f l = 0
theorem z_0 : zM qa_M0 := ⟨fun _ _ _ => rfl, fun _ _ _ => rfl, fun _ _ => rfl⟩
theorem z_nw {L : qa_M} (h : zM L) (c a : Nat) : zM (qa_nw L c a) := ⟨fun κ l j => by simp [qa_k_wi, qa_n_wi, qa_i_wi, qa_j_wi, qa_p_wi, qa_ia_wi, qa_ja_wi, qa_pa_wi, qa_k_wj, qa_n_wj, qa_i_wj, qa_j_wj, qa_p_wj, qa_ia_wj, qa_ja_wj, qa_pa_wj, qa_k_wp, qa_n_wp, qa_i_wp, qa_j_wp, qa_p_wp, qa_ia_wp, qa_ja_wp, qa_pa_wp, qa_k_wia, qa_n_wia, qa_i_wia, qa_j_wia, qa_p_wia, qa_ia_wia, qa_ja_wia, qa_pa_wia, qa_k_wja, qa_n_wja, qa_i_wja, qa_j_wja, qa_p_wja, qa_ia_wja, qa_ja_wja, qa_pa_wja, qa_k_wpa, qa_n_wpa, qa_i_wpa, qa_j_wpa, qa_p_wpa, qa_ia_wpa, qa_ja_wpa, qa_pa_wpa, qa_k_nw, qa_n_nw, qa_i_nw, qa_j_nw, qa_p_nw, qa_ia_nw, qa_ja_nw, qa_pa_nw, qa_k_na, qa_n_na, qa_i_na, qa_j_na, qa_p_na, qa_ia_na, qa_ja_na, qa_pa_na, h.1], fun κ l j => by simp [qa_k_wi, qa_n_wi, qa_i_wi, qa_j_wi, qa_p_wi, qa_ia_wi, qa_ja_wi, qa_pa_wi, qa_k_wj, qa_n_wj, qa_i_wj, qa_j_wj, qa_p_wj, qa_ia_wj, qa_ja_wj, qa_pa_wj, qa_k_wp, qa_n_wp, qa_i_wp, qa_j_wp, qa_p_wp, qa_ia_wp, qa_ja_wp, qa_pa_wp, qa_k_wia, qa_n_wia, qa_i_wia, qa_j_wia, qa_p_wia, qa_ia_wia, qa_ja_wia, qa_pa_wia, qa_k_wja, qa_n_wja, qa_i_wja, qa_j_wja, qa_p_wja, qa_ia_wja, qa_ja_wja, qa_pa_wja, qa_k_wpa, qa_n_wpa, qa_i_wpa, qa_j_wpa, qa_p_wpa, qa_ia_wpa, qa_ja_wpa, qa_pa_wpa, qa_k_nw, qa_n_nw, qa_i_nw, qa_j_nw, qa_p_nw, qa_ia_nw, qa_ja_nw, qa_pa_nw, qa_k_na, qa_n_na, qa_i_na, qa_j_na, qa_p_na, qa_ia_na, qa_ja_na, qa_pa_na, h.2.1], fun f l => by simp [qa_k_wi, qa_n_wi, qa_i_wi, qa_j_wi, qa_p_wi, qa_ia_wi, qa_ja_wi, qa_pa_wi, qa_k_wj, qa_n_wj, qa_i_wj, qa_j_wj, qa_p_wj, qa_ia_wj, qa_ja_wj, qa_pa_wj, qa_k_wp, qa_n_wp, qa_i_wp, qa_j_wp, qa_p_wp, qa_ia_wp, qa_ja_wp, qa_pa_wp, qa_k_wia, qa_n_wia, qa_i_wia, qa_j_wia, qa_p_wia, qa_ia_wia, qa_ja_wia, qa_pa_wia, qa_k_wja, qa_n_wja, qa_i_wja, qa_j_wja, qa_p_wja, qa_ia_wja, qa_ja_wja, qa_pa_wja, qa_k_wpa, qa_n_wpa, qa_i_wpa, qa_j_wpa, qa_p_wpa, qa_ia_wpa, qa_ja_wpa, qa_pa_wpa, qa_k_nw, qa_n_nw, qa_i_nw, qa_j_nw, qa_p_nw, qa_ia_nw, qa_ja_nw, qa_pa_nw, qa_k_na, qa_n_na, qa_i_na, qa_j_na, qa_p_na, qa_ia_na, qa_ja_na, qa_pa_na, h.2.2]⟩
theorem z_na {L : qa_M} (h : zM L) (κ a n : Nat) : zM (qa_na L κ a n) := ⟨fun κ l j => by simp [qa_k_wi, qa_n_wi, qa_i_wi, qa_j_wi, qa_p_wi, qa_ia_wi, qa_ja_wi, qa_pa_wi, qa_k_wj, qa_n_wj, qa_i_wj, qa_j_wj, qa_p_wj, qa_ia_wj, qa_ja_wj, qa_pa_wj, qa_k_wp, qa_n_wp, qa_i_wp, qa_j_wp, qa_p_wp, qa_ia_wp, qa_ja_wp, qa_pa_wp, qa_k_wia, qa_n_wia, qa_i_wia, qa_j_wia, qa_p_wia, qa_ia_wia, qa_ja_wia, qa_pa_wia, qa_k_wja, qa_n_wja, qa_i_wja, qa_j_wja, qa_p_wja, qa_ia_wja, qa_ja_wja, qa_pa_wja, qa_k_wpa, qa_n_wpa, qa_i_wpa, qa_j_wpa, qa_p_wpa, qa_ia_wpa, qa_ja_wpa, qa_pa_wpa, qa_k_nw, qa_n_nw, qa_i_nw, qa_j_nw, qa_p_nw, qa_ia_nw, qa_ja_nw, qa_pa_nw, qa_k_na, qa_n_na, qa_i_na, qa_j_na, qa_p_na, qa_ia_na, qa_ja_na, qa_pa_na, h.1], fun κ l j => by simp [qa_k_wi, qa_n_wi, qa_i_wi, qa_j_wi, qa_p_wi, qa_ia_wi, qa_ja_wi, qa_pa_wi, qa_k_wj, qa_n_wj, qa_i_wj, qa_j_wj, qa_p_wj, qa_ia_wj, qa_ja_wj, qa_pa_wj, qa_k_wp, qa_n_wp, qa_i_wp, qa_j_wp, qa_p_wp, qa_ia_wp, qa_ja_wp, qa_pa_wp, qa_k_wia, qa_n_wia, qa_i_wia, qa_j_wia, qa_p_wia, qa_ia_wia, qa_ja_wia, qa_pa_wia, qa_k_wja, qa_n_wja, qa_i_wja, qa_j_wja, qa_p_wja, qa_ia_wja, qa_ja_wja, qa_pa_wja, qa_k_wpa, qa_n_wpa, qa_i_wpa, qa_j_wpa, qa_p_wpa, qa_ia_wpa, qa_ja_wpa, qa_pa_wpa, qa_k_nw, qa_n_nw, qa_i_nw, qa_j_nw, qa_p_nw, qa_ia_nw, qa_ja_nw, qa_pa_nw, qa_k_na, qa_n_na, qa_i_na, qa_j_na, qa_p_na, qa_ia_na, qa_ja_na, qa_pa_na, h.2.1], fun f l => by simp [qa_k_wi, qa_n_wi, qa_i_wi, qa_j_wi, qa_p_wi, qa_ia_wi, qa_ja_wi, qa_pa_wi, qa_k_wj, qa_n_wj, qa_i_wj, qa_j_wj, qa_p_wj, qa_ia_wj, qa_ja_wj, qa_pa_wj, qa_k_wp, qa_n_wp, qa_i_wp, qa_j_wp, qa_p_wp, qa_ia_wp, qa_ja_wp, qa_pa_wp, qa_k_wia, qa_n_wia, qa_i_wia, qa_j_wia, qa_p_wia, qa_ia_wia, qa_ja_wia, qa_pa_wia, qa_k_wja, qa_n_wja, qa_i_wja, qa_j_wja, qa_p_wja, qa_ia_wja, qa_ja_wja, qa_pa_wja, qa_k_wpa, qa_n_wpa, qa_i_wpa, qa_j_wpa, qa_p_wpa, qa_ia_wpa, qa_ja_wpa, qa_pa_wpa, qa_k_nw, qa_n_nw, qa_i_nw, qa_j_nw, qa_p_nw, qa_ia_nw, qa_ja_nw, qa_pa_nw, qa_k_na, qa_n_na, qa_i_na, qa_j_na, qa_p_na, qa_ia_na, qa_ja_na, qa_pa_na, h.2.2]⟩
theorem z_wp {L : qa_M} (h : zM L) (f a : Nat) (v : Option Nat) : zM (qa_wp L f a v) := ⟨h.1, h.2.1, h.2.2⟩
theorem z_wpa {L : qa_M} (h : zM L) (κ a j : Nat) (v : Option Nat) : zM (qa_wpa L κ a j v) := ⟨h.1, h.2.1, h.2.2⟩
theorem z_wi {L : qa_M} (h : zM L) (f a : Nat) (v : Int32) : zM (qa_wi L f a v) := ⟨h.1, h.2.1, h.2.2⟩
theorem z_Pk {L : qa_M} (h : zM L) (N lp room : Nat) : zM (lPk L N lp room) := z_wp (z_na h _ _ _) _ _ _
theorem z_Rw {L : qa_M} (h : zM L) (N lr most room : Nat) : ∀ i, zM (lRw L N lr most room i) := by
  intro i
  induction i with
  | zero => exact z_wp (z_na h _ _ _) _ _ _
  | succ i ih => exact z_wpa (z_Pk (z_nw ih _ _) _ _ _) _ _ _ _
theorem z_En {L : qa_M} (h : zM L) (N le : Nat) (v : Int32) : zM (lEn L N le v) := by
  have h1 : zM (lE1 L N le) := z_wp (z_nw h _ _) _ _ _
  have h2 : zM (lE2 L N le) := z_wp (z_nw h1 _ _) _ _ _
  have h3 : zM (lE3 L N le) := z_wp (z_Pk (z_nw h2 _ _) _ _ _) _ _ _
  have h4 : zM (lE4 L N le) := z_wp (z_Rw (z_nw h3 _ _) _ _ _ _ _) _ _ _
  have h5 : zM (lE5 L N le) := z_wp (z_Rw (z_nw h4 _ _) _ _ _ _ _) _ _ _
  have h6 : zM (lE6 L N le) := z_wp (z_nw h5 _ _) _ _ _
  have h7 : zM (lE7 L N le) := z_wp (z_nw h6 _ _) _ _ _
  have h8 : zM (lE8 L N le) := z_wp (z_Pk (z_nw h7 _ _) _ _ _) _ _ _
  exact z_wi (z_wi h8 _ _ _) _ _ _
theorem z_S : zM lS6 := by
  have h1 : zM lS1 := z_na (z_nw z_0 _ _) _ _ _
  have h3 : zM lS3 := z_wpa (z_En (z_nw h1 _ _) _ _ _) _ _ _ _
  exact z_wp (z_wpa (z_En (z_nw h3 _ _) _ _ _) _ _ _ _) _ _ _
theorem z_M : zM lM21 := by
  have h0 : zM lM0 := z_nw z_S _ _
  have h1 : zM lM1 := z_wp (z_na h0 _ _ _) _ _ _
  have h2 : zM lM2 := z_wp (z_na h1 _ _ _) _ _ _
  have h3 : zM lM3 := z_wp (z_na h2 _ _ _) _ _ _
  have h4 : zM lM4 := z_wp (z_na h3 _ _ _) _ _ _
  have h5 : zM lM5 := z_wp (z_na h4 _ _ _) _ _ _
  have h6 : zM lM6 := z_wp (z_na h5 _ _ _) _ _ _
  have h7 : zM lM7 := z_wp (z_na h6 _ _ _) _ _ _
  have h8 : zM lM8 := z_wp (z_na h7 _ _ _) _ _ _
  have h9 : zM lM9 := z_wp (z_na h8 _ _ _) _ _ _
  have h10 : zM lM10 := z_wp (z_na h9 _ _ _) _ _ _
  have h11 : zM lM11 := z_wp (z_na h10 _ _ _) _ _ _
  have h12 : zM lM12 := z_wp (z_na h11 _ _ _) _ _ _
  have h13 : zM lM13 := z_wp (z_na h12 _ _ _) _ _ _
  have h14 : zM lM14 := z_wp (z_na h13 _ _ _) _ _ _
  have h15 : zM lM15 := z_wp (z_na h14 _ _ _) _ _ _
  have h16 : zM lM16 := z_wp (z_na h15 _ _ _) _ _ _
  have h17 : zM lM17 := z_wp (z_na h16 _ _ _) _ _ _
  have h18 : zM lM18 := z_wp (z_na h17 _ _ _) _ _ _
  have h19 : zM lM19 := z_wp (z_na h18 _ _ _) _ _ _
  have h20 : zM lM20 := z_wp (z_na h19 _ _ _) _ _ _
  have h21 : zM lM21 := z_wp (z_na h20 _ _ _) _ _ _
  exact h21
end ZZ
section JJ
variable {M : qa_M} {ad : Nat → Nat} {vl : Int32}
theorem jk (hJ : Jm M 162 ad lM21 vl) {l c : Nat} (hl : l < 162) (h : qa_k lM21 l = c) : qa_k M (ad l) = c := (hJ.1 l hl).1.trans h
theorem jp (hJ : Jm M 162 ad lM21 vl) {f l r : Nat} (h : l < 162 ∧ qa_k lM21 l < 1000 ∧ qa_p lM21 f l = some r) : qa_p M f (ad l) = some (ad r) := by
  rw [(hJ.2.2.2.2.1 l h.1 h.2.1 f).2.2.1, h.2.2]
  rfl
theorem jn (hJ : Jm M 162 ad lM21 vl) {l n : Nat} (h : l < 162 ∧ 1000 ≤ qa_k lM21 l ∧ qa_n lM21 l = n) : qa_n M (ad l) = n := (hJ.2.2.2.1 l h.1 h.2.1).1.trans h.2.2
theorem jpa (hJ : Jm M 162 ad lM21 vl) {κ l j r : Nat} (hl : l < 162) (hk : qa_k lM21 l = κ) (hκ : 1000 ≤ κ) (h : qa_pa lM21 κ l j = some r) : qa_pa M κ (ad l) j = some (ad r) := by
  subst hk
  rw [((hJ.2.2.2.1 l hl hκ).2 j).2.2.1, h]
  rfl
theorem ji (hJ : Jm M 162 ad lM21 vl) {f l : Nat} {v : Int32} (h : l < 162 ∧ qa_k lM21 l < 1000 ∧ qa_i lM21 f l = v) (h0 : f ≠ 0) (h1 : f ≠ 192) : qa_i M f (ad l) = v := ((hJ.2.2.2.2.1 l h.1 h.2.1 f).1 h0 h1).trans h.2.2
theorem jj (hJ : Jm M 162 ad lM21 vl) {f l : Nat} (h : l < 162 ∧ qa_k lM21 l < 1000) : qa_j M f (ad l) = 0 := ((hJ.2.2.2.2.1 l h.1 h.2 f).2.1).trans (z_M.2.2 f l)
theorem jia (hJ : Jm M 162 ad lM21 vl) {κ l : Nat} (hl : l < 162) (hk : qa_k lM21 l = κ) (hκ : 1000 ≤ κ) (j : Nat) : qa_ia M κ (ad l) j = 0 := by
  subst hk
  exact ((hJ.2.2.2.1 l hl hκ).2 j).1.trans (z_M.1 _ _ _)
theorem jja (hJ : Jm M 162 ad lM21 vl) {κ l : Nat} (hl : l < 162) (hk : qa_k lM21 l = κ) (hκ : 1000 ≤ κ) (j : Nat) : qa_ja M κ (ad l) j = 0 := by
  subst hk
  exact ((hJ.2.2.2.1 l hl hκ).2 j).2.1.trans (z_M.2.1 _ _ _)
end JJ
theorem ck_k2 : ∀ l, l < 162 → qa_k lM21 l = 2 → qa_p lM21 32 l = some (l + 1) ∧ qa_k lM21 (l + 1) = 1032 ∧ qa_n lM21 (l + 1) = rr_r (ow l) ∧ l + 1 < 162 := by decide +kernel
theorem ck_e : ∀ e, e < 2 → lb 0 e < 162 ∧ qa_k lM21 (lb 0 e) = 6 ∧ qa_i lM21 160 (lb 0 e) = nI e ∧ (lb 0 e - 2) / 69 = e ∧ qa_p lM21 161 (lb 0 e) = some (lb 1 e) ∧ qa_p lM21 162 (lb 0 e) = some (lb 1 (2 + e)) ∧ qa_p lM21 163 (lb 0 e) = some (lb 2 e) ∧ qa_p lM21 164 (lb 0 e) = some (lb 4 e) ∧ qa_p lM21 165 (lb 0 e) = some (lb 4 (2 + e)) ∧ qa_p lM21 166 (lb 0 e) = some (lb 6 e) ∧ qa_p lM21 167 (lb 0 e) = some (lb 7 e) ∧ qa_p lM21 168 (lb 0 e) = some (lb 3 e) := by decide +kernel
theorem ck_s : ∀ s, s < 4 → lb 1 s < 162 ∧ qa_k lM21 (lb 1 s) = 4 ∧ iv1 1 (lb 1 s) = s ∧ qa_i lM21 96 (lb 1 s) = 0 ∧ qa_i lM21 98 (lb 1 s) = 0 ∧ qa_i lM21 99 (lb 1 s) = 0 := by decide +kernel
theorem ck_t : ∀ t, t < 4 → lb 4 t < 162 ∧ qa_k lM21 (lb 4 t) = 3 ∧ iv1 5 (lb 4 t) = t ∧ qa_p lM21 64 (lb 4 t) = some (lb 9 t) ∧ lb 9 t < 162 ∧ qa_k lM21 (lb 9 t) = 1064 ∧ iv1 6 (lb 9 t) = t ∧ qa_n lM21 (lb 9 t) = rr_c t ∧ qa_i lM21 65 (lb 4 t) = nI 0 := by decide +kernel
theorem ck_m : ∀ e, e < 2 → lb 6 e < 162 ∧ qa_k lM21 (lb 6 e) = 5 ∧ lb 7 e < 162 ∧ qa_k lM21 (lb 7 e) = 5 ∧ iv1 65 (lb 6 e) = e ∧ iv1 65 (lb 7 e) = 2 + e ∧ qa_i lM21 130 (lb 6 e) = nI 0 := by decide +kernel
theorem ck_d : ∀ e, e < 2 → lb 2 e < 162 ∧ qa_k lM21 (lb 2 e) = 2 ∧ ow (lb 2 e) = 4 + e ∧ lb 3 e < 162 ∧ qa_k lM21 (lb 3 e) = 2 ∧ ow (lb 3 e) = 6 + e ∧ qa_i lM21 34 (lb 2 e) = nI 0 := by decide +kernel
theorem ck_w : ∀ t, t < 4 → ∀ j, j < rr_c t → qa_pa lM21 1064 (lb 9 t) j = some (lw t j) ∧ qa_k lM21 (lw t j) = 2 ∧ ow (lw t j) = t ∧ lw t j < 162 := by decide +kernel
theorem ck_i : ∀ e, e < 2 → qa_i lM21 170 (lb 0 e) = 0 ∧ qa_i lM21 171 (lb 0 e) = -1 ∧ qa_i lM21 172 (lb 0 e) = 0 := by decide +kernel
theorem ck_p : ∀ e, e < 2 → qa_pa lM21 1001 1 e = some (lb 0 e) := by decide +kernel
theorem ck_0 : qa_k lM21 0 = 1 ∧ qa_p lM21 1 0 = some 1 ∧ qa_k lM21 1 = 1001 ∧ qa_n lM21 1 = 2 ∧ qa_k lM21 140 = 7 := by decide +kernel
theorem ck_193 : qa_p lM21 193 140 = some 141 ∧ qa_k lM21 141 = 1193 ∧ qa_n lM21 141 = 2 := by decide +kernel
theorem ck_194 : qa_p lM21 194 140 = some 142 ∧ qa_k lM21 142 = 1194 ∧ qa_n lM21 142 = 2 := by decide +kernel
theorem ck_195 : qa_p lM21 195 140 = some 143 ∧ qa_k lM21 143 = 1195 ∧ qa_n lM21 143 = 4 := by decide +kernel
theorem ck_196 : qa_p lM21 196 140 = some 144 ∧ qa_k lM21 144 = 1196 ∧ qa_n lM21 144 = 4 := by decide +kernel
theorem ck_197 : qa_p lM21 197 140 = some 145 ∧ qa_k lM21 145 = 1197 ∧ qa_n lM21 145 = 4 := by decide +kernel
theorem ck_198 : qa_p lM21 198 140 = some 146 ∧ qa_k lM21 146 = 1198 ∧ qa_n lM21 146 = 4 := by decide +kernel
theorem ck_199 : qa_p lM21 199 140 = some 147 ∧ qa_k lM21 147 = 1199 ∧ qa_n lM21 147 = 2 := by decide +kernel
theorem ck_200 : qa_p lM21 200 140 = some 148 ∧ qa_k lM21 148 = 1200 ∧ qa_n lM21 148 = 2 := by decide +kernel
theorem ck_201 : qa_p lM21 201 140 = some 149 ∧ qa_k lM21 149 = 1201 ∧ qa_n lM21 149 = 32 := by decide +kernel
theorem ck_202 : qa_p lM21 202 140 = some 150 ∧ qa_k lM21 150 = 1202 ∧ qa_n lM21 150 = 2 := by decide +kernel
theorem ck_203 : qa_p lM21 203 140 = some 151 ∧ qa_k lM21 151 = 1203 ∧ qa_n lM21 151 = 2 := by decide +kernel
theorem ck_204 : qa_p lM21 204 140 = some 152 ∧ qa_k lM21 152 = 1204 ∧ qa_n lM21 152 = 24 := by decide +kernel
theorem ck_205 : qa_p lM21 205 140 = some 153 ∧ qa_k lM21 153 = 1205 ∧ qa_n lM21 153 = 24 := by decide +kernel
theorem ck_206 : qa_p lM21 206 140 = some 154 ∧ qa_k lM21 154 = 1206 ∧ qa_n lM21 154 = 960 := by decide +kernel
theorem ck_207 : qa_p lM21 207 140 = some 155 ∧ qa_k lM21 155 = 1207 ∧ qa_n lM21 155 = 2 := by decide +kernel
theorem ck_208 : qa_p lM21 208 140 = some 156 ∧ qa_k lM21 156 = 1208 ∧ qa_n lM21 156 = 32 := by decide +kernel
theorem ck_209 : qa_p lM21 209 140 = some 157 ∧ qa_k lM21 157 = 1209 ∧ qa_n lM21 157 = 32 := by decide +kernel
theorem ck_210 : qa_p lM21 210 140 = some 158 ∧ qa_k lM21 158 = 1210 ∧ qa_n lM21 158 = 512 := by decide +kernel
theorem ck_211 : qa_p lM21 211 140 = some 159 ∧ qa_k lM21 159 = 1211 ∧ qa_n lM21 159 = 2 := by decide +kernel
theorem ck_212 : qa_p lM21 212 140 = some 160 ∧ qa_k lM21 160 = 1212 ∧ qa_n lM21 160 = 600 := by decide +kernel
theorem ck_215 : qa_p lM21 215 140 = some 161 ∧ qa_k lM21 161 = 1215 ∧ qa_n lM21 161 = 40 := by decide +kernel
theorem st_start {M : qa_M} {ad : Nat → Nat} {vl : Int32} {la : Nat → Nat} (hla : ∀ l, l < 162 → la (ad l) = l) (hJ : Jm M 162 ad lM21 vl) : rSt (gG ad la) M := by
  have hi := hJ.2.1
  have hP : ∀ p, qa_k M p = 2 → ∃ l, l < 162 ∧ ad l = p ∧ qa_k lM21 l = 2 ∧ qa_p lM21 32 l = some (l + 1) ∧ qa_k lM21 (l + 1) = 1032 ∧ qa_n lM21 (l + 1) = rr_r (ow l) ∧ l + 1 < 162 := fun p hp => by
    obtain ⟨l, hl, rfl⟩ := hJ.2.2.1 p (by rw [hp]; decide)
    have hk := (hJ.1 l hl).1.symm.trans hp
    exact ⟨l, hl, rfl, hk, ck_k2 l hl hk⟩
  refine And.intro (jk hJ (l := 0) (by decide) ck_0.1) ?_
  refine And.intro (jp hJ (l := 0) (r := 1) ⟨by decide, by rw [ck_0.1]; decide, ck_0.2.1⟩) ?_
  refine And.intro (jk hJ (l := 1) (by decide) ck_0.2.2.1) ?_
  refine And.intro (jn hJ (l := 1) ⟨by decide, by rw [ck_0.2.2.1]; decide, ck_0.2.2.2.1⟩) ?_
  refine And.intro (fun e he => jpa hJ (l := 1) (by decide) ck_0.2.2.1 (by decide) (ck_p e he)) ?_
  refine And.intro (fun e he => jk hJ (ck_e e he).1 (ck_e e he).2.1) ?_
  refine And.intro (fun e he => ji hJ ⟨(ck_e e he).1, by rw [(ck_e e he).2.1]; omega, (ck_e e he).2.2.1⟩ (by omega) (by omega)) ?_
  refine And.intro (fun e he => Eq.trans (congrArg (fun q => (q - 2) / 69) (hla _ (ck_e e he).1)) (ck_e e he).2.2.2.1) ?_
  refine And.intro (fun e he => jp hJ ⟨(ck_e e he).1, by rw [(ck_e e he).2.1]; omega, (ck_e e he).2.2.2.2.1⟩) ?_
  refine And.intro (fun e he => jp hJ ⟨(ck_e e he).1, by rw [(ck_e e he).2.1]; omega, (ck_e e he).2.2.2.2.2.1⟩) ?_
  refine And.intro (fun e he => jp hJ ⟨(ck_e e he).1, by rw [(ck_e e he).2.1]; omega, (ck_e e he).2.2.2.2.2.2.1⟩) ?_
  refine And.intro (fun e he => jp hJ ⟨(ck_e e he).1, by rw [(ck_e e he).2.1]; omega, (ck_e e he).2.2.2.2.2.2.2.1⟩) ?_
  refine And.intro (fun e he => jp hJ ⟨(ck_e e he).1, by rw [(ck_e e he).2.1]; omega, (ck_e e he).2.2.2.2.2.2.2.2.1⟩) ?_
  refine And.intro (fun e he => jp hJ ⟨(ck_e e he).1, by rw [(ck_e e he).2.1]; omega, (ck_e e he).2.2.2.2.2.2.2.2.2.1⟩) ?_
  refine And.intro (fun e he => jp hJ ⟨(ck_e e he).1, by rw [(ck_e e he).2.1]; omega, (ck_e e he).2.2.2.2.2.2.2.2.2.2.1⟩) ?_
  refine And.intro (fun e he => jp hJ ⟨(ck_e e he).1, by rw [(ck_e e he).2.1]; omega, (ck_e e he).2.2.2.2.2.2.2.2.2.2.2⟩) ?_
  refine And.intro (fun s hs4 => jk hJ (ck_s s hs4).1 (ck_s s hs4).2.1) ?_
  refine And.intro (fun s hs4 => Eq.trans (congrArg (iv1 1) (hla _ (ck_s s hs4).1)) (ck_s s hs4).2.2.1) ?_
  refine And.intro (fun t ht => jk hJ (ck_t t ht).1 (ck_t t ht).2.1) ?_
  refine And.intro (fun t ht => Eq.trans (congrArg (iv1 5) (hla _ (ck_t t ht).1)) (ck_t t ht).2.2.1) ?_
  refine And.intro (fun t ht => jp hJ ⟨(ck_t t ht).1, by rw [(ck_t t ht).2.1]; omega, (ck_t t ht).2.2.2.1⟩) ?_
  refine And.intro (fun t ht => jk hJ (ck_t t ht).2.2.2.2.1 (ck_t t ht).2.2.2.2.2.1) ?_
  refine And.intro (fun t ht => Eq.trans (congrArg (iv1 6) (hla _ (ck_t t ht).2.2.2.2.1)) (ck_t t ht).2.2.2.2.2.2.1) ?_
  refine And.intro (fun t ht => jn hJ ⟨(ck_t t ht).2.2.2.2.1, by rw [(ck_t t ht).2.2.2.2.2.1]; omega, (ck_t t ht).2.2.2.2.2.2.2.1⟩) ?_
  refine And.intro (fun e he => jk hJ (ck_m e he).1 (ck_m e he).2.1) ?_
  refine And.intro (fun e he => jk hJ (ck_m e he).2.2.1 (ck_m e he).2.2.2.1) ?_
  refine And.intro (fun e he => Eq.trans (congrArg (iv1 65) (hla _ (ck_m e he).1)) (ck_m e he).2.2.2.2.1) ?_
  refine And.intro (fun e he => Eq.trans (congrArg (iv1 65) (hla _ (ck_m e he).2.2.1)) (ck_m e he).2.2.2.2.2.1) ?_
  refine And.intro (fun p hp => by
    obtain ⟨l, hl, rfl, hk, h1, h2, h3, h4⟩ := hP p hp
    exact (jp hJ ⟨hl, by rw [hk]; omega, h1⟩).trans (congrArg (fun q => some (ad (q + 1))) (hla _ hl).symm)) ?_
  refine And.intro (fun p hp => by
    obtain ⟨l, hl, rfl, hk, h1, h2, h3, h4⟩ := hP p hp
    exact Eq.trans (congrArg (fun q => qa_k M (ad (q + 1))) (hla _ hl)) (jk hJ h4 h2)) ?_
  refine And.intro (fun p hp => by
    obtain ⟨l, hl, rfl, hk, h1, h2, h3, h4⟩ := hP p hp
    show ad (la (ad (la (ad l) + 1)) - 1) = ad l
    rw [hla _ hl, hla _ h4]
    rfl) ?_
  refine And.intro (fun p hp => by
    obtain ⟨l, hl, rfl, hk, h1, h2, h3, h4⟩ := hP p hp
    show qa_n M (ad (la (ad l) + 1)) = rr_r (ow (la (ad l)))
    rw [hla _ hl]
    exact jn hJ ⟨h4, by rw [h2]; omega, h3⟩) ?_
  refine And.intro (fun e he => jk hJ (ck_d e he).1 (ck_d e he).2.1) ?_
  refine And.intro (fun e he => Eq.trans (congrArg ow (hla _ (ck_d e he).1)) (ck_d e he).2.2.1) ?_
  refine And.intro (fun e he => jk hJ (ck_d e he).2.2.2.1 (ck_d e he).2.2.2.2.1) ?_
  refine And.intro (fun e he => Eq.trans (congrArg ow (hla _ (ck_d e he).2.2.2.1)) (ck_d e he).2.2.2.2.2.1) ?_
  refine And.intro (jk hJ (l := 140) (by decide) ck_0.2.2.2.2) ?_
  refine And.intro (jp hJ (l := 140) (r := 141) ⟨by decide, by rw [ck_0.2.2.2.2]; decide, ck_193.1⟩) ?_
  refine And.intro (jk hJ (l := 141) (by decide) ck_193.2.1) ?_
  refine And.intro (jn hJ (l := 141) ⟨by decide, by rw [ck_193.2.1]; decide, ck_193.2.2⟩) ?_
  refine And.intro (jp hJ (l := 140) (r := 142) ⟨by decide, by rw [ck_0.2.2.2.2]; decide, ck_194.1⟩) ?_
  refine And.intro (jk hJ (l := 142) (by decide) ck_194.2.1) ?_
  refine And.intro (jn hJ (l := 142) ⟨by decide, by rw [ck_194.2.1]; decide, ck_194.2.2⟩) ?_
  refine And.intro (jp hJ (l := 140) (r := 143) ⟨by decide, by rw [ck_0.2.2.2.2]; decide, ck_195.1⟩) ?_
  refine And.intro (jk hJ (l := 143) (by decide) ck_195.2.1) ?_
  refine And.intro (jn hJ (l := 143) ⟨by decide, by rw [ck_195.2.1]; decide, ck_195.2.2⟩) ?_
  refine And.intro (jp hJ (l := 140) (r := 144) ⟨by decide, by rw [ck_0.2.2.2.2]; decide, ck_196.1⟩) ?_
  refine And.intro (jk hJ (l := 144) (by decide) ck_196.2.1) ?_
  refine And.intro (jn hJ (l := 144) ⟨by decide, by rw [ck_196.2.1]; decide, ck_196.2.2⟩) ?_
  refine And.intro (jp hJ (l := 140) (r := 145) ⟨by decide, by rw [ck_0.2.2.2.2]; decide, ck_197.1⟩) ?_
  refine And.intro (jk hJ (l := 145) (by decide) ck_197.2.1) ?_
  refine And.intro (jn hJ (l := 145) ⟨by decide, by rw [ck_197.2.1]; decide, ck_197.2.2⟩) ?_
  refine And.intro (jp hJ (l := 140) (r := 146) ⟨by decide, by rw [ck_0.2.2.2.2]; decide, ck_198.1⟩) ?_
  refine And.intro (jk hJ (l := 146) (by decide) ck_198.2.1) ?_
  refine And.intro (jn hJ (l := 146) ⟨by decide, by rw [ck_198.2.1]; decide, ck_198.2.2⟩) ?_
  refine And.intro (jp hJ (l := 140) (r := 147) ⟨by decide, by rw [ck_0.2.2.2.2]; decide, ck_199.1⟩) ?_
  refine And.intro (jk hJ (l := 147) (by decide) ck_199.2.1) ?_
  refine And.intro (jn hJ (l := 147) ⟨by decide, by rw [ck_199.2.1]; decide, ck_199.2.2⟩) ?_
  refine And.intro (jp hJ (l := 140) (r := 148) ⟨by decide, by rw [ck_0.2.2.2.2]; decide, ck_200.1⟩) ?_
  refine And.intro (jk hJ (l := 148) (by decide) ck_200.2.1) ?_
  refine And.intro (jn hJ (l := 148) ⟨by decide, by rw [ck_200.2.1]; decide, ck_200.2.2⟩) ?_
  refine And.intro (jp hJ (l := 140) (r := 149) ⟨by decide, by rw [ck_0.2.2.2.2]; decide, ck_201.1⟩) ?_
  refine And.intro (jk hJ (l := 149) (by decide) ck_201.2.1) ?_
  refine And.intro (jn hJ (l := 149) ⟨by decide, by rw [ck_201.2.1]; decide, ck_201.2.2⟩) ?_
  refine And.intro (jp hJ (l := 140) (r := 150) ⟨by decide, by rw [ck_0.2.2.2.2]; decide, ck_202.1⟩) ?_
  refine And.intro (jk hJ (l := 150) (by decide) ck_202.2.1) ?_
  refine And.intro (jn hJ (l := 150) ⟨by decide, by rw [ck_202.2.1]; decide, ck_202.2.2⟩) ?_
  refine And.intro (jp hJ (l := 140) (r := 151) ⟨by decide, by rw [ck_0.2.2.2.2]; decide, ck_203.1⟩) ?_
  refine And.intro (jk hJ (l := 151) (by decide) ck_203.2.1) ?_
  refine And.intro (jn hJ (l := 151) ⟨by decide, by rw [ck_203.2.1]; decide, ck_203.2.2⟩) ?_
  refine And.intro (jp hJ (l := 140) (r := 152) ⟨by decide, by rw [ck_0.2.2.2.2]; decide, ck_204.1⟩) ?_
  refine And.intro (jk hJ (l := 152) (by decide) ck_204.2.1) ?_
  refine And.intro (jn hJ (l := 152) ⟨by decide, by rw [ck_204.2.1]; decide, ck_204.2.2⟩) ?_
  refine And.intro (jp hJ (l := 140) (r := 153) ⟨by decide, by rw [ck_0.2.2.2.2]; decide, ck_205.1⟩) ?_
  refine And.intro (jk hJ (l := 153) (by decide) ck_205.2.1) ?_
  refine And.intro (jn hJ (l := 153) ⟨by decide, by rw [ck_205.2.1]; decide, ck_205.2.2⟩) ?_
  refine And.intro (jp hJ (l := 140) (r := 154) ⟨by decide, by rw [ck_0.2.2.2.2]; decide, ck_206.1⟩) ?_
  refine And.intro (jk hJ (l := 154) (by decide) ck_206.2.1) ?_
  refine And.intro (jn hJ (l := 154) ⟨by decide, by rw [ck_206.2.1]; decide, ck_206.2.2⟩) ?_
  refine And.intro (jp hJ (l := 140) (r := 155) ⟨by decide, by rw [ck_0.2.2.2.2]; decide, ck_207.1⟩) ?_
  refine And.intro (jk hJ (l := 155) (by decide) ck_207.2.1) ?_
  refine And.intro (jn hJ (l := 155) ⟨by decide, by rw [ck_207.2.1]; decide, ck_207.2.2⟩) ?_
  refine And.intro (jp hJ (l := 140) (r := 156) ⟨by decide, by rw [ck_0.2.2.2.2]; decide, ck_208.1⟩) ?_
  refine And.intro (jk hJ (l := 156) (by decide) ck_208.2.1) ?_
  refine And.intro (jn hJ (l := 156) ⟨by decide, by rw [ck_208.2.1]; decide, ck_208.2.2⟩) ?_
  refine And.intro (jp hJ (l := 140) (r := 157) ⟨by decide, by rw [ck_0.2.2.2.2]; decide, ck_209.1⟩) ?_
  refine And.intro (jk hJ (l := 157) (by decide) ck_209.2.1) ?_
  refine And.intro (jn hJ (l := 157) ⟨by decide, by rw [ck_209.2.1]; decide, ck_209.2.2⟩) ?_
  refine And.intro (jp hJ (l := 140) (r := 158) ⟨by decide, by rw [ck_0.2.2.2.2]; decide, ck_210.1⟩) ?_
  refine And.intro (jk hJ (l := 158) (by decide) ck_210.2.1) ?_
  refine And.intro (jn hJ (l := 158) ⟨by decide, by rw [ck_210.2.1]; decide, ck_210.2.2⟩) ?_
  refine And.intro (jp hJ (l := 140) (r := 159) ⟨by decide, by rw [ck_0.2.2.2.2]; decide, ck_211.1⟩) ?_
  refine And.intro (jk hJ (l := 159) (by decide) ck_211.2.1) ?_
  refine And.intro (jn hJ (l := 159) ⟨by decide, by rw [ck_211.2.1]; decide, ck_211.2.2⟩) ?_
  refine And.intro (jp hJ (l := 140) (r := 160) ⟨by decide, by rw [ck_0.2.2.2.2]; decide, ck_212.1⟩) ?_
  refine And.intro (jk hJ (l := 160) (by decide) ck_212.2.1) ?_
  refine And.intro (jn hJ (l := 160) ⟨by decide, by rw [ck_212.2.1]; decide, ck_212.2.2⟩) ?_
  refine And.intro (jp hJ (l := 140) (r := 161) ⟨by decide, by rw [ck_0.2.2.2.2]; decide, ck_215.1⟩) ?_
  refine And.intro (jk hJ (l := 161) (by decide) ck_215.2.1) ?_
  exact jn hJ (l := 161) ⟨by decide, by rw [ck_215.2.1]; decide, ck_215.2.2⟩
theorem rl_start {M : qa_M} {ad : Nat → Nat} {vl : Int32} {la : Nat → Nat} (hla : ∀ l, l < 162 → la (ad l) = l) (hJ : Jm M 162 ad lM21 vl) (h192 : qa_i M 192 (ad 140) = vl) : rRel (gG ad la) M := by
  have hi := hJ.2.1
  have z193 : ∀ j, rJ (gG ad la) M 1193 j = 0 := fun j => jja hJ (l := 141) (by decide) ck_193.2.1 (by decide) j
  have z194 : ∀ j, rA (gG ad la) M 1194 j = 0 := fun j => jia hJ (l := 142) (by decide) ck_194.2.1 (by decide) j
  have z195 : ∀ j, rA (gG ad la) M 1195 j = 0 := fun j => jia hJ (l := 143) (by decide) ck_195.2.1 (by decide) j
  have z196 : ∀ j, rJ (gG ad la) M 1196 j = 0 := fun j => jja hJ (l := 144) (by decide) ck_196.2.1 (by decide) j
  have z197 : ∀ j, rA (gG ad la) M 1197 j = 0 := fun j => jia hJ (l := 145) (by decide) ck_197.2.1 (by decide) j
  have z198 : ∀ j, rA (gG ad la) M 1198 j = 0 := fun j => jia hJ (l := 146) (by decide) ck_198.2.1 (by decide) j
  have z199 : ∀ j, rA (gG ad la) M 1199 j = 0 := fun j => jia hJ (l := 147) (by decide) ck_199.2.1 (by decide) j
  have z200 : ∀ j, rA (gG ad la) M 1200 j = 0 := fun j => jia hJ (l := 148) (by decide) ck_200.2.1 (by decide) j
  have z201 : ∀ j, rA (gG ad la) M 1201 j = 0 := fun j => jia hJ (l := 149) (by decide) ck_201.2.1 (by decide) j
  have z202 : ∀ j, rA (gG ad la) M 1202 j = 0 := fun j => jia hJ (l := 150) (by decide) ck_202.2.1 (by decide) j
  have z203 : ∀ j, rA (gG ad la) M 1203 j = 0 := fun j => jia hJ (l := 151) (by decide) ck_203.2.1 (by decide) j
  have z204 : ∀ j, rA (gG ad la) M 1204 j = 0 := fun j => jia hJ (l := 152) (by decide) ck_204.2.1 (by decide) j
  have z205 : ∀ j, rA (gG ad la) M 1205 j = 0 := fun j => jia hJ (l := 153) (by decide) ck_205.2.1 (by decide) j
  have z206 : ∀ j, rA (gG ad la) M 1206 j = 0 := fun j => jia hJ (l := 154) (by decide) ck_206.2.1 (by decide) j
  have z207 : ∀ j, rA (gG ad la) M 1207 j = 0 := fun j => jia hJ (l := 155) (by decide) ck_207.2.1 (by decide) j
  have z208 : ∀ j, rA (gG ad la) M 1208 j = 0 := fun j => jia hJ (l := 156) (by decide) ck_208.2.1 (by decide) j
  have z209 : ∀ j, rA (gG ad la) M 1209 j = 0 := fun j => jia hJ (l := 157) (by decide) ck_209.2.1 (by decide) j
  have z210 : ∀ j, rA (gG ad la) M 1210 j = 0 := fun j => jia hJ (l := 158) (by decide) ck_210.2.1 (by decide) j
  have z211 : ∀ j, rA (gG ad la) M 1211 j = 0 := fun j => jia hJ (l := 159) (by decide) ck_211.2.1 (by decide) j
  have z212 : ∀ j, rA (gG ad la) M 1212 j = 0 := fun j => jia hJ (l := 160) (by decide) ck_212.2.1 (by decide) j
  have z215 : ∀ j, rA (gG ad la) M 1215 j = 0 := fun j => jia hJ (l := 161) (by decide) ck_215.2.1 (by decide) j
  refine ⟨st_start hla hJ, fun t j => ad (lw t j), ⟨(hJ.2.2.2.2.2 (by omega)).trans h192.symm, fun e he => ⟨0, by omega, z194 e⟩, fun s hs4 => ⟨0, by omega, z195 s⟩⟩, fun e he => ?_, fun s hs4 => ?_, fun e he => ?_, fun e he => ?_, fun e he => ?_, fun t ht => ?_, fun e he => ?_, fun e he => ?_, fun e he => ?_⟩
  · rw [z193, z194]
    exact ⟨jj hJ ⟨(ck_e e he).1, by rw [(ck_e e he).2.1]; omega⟩, ji hJ ⟨(ck_e e he).1, by rw [(ck_e e he).2.1]; omega, (ck_i e he).1⟩ (by omega) (by omega)⟩
  · rw [z195, z196, z197, z198]
    have hk : qa_k lM21 (lb 1 s) < 1000 := by rw [(ck_s s hs4).2.1]; omega
    exact ⟨ji hJ ⟨(ck_s s hs4).1, hk, (ck_s s hs4).2.2.2.1⟩ (by omega) (by omega), jj hJ ⟨(ck_s s hs4).1, hk⟩, ji hJ ⟨(ck_s s hs4).1, hk, (ck_s s hs4).2.2.2.2.1⟩ (by omega) (by omega), ji hJ ⟨(ck_s s hs4).1, hk, (ck_s s hs4).2.2.2.2.2⟩ (by omega) (by omega), Or.inl rfl⟩
  · rw [z198, if_pos rfl]
    exact ji hJ ⟨(ck_e e he).1, by rw [(ck_e e he).2.1]; omega, (ck_i e he).2.1⟩ (by omega) (by omega)
  · rw [z200]
    exact ⟨ji hJ ⟨(ck_e e he).1, by rw [(ck_e e he).2.1]; omega, (ck_i e he).2.2⟩ (by omega) (by omega), Or.inl rfl⟩
  · exact ⟨0, by omega, ji hJ ⟨(ck_d e he).1, by rw [(ck_d e he).2.1]; omega, (ck_d e he).2.2.2.2.2.2⟩ (by omega) (by omega), z202 e, fun j hj => absurd hj (by omega)⟩
  · refine ⟨fun j hj => ?_, fun i j hi2 hj h => ?_⟩
    · obtain ⟨c1, c2, c3, c4⟩ := ck_w t ht j hj
      exact ⟨jpa hJ (ck_t t ht).2.2.2.2.1 (ck_t t ht).2.2.2.2.2.1 (by omega) c1, jk hJ c4 c2, Eq.trans (congrArg ow (hla _ c4)) c3⟩
    · have h2 := hi _ _ (ck_w t ht i hi2).2.2.2 (ck_w t ht j hj).2.2.2 h
      unfold lw at h2
      split at h2 <;> omega
  · exact ⟨0, by omega, ji hJ ⟨(ck_t e (by omega)).1, by rw [(ck_t e (by omega)).2.1]; omega, (ck_t e (by omega)).2.2.2.2.2.2.2.2⟩ (by omega) (by omega), z203 e, fun k hk => absurd hk (by omega)⟩
  · exact ⟨0, by omega, ji hJ ⟨(ck_t (2 + e) (by omega)).1, by rw [(ck_t (2 + e) (by omega)).2.1]; omega, (ck_t (2 + e) (by omega)).2.2.2.2.2.2.2.2⟩ (by omega) (by omega), z207 e, fun k hk => absurd hk (by omega)⟩
  · exact ⟨0, by omega, ji hJ ⟨(ck_m e he).1, by rw [(ck_m e he).2.1]; omega, (ck_m e he).2.2.2.2.2.2⟩ (by omega) (by omega), z211 e, fun j hj => absurd hj (by omega), fun q => absurd q (by omega), fun q => absurd q (by omega)⟩
