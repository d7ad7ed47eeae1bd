theorem wb_tb (n : Nat) : (lN n).toBitVec = BitVec.ofNat 64 n := rfl
theorem wb_inj {a b : Int64} (h : a.toBitVec = b.toBitVec) : a = b := Int64.toBitVec_inj.mp h
theorem wb_tn {n : Nat} (h : n < 2 ^ 64) : (lN n).toBitVec.toNat = n := by rw [wb_tb, BitVec.toNat_ofNat, Nat.mod_eq_of_lt h]
theorem wb_of (x : Int64) : ∃ n, n < 2 ^ 64 ∧ x = lN n := ⟨x.toBitVec.toNat, x.toBitVec.isLt, wb_inj (by rw [wb_tb]; simp)⟩
theorem wb_of32 (x : Int32) : ∃ n, n < 2 ^ 32 ∧ x = nI n := ⟨x.toBitVec.toNat, x.toBitVec.isLt, Int32.toBitVec_inj.mp (by show _ = BitVec.ofNat 32 _; simp)⟩
theorem wb_c : ∀ k, k < 64 → ((nI k).toInt64 &&& 63) = lN k := by decide +kernel
theorem wb_cu : ∀ k, k < 64 → ((nI k).toInt64.toUInt64 &&& Int64.toUInt64 63) = UInt64.ofNat k := by decide +kernel
theorem wb_sm : ∀ k, k < 64 → (BitVec.ofNat 64 k).smod 64 = BitVec.ofNat 64 k := by decide +kernel
theorem wb_pw {a b : Nat} (h : a ≤ b) : 2 ^ b = 2 ^ a * 2 ^ (b - a) := by rw [← Nat.pow_add]; congr 1; omega
theorem wb_lt2 {a b : Nat} (h : a < b) : 2 ^ a < 2 ^ b := Nat.pow_lt_pow_right (by decide) h
theorem wb_mod (n : Nat) : lN n = lN (n % 2 ^ 64) := wb_inj (by rw [wb_tb, wb_tb]; apply BitVec.eq_of_toNat_eq; rw [BitVec.toNat_ofNat, BitVec.toNat_ofNat, Nat.mod_mod])
theorem wb_shr {n k : Nat} (hn : n < 2 ^ 64) (hk : k < 64) : ((lN n).toUInt64 >>> ((nI k).toInt64.toUInt64 &&& Int64.toUInt64 63)).toInt64 = lN (n / 2 ^ k) := by
  rw [wb_cu k hk]
  apply wb_inj
  apply BitVec.eq_of_toNat_eq
  show ((lN n).toUInt64 >>> UInt64.ofNat k).toNat = (BitVec.ofNat 64 _).toNat
  have h1 : (UInt64.ofNat k).toNat = k := by
    show (BitVec.ofNat 64 k).toNat = k
    rw [BitVec.toNat_ofNat, Nat.mod_eq_of_lt (by omega)]
  have h2 : (lN n).toUInt64.toNat = n := wb_tn hn
  rw [UInt64.toNat_shiftRight, h1, h2, Nat.mod_eq_of_lt hk, Nat.shiftRight_eq_div_pow, BitVec.toNat_ofNat, Nat.mod_eq_of_lt (Nat.lt_of_le_of_lt (Nat.div_le_self _ _) hn)]
theorem wb_shl (n : Nat) {k : Nat} (hk : k < 64) : lN n <<< ((nI k).toInt64 &&& 63) = lN (n * 2 ^ k) := by
  rw [wb_c k hk]
  apply wb_inj
  rw [Int64.toBitVec_shiftLeft, wb_tb, wb_tb, wb_tb, wb_sm k hk]
  apply BitVec.eq_of_toNat_eq
  rw [BitVec.shiftLeft_eq', BitVec.toNat_shiftLeft, BitVec.toNat_ofNat, BitVec.toNat_ofNat, BitVec.toNat_ofNat, Nat.mod_eq_of_lt (show k < 2 ^ 64 by omega), Nat.shiftLeft_eq, Nat.mul_mod, Nat.mod_mod, ← Nat.mul_mod]
theorem wb_and {a b : Nat} (ha : a < 2 ^ 64) (hb : b < 2 ^ 64) : lN a &&& lN b = lN (a &&& b) := by
  apply wb_inj
  rw [Int64.toBitVec_and, wb_tb, wb_tb, wb_tb]
  apply BitVec.eq_of_toNat_eq
  rw [BitVec.toNat_and, BitVec.toNat_ofNat, BitVec.toNat_ofNat, BitVec.toNat_ofNat, Nat.mod_eq_of_lt ha, Nat.mod_eq_of_lt hb, Nat.mod_eq_of_lt (Nat.and_lt_two_pow _ hb)]
theorem wb_or {a b : Nat} (ha : a < 2 ^ 64) (hb : b < 2 ^ 64) : lN a ||| lN b = lN (a ||| b) := by
  apply wb_inj
  rw [Int64.toBitVec_or, wb_tb, wb_tb, wb_tb]
  apply BitVec.eq_of_toNat_eq
  rw [BitVec.toNat_or, BitVec.toNat_ofNat, BitVec.toNat_ofNat, BitVec.toNat_ofNat, Nat.mod_eq_of_lt ha, Nat.mod_eq_of_lt hb, Nat.mod_eq_of_lt (Nat.or_lt_two_pow ha hb)]
theorem wb_mask {n k : Nat} (hn : n < 2 ^ 64) (hk : k < 64) : lN n &&& lN (2 ^ k - 1) = lN (n % 2 ^ k) := by
  rw [wb_and hn (by have := wb_lt2 hk; omega), Nat.and_two_pow_sub_one_eq_mod]
theorem uu_tn {n : Nat} (h : n < 2 ^ 64) : (UInt64.ofNat n).toNat = n := Nat.mod_eq_of_lt h
theorem gg_or {k p a b : Nat} (hp : 2 ^ k = p) (ha : a < p) (h : b * p + a < 2 ^ 64) : lN (b * p) ||| lN a = lN (b * p + a) := by
  subst hp
  have h1 : b * 2 ^ k ||| a = b * 2 ^ k + a := by rw [← Nat.shiftLeft_eq, Nat.shiftLeft_add_eq_or_of_lt ha]
  have h3 : UInt64.ofNat (b * 2 ^ k) ||| UInt64.ofNat a = UInt64.ofNat (b * 2 ^ k + a) := UInt64.toNat_inj.mp (by rw [UInt64.toNat_or, uu_tn (by omega), uu_tn (by omega), uu_tn h, h1])
  have h2 := congrArg UInt64.toInt64 h3
  exact h2
theorem nx_and (a b : Nat) : nI a &&& nI b = nI (a &&& b) := by
  apply Int32.toBitVec_inj.1
  show BitVec.ofNat 32 a &&& BitVec.ofNat 32 b = BitVec.ofNat 32 (a &&& b)
  apply BitVec.eq_of_getLsbD_eq
  intro i hi
  simp [hi]
theorem nx_xor (a b : Nat) : nI a ^^^ nI b = nI (a ^^^ b) := by
  apply Int32.toBitVec_inj.1
  show BitVec.ofNat 32 a ^^^ BitVec.ofNat 32 b = BitVec.ofNat 32 (a ^^^ b)
  apply BitVec.eq_of_getLsbD_eq
  intro i hi
  simp [hi]
/-! bytes of a long -/
def bb_n (x : Int64) : Nat := x.toBitVec.toNat
theorem bb_lt (x : Int64) : bb_n x < 2 ^ 64 := x.toBitVec.isLt
theorem bb_of (x : Int64) : x = lN (bb_n x) := wb_inj (by rw [wb_tb]; simp [bb_n])
theorem bb_ln {n : Nat} (h : n < 2 ^ 64) : bb_n (lN n) = n := wb_tn h
theorem bb_inj {x y : Int64} (h : bb_n x = bb_n y) : x = y := by rw [bb_of x, bb_of y, h]
theorem bb_255 (k : Nat) : nI k &&& 255 = nI (k % 256) := by
  have h : (255 : Int32) = nI 255 := rfl
  rw [h, nx_and, show (255 : Nat) = 2 ^ 8 - 1 from rfl, Nat.and_two_pow_sub_one_eq_mod]
def bb_mb (x : Int64) : Int32 := nI (bb_n x / 2 ^ 40 % 256)
def bb_tb (x : Int64) (i : Nat) : Int32 := nI (bb_n x / 2 ^ (8 * (7 - i)) % 256)
theorem bb_div {n k : Nat} (h : n < 2 ^ 64) : n / 2 ^ k < 2 ^ 64 := Nat.lt_of_le_of_lt (Nat.div_le_self _ _) h
theorem bb_mbC (x : Int64) : (x.toUInt64 >>> ((40 : Int32).toInt64.toUInt64 &&& Int64.toUInt64 63)).toInt64.toInt32 &&& 255 = bb_mb x := by
  have h : (40 : Int32) = nI 40 := rfl
  unfold bb_mb
  rw [h]
  conv => lhs; rw [bb_of x]
  rw [wb_shr (bb_lt x) (by decide), lN_i, bb_255]
theorem bb_mbM (x : Int64) : ((x.toUInt64 >>> ((40 : Int32).toInt64.toUInt64 &&& Int64.toUInt64 63)).toInt64 &&& 255).toInt32 = bb_mb x := by
  have h : (40 : Int32) = nI 40 := rfl
  have h2 : (255 : Int64) = lN (2 ^ 8 - 1) := rfl
  unfold bb_mb
  rw [h, h2]
  conv => lhs; rw [bb_of x]
  rw [wb_shr (bb_lt x) (by decide), wb_mask (bb_div (bb_lt x)) (by decide), lN_i]
theorem bb_s1 : ∀ i, i < 8 → (8 : Int32) * (7 - nI i) = nI (8 * (7 - i)) := by decide +kernel
theorem bb_s2 : ∀ i, i < 8 → (56 : Int32) - 8 * nI i = nI (8 * (7 - i)) := by decide +kernel
theorem bb_tbC (x : Int64) {i : Nat} (hi : i < 8) : (x.toUInt64 >>> (((8 : Int32) * (7 - nI i)).toInt64.toUInt64 &&& Int64.toUInt64 63)).toInt64.toInt32 &&& 255 = bb_tb x i := by
  unfold bb_tb
  rw [bb_s1 i hi]
  conv => lhs; rw [bb_of x]
  rw [wb_shr (bb_lt x) (by omega), lN_i, bb_255]
theorem bb_tbM (x : Int64) {i : Nat} (hi : i < 8) : ((x.toUInt64 >>> (((56 : Int32) - 8 * nI i).toInt64.toUInt64 &&& Int64.toUInt64 63)).toInt64 &&& 255).toInt32 = bb_tb x i := by
  have h2 : (255 : Int64) = lN (2 ^ 8 - 1) := rfl
  unfold bb_tb
  rw [bb_s2 i hi, h2]
  conv => lhs; rw [bb_of x]
  rw [wb_shr (bb_lt x) (by omega), wb_mask (bb_div (bb_lt x)) (by decide), lN_i]
/-! eight bytes put together -/
def bb_e (f : Nat → Int32) : Nat → Int64
  | 0 => 0
  | k + 1 => (bb_e f k <<< ((8 : Int32).toInt64 &&& 63)) ||| (f k).toInt64
def bb_en (c : Nat → Nat) : Nat → Nat
  | 0 => 0
  | k + 1 => bb_en c k * 256 + c k
theorem bb_en_lt {c : Nat → Nat} {n : Nat} (h : ∀ i, i < n → c i < 256) : ∀ k, k ≤ n → bb_en c k < 256 ^ k := by
  intro k
  induction k with
  | zero => intro _; simp [bb_en]
  | succ k ih =>
    intro hk
    have h1 := ih (by omega)
    have h2 := h k (by omega)
    have h3 : 256 ^ (k + 1) = 256 ^ k * 256 := Nat.pow_succ 256 k
    unfold bb_en
    omega
theorem bb_e_eq {f : Nat → Int32} {c : Nat → Nat} (h : ∀ i, i < 8 → c i < 256 ∧ f i = nI (c i)) : ∀ k, k ≤ 8 → bb_e f k = lN (bb_en c k) := by
  intro k
  induction k with
  | zero => intro _; rfl
  | succ k ih =>
    intro hk
    have h1 := ih (by omega)
    obtain ⟨h2, h3⟩ := h k (by omega)
    have h4 := bb_en_lt (c := c) (n := 8) (fun i hi => (h i hi).1) k (by omega)
    have h5 : 256 ^ k ≤ 256 ^ 7 := Nat.pow_le_pow_right (by decide) (by omega)
    have h6 : (8 : Int32) = nI 8 := rfl
    unfold bb_e bb_en
    rw [h1, h6, wb_shl _ (by decide), h3, nI_l (by omega), show (2 : Nat) ^ 8 = 256 from rfl]
    exact gg_or (k := 8) rfl h2 (by omega)
theorem bb_dig {c : Nat → Nat} (h : ∀ i, i < 8 → c i < 256) (n : Nat) (hn : n < 2 ^ 64) : n = bb_en c 8 ↔ ∀ i, i < 8 → n / 2 ^ (8 * (7 - i)) % 256 = c i := by
  have h0 := h 0 (by decide)
  have h1 := h 1 (by decide)
  have h2 := h 2 (by decide)
  have h3 := h 3 (by decide)
  have h4 := h 4 (by decide)
  have h5 := h 5 (by decide)
  have h6 := h 6 (by decide)
  have h7 := h 7 (by decide)
  have e : bb_en c 8 = (((((((c 0 * 256 + c 1) * 256 + c 2) * 256 + c 3) * 256 + c 4) * 256 + c 5) * 256 + c 6) * 256 + c 7) := by
    simp [bb_en]
  have a1 : n / 72057594037927936 = n / 281474976710656 / 256 := by omega
  have a2 : n / 281474976710656 = n / 1099511627776 / 256 := by omega
  have a3 : n / 1099511627776 = n / 4294967296 / 256 := by omega
  have a4 : n / 4294967296 = n / 16777216 / 256 := by omega
  have a5 : n / 16777216 = n / 65536 / 256 := by omega
  have a6 : n / 65536 = n / 256 / 256 := by omega
  have key : (n = bb_en c 8) ↔ (n / 72057594037927936 % 256 = c 0 ∧ n / 281474976710656 % 256 = c 1 ∧ n / 1099511627776 % 256 = c 2 ∧ n / 4294967296 % 256 = c 3 ∧ n / 16777216 % 256 = c 4 ∧ n / 65536 % 256 = c 5 ∧ n / 256 % 256 = c 6 ∧ n % 256 = c 7) := by
    rw [e, a1, a2, a3, a4, a5, a6]
    have b7 : n / 256 / 256 / 256 / 256 / 256 / 256 / 256 < 256 := by omega
    generalize hq1 : n / 256 = q1 at *
    generalize hq2 : q1 / 256 = q2 at *
    generalize hq3 : q2 / 256 = q3 at *
    generalize hq4 : q3 / 256 = q4 at *
    generalize hq5 : q4 / 256 = q5 at *
    generalize hq6 : q5 / 256 = q6 at *
    generalize hq7 : q6 / 256 = q7 at *
    constructor
    · intro hh
      omega
    · intro hh
      omega
  rw [key]
  constructor
  · rintro ⟨g0, g1, g2, g3, g4, g5, g6, g7⟩ i hi
    have hc : i = 0 ∨ i = 1 ∨ i = 2 ∨ i = 3 ∨ i = 4 ∨ i = 5 ∨ i = 6 ∨ i = 7 := by omega
    rcases hc with rfl | rfl | rfl | rfl | rfl | rfl | rfl | rfl
    · exact g0
    · exact g1
    · exact g2
    · exact g3
    · exact g4
    · exact g5
    · exact g6
    · simpa using g7
  · intro g
    exact ⟨g 0 (by decide), g 1 (by decide), g 2 (by decide), g 3 (by decide), g 4 (by decide), g 5 (by decide), g 6 (by decide), by simpa using g 7 (by decide)⟩
theorem bb_last {f : Nat → Int32} {c : Nat → Nat} (h : ∀ i, i < 8 → c i < 256 ∧ f i = nI (c i)) (x : Int64) : x = bb_e f 8 ↔ ∀ i, i < 8 → f i = bb_tb x i := by
  rw [bb_e_eq h 8 (Nat.le_refl _)]
  have hl := bb_en_lt (c := c) (n := 8) (fun i hi => (h i hi).1) 8 (Nat.le_refl _)
  have h1 : x = lN (bb_en c 8) ↔ bb_n x = bb_en c 8 := by
    constructor
    · intro q
      rw [q]
      exact bb_ln (by omega)
    · intro q
      rw [← q]
      exact bb_of x
  rw [h1, bb_dig (fun i hi => (h i hi).1) _ (bb_lt x)]
  constructor
  · intro q i hi
    rw [(h i hi).2]
    unfold bb_tb
    rw [q i hi]
  · intro q i hi
    have h2 := q i hi
    rw [(h i hi).2] at h2
    unfold bb_tb at h2
    have h3 := congrArg Int32.toNatClampNeg h2
    have hb := (h i hi).1
    rw [nI_clamp (by omega), nI_clamp (by omega)] at h3
    exact h3.symm
