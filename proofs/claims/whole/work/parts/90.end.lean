theorem ev_sln {b L : Nat} {xs : Nat → Int32} {k : qa_K} {u : Nat × Nat} {lv : qa_L} {st : List Value} {M : qa_M} (hk : k u lv (.int (nI L) :: st) M) : qi_sln (b, L, xs) k u lv (.ref b :: st) M := ⟨rfl, hk⟩
theorem ev_sld {b L i : Nat} {xs : Nat → Int32} {k : qa_K} {u : Nat × Nat} {lv : qa_L} {st : List Value} {M : qa_M} (hi : i < L) (hi2 : i < 2147483648) (hk : k u lv (.int (xs i) :: st) M) : qi_sld (b, L, xs) k u lv (.int (nI i) :: .ref b :: st) M := by
  refine ⟨rfl, (nn_ok hi2).mpr hi, ?_⟩
  rw [nI_clamp hi2]
  exact hk
def cv (L : Nat) (xs : Nat → Int32) : Int32 := if 0 < L then xs 0 else nI 0
theorem cl_cell {b L : Nat} {xs : Nat → Int32} {M : qa_M} {Po : Option Value → qa_M → Prop} (hL : L ≤ 2561) (h : Po (some (.int (cv L xs))) M) : sp_Lw_cell (b, L, xs) [.ref b, .int (nI 0)] M Po := by
  refine en_Lw_cell (b, L, xs) ?_
  unfold kc_Lw_cell_0
  unfold cv at h
  repeat (first | (with_reducible apply ev_ic) | ((with_reducible apply ev_aload); (· exact rfl)) | ((with_reducible apply ev_iload); (· exact rfl)) | (with_reducible apply ev_iaddn) | (with_reducible apply ev_sln) | ((with_reducible apply ev_sld); (· omega); (· omega)) | (with_reducible apply ev_i2l) | (with_reducible apply ev_lshl) | (with_reducible apply ev_lc) | (with_reducible apply ev_land) | (with_reducible apply ev_lor) | dsimp only [qa_rs])
  by_cases h0 : 0 < L
  · rw [if_pos h0] at h
    refine ev_icge_f (by omega) ?_
    repeat (first | (with_reducible apply ev_ic) | ((with_reducible apply ev_aload); (· exact rfl)) | ((with_reducible apply ev_iload); (· exact rfl)) | (with_reducible apply ev_iaddn) | (with_reducible apply ev_sln) | ((with_reducible apply ev_sld); (· omega); (· omega)) | (with_reducible apply ev_i2l) | (with_reducible apply ev_lshl) | (with_reducible apply ev_lc) | (with_reducible apply ev_land) | (with_reducible apply ev_lor) | dsimp only [qa_rs])
    unfold kc_Lw_cell_13
    exact ev_iret ev_le0 h
  · rw [if_neg h0] at h
    refine ev_icge_t (by omega) ?_
    repeat (first | (with_reducible apply ev_ic) | ((with_reducible apply ev_aload); (· exact rfl)) | ((with_reducible apply ev_iload); (· exact rfl)) | (with_reducible apply ev_iaddn) | (with_reducible apply ev_sln) | ((with_reducible apply ev_sld); (· omega); (· omega)) | (with_reducible apply ev_i2l) | (with_reducible apply ev_lshl) | (with_reducible apply ev_lc) | (with_reducible apply ev_land) | (with_reducible apply ev_lor) | dsimp only [qa_rs])
    unfold kc_Lw_cell_13
    exact ev_iret ev_le0 h
theorem an_31 (x : Int32) : ∃ k, k < 32 ∧ x &&& nI 31 = nI k := by
  obtain ⟨n, -, rfl⟩ := wb_of32 x
  exact ⟨n &&& 31, Nat.and_lt_two_pow (n := 5) n (by decide), nx_and n 31⟩
theorem ll_5 : ∀ L, L < 5 → nI L - nI 5 < 0 := by decide +kernel
def wc_0 (b L : Nat) (xs : Nat → Int32) (Po : Option Value → qa_M → Prop) (k28 : qa_K) : qa_K := (qi_aload 1 (qi_aload 0 (qi_iload 3 (qi_ic (nI 1) (qi_iadd (qi_sld (b, L, xs) (qi_aload 0 (qi_iload 3 (qi_ic (nI 2) (qi_iadd (qi_sld (b, L, xs) (qi_i2l (qi_ic (nI 32) (qi_lshl (qi_aload 0 (qi_iload 3 (qi_ic (nI 3) (qi_iadd (qi_sld (b, L, xs) (qi_i2l (qi_lc 4294967295 (qi_land (qi_lor (qi_callv 3 1 (600000, 7302250) (cq sp_SR_secret) (qi_aload 2 (qi_aload 0 (qi_iload 3 (qi_ic (nI 1) (qi_iadd (qi_sld (b, L, xs) (qi_aload 0 (qi_iload 3 (qi_ic (nI 2) (qi_iadd (qi_sld (b, L, xs) (qi_i2l (qi_ic (nI 32) (qi_lshl (qi_aload 0 (qi_iload 3 (qi_ic (nI 3) (qi_iadd (qi_sld (b, L, xs) (qi_i2l (qi_lc 4294967295 (qi_land (qi_lor (qi_callv 3 7 (600000, 7302250) (cq sp_Mo_secret) (qi_iceq (kc_Lw_law_778q (b, L, xs) Po k28) (qi_ic (nI 0) (qi_ret1)))))))))))))))))))))))))))))))))))))))))))))))))))
set_option maxRecDepth 20000 in
set_option maxHeartbeats 4000000 in
theorem cx_w0 {G : gg_G} {M : qa_M} {b L i : Nat} {xs : Nat → Int32} {u : Nat × Nat} {k28 : qa_K} (hR : rRel G M) (hi : 1 ≤ i) (hiL : i + 5 ≤ L) (hL : L ≤ 2561) (hu : qa_le u (600000, 7302250)) (hk : ∀ M2, rRel G M2 → k28 u [some (.ref b), some (.ref (G 12 0)), some (.ref (G 12 1)), some (.int (nI (i + 5)))] [] M2) (Po : Option Value → qa_M → Prop) : wc_0 b L xs Po k28 u [some (.ref b), some (.ref (G 12 0)), some (.ref (G 12 1)), some (.int (nI i))] [] M := by
  have hs := hR.1
  unfold wc_0
  repeat (first | (with_reducible apply ev_ic) | ((with_reducible apply ev_aload); (· exact rfl)) | ((with_reducible apply ev_iload); (· exact rfl)) | (with_reducible apply ev_iaddn) | (with_reducible apply ev_sln) | ((with_reducible apply ev_sld); (· omega); (· omega)) | (with_reducible apply ev_i2l) | (with_reducible apply ev_lshl) | (with_reducible apply ev_lc) | (with_reducible apply ev_land) | (with_reducible apply ev_lor) | dsimp only [qa_rs])
  refine ev_callv3 hs.kx (ev_rm rfl) hu ?_
  refine ⟨_, pq_secret hR _ _, ?_⟩
  rintro r M1 ⟨⟨v, rfl⟩, hk7, hmo⟩
  repeat (first | (with_reducible apply ev_ic) | ((with_reducible apply ev_aload); (· exact rfl)) | ((with_reducible apply ev_iload); (· exact rfl)) | (with_reducible apply ev_iaddn) | (with_reducible apply ev_sln) | ((with_reducible apply ev_sld); (· omega); (· omega)) | (with_reducible apply ev_i2l) | (with_reducible apply ev_lshl) | (with_reducible apply ev_lc) | (with_reducible apply ev_land) | (with_reducible apply ev_lor) | dsimp only [qa_rs])
  refine ev_callv3 hk7 (ev_rm rfl) hu ?_
  refine ⟨_, hmo, ?_⟩
  rintro r2 M2 ⟨rfl, hR2⟩
  dsimp only [qa_rs]
  refine ev_iceq_T rfl ?_
  unfold kc_Lw_law_778q
  refine ev_iincn rfl rfl ?_
  exact hk M2 hR2
def wc_1 (b L : Nat) (xs : Nat → Int32) (Po : Option Value → qa_M → Prop) (k28 : qa_K) : qa_K := (qi_aload 1 (qi_aload 0 (qi_iload 3 (qi_ic (nI 1) (qi_iadd (qi_sld (b, L, xs) (qi_aload 0 (qi_iload 3 (qi_ic (nI 2) (qi_iadd (qi_sld (b, L, xs) (qi_ifeq (qi_ic (nI 0) (kc_Lw_law_210q (b, L, xs) Po k28)) (qi_ic (nI 1) (kc_Lw_law_210q (b, L, xs) Po k28))))))))))))))
set_option maxRecDepth 20000 in
set_option maxHeartbeats 4000000 in
theorem cx_w1 {G : gg_G} {M : qa_M} {b L i : Nat} {xs : Nat → Int32} {u : Nat × Nat} {k28 : qa_K} (hR : rRel G M) (hi : 1 ≤ i) (hiL : i + 5 ≤ L) (hL : L ≤ 2561) (hu : qa_le u (600000, 7302250)) (hk : ∀ M2, rRel G M2 → k28 u [some (.ref b), some (.ref (G 12 0)), some (.ref (G 12 1)), some (.int (nI (i + 5)))] [] M2) (Po : Option Value → qa_M → Prop) : wc_1 b L xs Po k28 u [some (.ref b), some (.ref (G 12 0)), some (.ref (G 12 1)), some (.int (nI i))] [] M := by
  have hs := hR.1
  unfold wc_1
  repeat (first | (with_reducible apply ev_ic) | ((with_reducible apply ev_aload); (· exact rfl)) | ((with_reducible apply ev_iload); (· exact rfl)) | (with_reducible apply ev_iaddn) | (with_reducible apply ev_sln) | ((with_reducible apply ev_sld); (· omega); (· omega)) | (with_reducible apply ev_i2l) | (with_reducible apply ev_lshl) | (with_reducible apply ev_lc) | (with_reducible apply ev_land) | (with_reducible apply ev_lor) | dsimp only [qa_rs])
  by_cases hb : xs (i + 2) = 0
  · refine ev_ifeq_T hb ?_
    repeat (first | (with_reducible apply ev_ic) | ((with_reducible apply ev_aload); (· exact rfl)) | ((with_reducible apply ev_iload); (· exact rfl)) | ((with_reducible apply ev_istore); (· exact rfl)) | ((with_reducible apply ev_astore); (· exact rfl)) | (with_reducible apply ev_dup_r) | dsimp only [qa_rs])
    unfold kc_Lw_law_210q
    refine ev_callv3 hs.kx (ev_rm rfl) hu ?_
    refine ⟨_, pq_key0 hR _, ?_⟩
    rintro r M1 ⟨⟨v, rfl⟩, hk7, hmo⟩
    repeat (first | (with_reducible apply ev_ic) | ((with_reducible apply ev_aload); (· exact rfl)) | ((with_reducible apply ev_iload); (· exact rfl)) | (with_reducible apply ev_iaddn) | (with_reducible apply ev_sln) | ((with_reducible apply ev_sld); (· omega); (· omega)) | (with_reducible apply ev_i2l) | (with_reducible apply ev_lshl) | (with_reducible apply ev_lc) | (with_reducible apply ev_land) | (with_reducible apply ev_lor) | dsimp only [qa_rs])
    refine ev_ifeq_T hb ?_
    repeat (first | (with_reducible apply ev_ic) | ((with_reducible apply ev_aload); (· exact rfl)) | ((with_reducible apply ev_iload); (· exact rfl)) | ((with_reducible apply ev_istore); (· exact rfl)) | ((with_reducible apply ev_astore); (· exact rfl)) | (with_reducible apply ev_dup_r) | dsimp only [qa_rs])
    unfold kc_Lw_law_232q
    refine ev_callv3 hk7 (ev_rm rfl) hu ?_
    refine ⟨_, hmo, ?_⟩
    rintro r2 M2 ⟨rfl, hR2⟩
    dsimp only [qa_rs]
    refine ev_iceq_T rfl ?_
    unfold kc_Lw_law_778q
    refine ev_iincn rfl rfl ?_
    exact hk M2 hR2
  · refine ev_ifeq_F hb ?_
    repeat (first | (with_reducible apply ev_ic) | ((with_reducible apply ev_aload); (· exact rfl)) | ((with_reducible apply ev_iload); (· exact rfl)) | ((with_reducible apply ev_istore); (· exact rfl)) | ((with_reducible apply ev_astore); (· exact rfl)) | (with_reducible apply ev_dup_r) | dsimp only [qa_rs])
    unfold kc_Lw_law_210q
    refine ev_callv3 hs.kx (ev_rm rfl) hu ?_
    refine ⟨_, pq_key1 hR _, ?_⟩
    rintro r M1 ⟨⟨v, rfl⟩, hk7, hmo⟩
    repeat (first | (with_reducible apply ev_ic) | ((with_reducible apply ev_aload); (· exact rfl)) | ((with_reducible apply ev_iload); (· exact rfl)) | (with_reducible apply ev_iaddn) | (with_reducible apply ev_sln) | ((with_reducible apply ev_sld); (· omega); (· omega)) | (with_reducible apply ev_i2l) | (with_reducible apply ev_lshl) | (with_reducible apply ev_lc) | (with_reducible apply ev_land) | (with_reducible apply ev_lor) | dsimp only [qa_rs])
    refine ev_ifeq_F hb ?_
    repeat (first | (with_reducible apply ev_ic) | ((with_reducible apply ev_aload); (· exact rfl)) | ((with_reducible apply ev_iload); (· exact rfl)) | ((with_reducible apply ev_istore); (· exact rfl)) | ((with_reducible apply ev_astore); (· exact rfl)) | (with_reducible apply ev_dup_r) | dsimp only [qa_rs])
    unfold kc_Lw_law_232q
    refine ev_callv3 hk7 (ev_rm rfl) hu ?_
    refine ⟨_, hmo, ?_⟩
    rintro r2 M2 ⟨rfl, hR2⟩
    dsimp only [qa_rs]
    refine ev_iceq_T rfl ?_
    unfold kc_Lw_law_778q
    refine ev_iincn rfl rfl ?_
    exact hk M2 hR2
def wc_2 (b L : Nat) (xs : Nat → Int32) (Po : Option Value → qa_M → Prop) (k28 : qa_K) : qa_K := (qi_aload 1 (qi_aload 0 (qi_iload 3 (qi_ic (nI 1) (qi_iadd (qi_sld (b, L, xs) (qi_callv 2 1 (600000, 7302250) (cq sp_SR_advance) (qi_aload 2 (qi_aload 0 (qi_iload 3 (qi_ic (nI 1) (qi_iadd (qi_sld (b, L, xs) (qi_callv 2 7 (600000, 7302250) (cq sp_Mo_advance) (qi_iceq (kc_Lw_law_778q (b, L, xs) Po k28) (qi_ic (nI 0) (qi_ret1)))))))))))))))))
set_option maxRecDepth 20000 in
set_option maxHeartbeats 4000000 in
theorem cx_w2 {G : gg_G} {M : qa_M} {b L i : Nat} {xs : Nat → Int32} {u : Nat × Nat} {k28 : qa_K} (hR : rRel G M) (hi : 1 ≤ i) (hiL : i + 5 ≤ L) (hL : L ≤ 2561) (hu : qa_le u (600000, 7302250)) (hk : ∀ M2, rRel G M2 → k28 u [some (.ref b), some (.ref (G 12 0)), some (.ref (G 12 1)), some (.int (nI (i + 5)))] [] M2) (Po : Option Value → qa_M → Prop) : wc_2 b L xs Po k28 u [some (.ref b), some (.ref (G 12 0)), some (.ref (G 12 1)), some (.int (nI i))] [] M := by
  have hs := hR.1
  unfold wc_2
  repeat (first | (with_reducible apply ev_ic) | ((with_reducible apply ev_aload); (· exact rfl)) | ((with_reducible apply ev_iload); (· exact rfl)) | (with_reducible apply ev_iaddn) | (with_reducible apply ev_sln) | ((with_reducible apply ev_sld); (· omega); (· omega)) | (with_reducible apply ev_i2l) | (with_reducible apply ev_lshl) | (with_reducible apply ev_lc) | (with_reducible apply ev_land) | (with_reducible apply ev_lor) | dsimp only [qa_rs])
  refine ev_callv2 hs.kx (ev_rm rfl) hu ?_
  refine ⟨_, pq_advance hR _, ?_⟩
  rintro r M1 ⟨⟨v, rfl⟩, hk7, hmo⟩
  repeat (first | (with_reducible apply ev_ic) | ((with_reducible apply ev_aload); (· exact rfl)) | ((with_reducible apply ev_iload); (· exact rfl)) | (with_reducible apply ev_iaddn) | (with_reducible apply ev_sln) | ((with_reducible apply ev_sld); (· omega); (· omega)) | (with_reducible apply ev_i2l) | (with_reducible apply ev_lshl) | (with_reducible apply ev_lc) | (with_reducible apply ev_land) | (with_reducible apply ev_lor) | dsimp only [qa_rs])
  refine ev_callv2 hk7 (ev_rm rfl) hu ?_
  refine ⟨_, hmo, ?_⟩
  rintro r2 M2 ⟨rfl, hR2⟩
  dsimp only [qa_rs]
  refine ev_iceq_T rfl ?_
  unfold kc_Lw_law_778q
  refine ev_iincn rfl rfl ?_
  exact hk M2 hR2
def wc_3 (b L : Nat) (xs : Nat → Int32) (Po : Option Value → qa_M → Prop) (k28 : qa_K) : qa_K := (qi_aload 1 (qi_aload 0 (qi_iload 3 (qi_ic (nI 1) (qi_iadd (qi_sld (b, L, xs) (qi_aload 0 (qi_iload 3 (qi_ic (nI 2) (qi_iadd (qi_sld (b, L, xs) (qi_callv 3 1 (600000, 7302250) (cq sp_SR_write) (qi_aload 2 (qi_aload 0 (qi_iload 3 (qi_ic (nI 1) (qi_iadd (qi_sld (b, L, xs) (qi_aload 0 (qi_iload 3 (qi_ic (nI 2) (qi_iadd (qi_sld (b, L, xs) (qi_callv 3 7 (600000, 7302250) (cq sp_Mo_write) (qi_iceq (kc_Lw_law_778q (b, L, xs) Po k28) (qi_ic (nI 0) (qi_ret1)))))))))))))))))))))))))))
set_option maxRecDepth 20000 in
set_option maxHeartbeats 4000000 in
theorem cx_w3 {G : gg_G} {M : qa_M} {b L i : Nat} {xs : Nat → Int32} {u : Nat × Nat} {k28 : qa_K} (hR : rRel G M) (hi : 1 ≤ i) (hiL : i + 5 ≤ L) (hL : L ≤ 2561) (hu : qa_le u (600000, 7302250)) (hk : ∀ M2, rRel G M2 → k28 u [some (.ref b), some (.ref (G 12 0)), some (.ref (G 12 1)), some (.int (nI (i + 5)))] [] M2) (Po : Option Value → qa_M → Prop) : wc_3 b L xs Po k28 u [some (.ref b), some (.ref (G 12 0)), some (.ref (G 12 1)), some (.int (nI i))] [] M := by
  have hs := hR.1
  unfold wc_3
  repeat (first | (with_reducible apply ev_ic) | ((with_reducible apply ev_aload); (· exact rfl)) | ((with_reducible apply ev_iload); (· exact rfl)) | (with_reducible apply ev_iaddn) | (with_reducible apply ev_sln) | ((with_reducible apply ev_sld); (· omega); (· omega)) | (with_reducible apply ev_i2l) | (with_reducible apply ev_lshl) | (with_reducible apply ev_lc) | (with_reducible apply ev_land) | (with_reducible apply ev_lor) | dsimp only [qa_rs])
  refine ev_callv3 hs.kx (ev_rm rfl) hu ?_
  refine ⟨_, pq_write hR _ _, ?_⟩
  rintro r M1 ⟨⟨v, rfl⟩, hk7, hmo⟩
  repeat (first | (with_reducible apply ev_ic) | ((with_reducible apply ev_aload); (· exact rfl)) | ((with_reducible apply ev_iload); (· exact rfl)) | (with_reducible apply ev_iaddn) | (with_reducible apply ev_sln) | ((with_reducible apply ev_sld); (· omega); (· omega)) | (with_reducible apply ev_i2l) | (with_reducible apply ev_lshl) | (with_reducible apply ev_lc) | (with_reducible apply ev_land) | (with_reducible apply ev_lor) | dsimp only [qa_rs])
  refine ev_callv3 hk7 (ev_rm rfl) hu ?_
  refine ⟨_, hmo, ?_⟩
  rintro r2 M2 ⟨rfl, hR2⟩
  dsimp only [qa_rs]
  refine ev_iceq_T rfl ?_
  unfold kc_Lw_law_778q
  refine ev_iincn rfl rfl ?_
  exact hk M2 hR2
def wc_4 (b L : Nat) (xs : Nat → Int32) (Po : Option Value → qa_M → Prop) (k28 : qa_K) : qa_K := (qi_aload 1 (qi_aload 0 (qi_iload 3 (qi_ic (nI 1) (qi_iadd (qi_sld (b, L, xs) (qi_aload 0 (qi_iload 3 (qi_ic (nI 2) (qi_iadd (qi_sld (b, L, xs) (qi_aload 0 (qi_iload 3 (qi_ic (nI 3) (qi_iadd (qi_sld (b, L, xs) (qi_callv 4 1 (600000, 7302250) (cq sp_SR_seal) (qi_aload 2 (qi_aload 0 (qi_iload 3 (qi_ic (nI 1) (qi_iadd (qi_sld (b, L, xs) (qi_aload 0 (qi_iload 3 (qi_ic (nI 2) (qi_iadd (qi_sld (b, L, xs) (qi_aload 0 (qi_iload 3 (qi_ic (nI 3) (qi_iadd (qi_sld (b, L, xs) (qi_callv 4 7 (600000, 7302250) (cq sp_Mo_seal) (qi_iceq (kc_Lw_law_778q (b, L, xs) Po k28) (qi_ic (nI 0) (qi_ret1)))))))))))))))))))))))))))))))))))))
set_option maxRecDepth 20000 in
set_option maxHeartbeats 4000000 in
theorem cx_w4 {G : gg_G} {M : qa_M} {b L i : Nat} {xs : Nat → Int32} {u : Nat × Nat} {k28 : qa_K} (hR : rRel G M) (hi : 1 ≤ i) (hiL : i + 5 ≤ L) (hL : L ≤ 2561) (hu : qa_le u (600000, 7302250)) (hk : ∀ M2, rRel G M2 → k28 u [some (.ref b), some (.ref (G 12 0)), some (.ref (G 12 1)), some (.int (nI (i + 5)))] [] M2) (Po : Option Value → qa_M → Prop) : wc_4 b L xs Po k28 u [some (.ref b), some (.ref (G 12 0)), some (.ref (G 12 1)), some (.int (nI i))] [] M := by
  have hs := hR.1
  unfold wc_4
  repeat (first | (with_reducible apply ev_ic) | ((with_reducible apply ev_aload); (· exact rfl)) | ((with_reducible apply ev_iload); (· exact rfl)) | (with_reducible apply ev_iaddn) | (with_reducible apply ev_sln) | ((with_reducible apply ev_sld); (· omega); (· omega)) | (with_reducible apply ev_i2l) | (with_reducible apply ev_lshl) | (with_reducible apply ev_lc) | (with_reducible apply ev_land) | (with_reducible apply ev_lor) | dsimp only [qa_rs])
  refine ev_callv4 hs.kx (ev_rm rfl) hu ?_
  refine ⟨_, pq_seal hR _ _ _, ?_⟩
  rintro r M1 ⟨⟨v, rfl⟩, hk7, hmo⟩
  repeat (first | (with_reducible apply ev_ic) | ((with_reducible apply ev_aload); (· exact rfl)) | ((with_reducible apply ev_iload); (· exact rfl)) | (with_reducible apply ev_iaddn) | (with_reducible apply ev_sln) | ((with_reducible apply ev_sld); (· omega); (· omega)) | (with_reducible apply ev_i2l) | (with_reducible apply ev_lshl) | (with_reducible apply ev_lc) | (with_reducible apply ev_land) | (with_reducible apply ev_lor) | dsimp only [qa_rs])
  refine ev_callv4 hk7 (ev_rm rfl) hu ?_
  refine ⟨_, hmo, ?_⟩
  rintro r2 M2 ⟨rfl, hR2⟩
  dsimp only [qa_rs]
  refine ev_iceq_T rfl ?_
  unfold kc_Lw_law_778q
  refine ev_iincn rfl rfl ?_
  exact hk M2 hR2
def wc_5 (b L : Nat) (xs : Nat → Int32) (Po : Option Value → qa_M → Prop) (k28 : qa_K) : qa_K := (qi_aload 1 (qi_aload 0 (qi_iload 3 (qi_ic (nI 1) (qi_iadd (qi_sld (b, L, xs) (qi_callv 2 1 (600000, 7302250) (cq sp_SR_deliver) (qi_aload 2 (qi_aload 0 (qi_iload 3 (qi_ic (nI 1) (qi_iadd (qi_sld (b, L, xs) (qi_callv 2 7 (600000, 7302250) (cq sp_Mo_deliver) (qi_iceq (kc_Lw_law_778q (b, L, xs) Po k28) (qi_ic (nI 0) (qi_ret1)))))))))))))))))
set_option maxRecDepth 20000 in
set_option maxHeartbeats 4000000 in
theorem cx_w5 {G : gg_G} {M : qa_M} {b L i : Nat} {xs : Nat → Int32} {u : Nat × Nat} {k28 : qa_K} (hR : rRel G M) (hi : 1 ≤ i) (hiL : i + 5 ≤ L) (hL : L ≤ 2561) (hu : qa_le u (600000, 7302250)) (hk : ∀ M2, rRel G M2 → k28 u [some (.ref b), some (.ref (G 12 0)), some (.ref (G 12 1)), some (.int (nI (i + 5)))] [] M2) (Po : Option Value → qa_M → Prop) : wc_5 b L xs Po k28 u [some (.ref b), some (.ref (G 12 0)), some (.ref (G 12 1)), some (.int (nI i))] [] M := by
  have hs := hR.1
  unfold wc_5
  repeat (first | (with_reducible apply ev_ic) | ((with_reducible apply ev_aload); (· exact rfl)) | ((with_reducible apply ev_iload); (· exact rfl)) | (with_reducible apply ev_iaddn) | (with_reducible apply ev_sln) | ((with_reducible apply ev_sld); (· omega); (· omega)) | (with_reducible apply ev_i2l) | (with_reducible apply ev_lshl) | (with_reducible apply ev_lc) | (with_reducible apply ev_land) | (with_reducible apply ev_lor) | dsimp only [qa_rs])
  refine ev_callv2 hs.kx (ev_rm rfl) hu ?_
  refine ⟨_, pq_deliver hR _, ?_⟩
  rintro r M1 ⟨⟨v, rfl⟩, hk7, hmo⟩
  repeat (first | (with_reducible apply ev_ic) | ((with_reducible apply ev_aload); (· exact rfl)) | ((with_reducible apply ev_iload); (· exact rfl)) | (with_reducible apply ev_iaddn) | (with_reducible apply ev_sln) | ((with_reducible apply ev_sld); (· omega); (· omega)) | (with_reducible apply ev_i2l) | (with_reducible apply ev_lshl) | (with_reducible apply ev_lc) | (with_reducible apply ev_land) | (with_reducible apply ev_lor) | dsimp only [qa_rs])
  refine ev_callv2 hk7 (ev_rm rfl) hu ?_
  refine ⟨_, hmo, ?_⟩
  rintro r2 M2 ⟨rfl, hR2⟩
  dsimp only [qa_rs]
  refine ev_iceq_T rfl ?_
  unfold kc_Lw_law_778q
  refine ev_iincn rfl rfl ?_
  exact hk M2 hR2
def wc_6 (b L : Nat) (xs : Nat → Int32) (Po : Option Value → qa_M → Prop) (k28 : qa_K) : qa_K := (qi_aload 1 (qi_aload 0 (qi_iload 3 (qi_ic (nI 1) (qi_iadd (qi_sld (b, L, xs) (qi_aload 0 (qi_iload 3 (qi_ic (nI 2) (qi_iadd (qi_sld (b, L, xs) (qi_aload 0 (qi_iload 3 (qi_ic (nI 3) (qi_iadd (qi_sld (b, L, xs) (qi_aload 0 (qi_iload 3 (qi_ic (nI 4) (qi_iadd (qi_sld (b, L, xs) (qi_callv 5 1 (600000, 7302250) (cq sp_SR_alter) (qi_aload 2 (qi_aload 0 (qi_iload 3 (qi_ic (nI 1) (qi_iadd (qi_sld (b, L, xs) (qi_aload 0 (qi_iload 3 (qi_ic (nI 2) (qi_iadd (qi_sld (b, L, xs) (qi_aload 0 (qi_iload 3 (qi_ic (nI 3) (qi_iadd (qi_sld (b, L, xs) (qi_aload 0 (qi_iload 3 (qi_ic (nI 4) (qi_iadd (qi_sld (b, L, xs) (qi_callv 5 7 (600000, 7302250) (cq sp_Mo_alter) (qi_iceq (kc_Lw_law_778q (b, L, xs) Po k28) (qi_ic (nI 0) (qi_ret1)))))))))))))))))))))))))))))))))))))))))))))))
set_option maxRecDepth 20000 in
set_option maxHeartbeats 4000000 in
theorem cx_w6 {G : gg_G} {M : qa_M} {b L i : Nat} {xs : Nat → Int32} {u : Nat × Nat} {k28 : qa_K} (hR : rRel G M) (hi : 1 ≤ i) (hiL : i + 5 ≤ L) (hL : L ≤ 2561) (hu : qa_le u (600000, 7302250)) (hk : ∀ M2, rRel G M2 → k28 u [some (.ref b), some (.ref (G 12 0)), some (.ref (G 12 1)), some (.int (nI (i + 5)))] [] M2) (Po : Option Value → qa_M → Prop) : wc_6 b L xs Po k28 u [some (.ref b), some (.ref (G 12 0)), some (.ref (G 12 1)), some (.int (nI i))] [] M := by
  have hs := hR.1
  unfold wc_6
  repeat (first | (with_reducible apply ev_ic) | ((with_reducible apply ev_aload); (· exact rfl)) | ((with_reducible apply ev_iload); (· exact rfl)) | (with_reducible apply ev_iaddn) | (with_reducible apply ev_sln) | ((with_reducible apply ev_sld); (· omega); (· omega)) | (with_reducible apply ev_i2l) | (with_reducible apply ev_lshl) | (with_reducible apply ev_lc) | (with_reducible apply ev_land) | (with_reducible apply ev_lor) | dsimp only [qa_rs])
  refine ev_callv5 hs.kx (ev_rm rfl) hu ?_
  refine ⟨_, pq_alter hR _ _ _ _, ?_⟩
  rintro r M1 ⟨⟨v, rfl⟩, hk7, hmo⟩
  repeat (first | (with_reducible apply ev_ic) | ((with_reducible apply ev_aload); (· exact rfl)) | ((with_reducible apply ev_iload); (· exact rfl)) | (with_reducible apply ev_iaddn) | (with_reducible apply ev_sln) | ((with_reducible apply ev_sld); (· omega); (· omega)) | (with_reducible apply ev_i2l) | (with_reducible apply ev_lshl) | (with_reducible apply ev_lc) | (with_reducible apply ev_land) | (with_reducible apply ev_lor) | dsimp only [qa_rs])
  refine ev_callv5 hk7 (ev_rm rfl) hu ?_
  refine ⟨_, hmo, ?_⟩
  rintro r2 M2 ⟨rfl, hR2⟩
  dsimp only [qa_rs]
  refine ev_iceq_T rfl ?_
  unfold kc_Lw_law_778q
  refine ev_iincn rfl rfl ?_
  exact hk M2 hR2
def wc_7 (b L : Nat) (xs : Nat → Int32) (Po : Option Value → qa_M → Prop) (k28 : qa_K) : qa_K := (qi_aload 1 (qi_aload 0 (qi_iload 3 (qi_ic (nI 1) (qi_iadd (qi_sld (b, L, xs) (qi_aload 0 (qi_iload 3 (qi_ic (nI 2) (qi_iadd (qi_sld (b, L, xs) (qi_callv 3 1 (600000, 7302250) (cq sp_SR_cut) (qi_aload 2 (qi_aload 0 (qi_iload 3 (qi_ic (nI 1) (qi_iadd (qi_sld (b, L, xs) (qi_aload 0 (qi_iload 3 (qi_ic (nI 2) (qi_iadd (qi_sld (b, L, xs) (qi_callv 3 7 (600000, 7302250) (cq sp_Mo_cut) (qi_iceq (kc_Lw_law_778q (b, L, xs) Po k28) (qi_ic (nI 0) (qi_ret1)))))))))))))))))))))))))))
set_option maxRecDepth 20000 in
set_option maxHeartbeats 4000000 in
theorem cx_w7 {G : gg_G} {M : qa_M} {b L i : Nat} {xs : Nat → Int32} {u : Nat × Nat} {k28 : qa_K} (hR : rRel G M) (hi : 1 ≤ i) (hiL : i + 5 ≤ L) (hL : L ≤ 2561) (hu : qa_le u (600000, 7302250)) (hk : ∀ M2, rRel G M2 → k28 u [some (.ref b), some (.ref (G 12 0)), some (.ref (G 12 1)), some (.int (nI (i + 5)))] [] M2) (Po : Option Value → qa_M → Prop) : wc_7 b L xs Po k28 u [some (.ref b), some (.ref (G 12 0)), some (.ref (G 12 1)), some (.int (nI i))] [] M := by
  have hs := hR.1
  unfold wc_7
  repeat (first | (with_reducible apply ev_ic) | ((with_reducible apply ev_aload); (· exact rfl)) | ((with_reducible apply ev_iload); (· exact rfl)) | (with_reducible apply ev_iaddn) | (with_reducible apply ev_sln) | ((with_reducible apply ev_sld); (· omega); (· omega)) | (with_reducible apply ev_i2l) | (with_reducible apply ev_lshl) | (with_reducible apply ev_lc) | (with_reducible apply ev_land) | (with_reducible apply ev_lor) | dsimp only [qa_rs])
  refine ev_callv3 hs.kx (ev_rm rfl) hu ?_
  refine ⟨_, pq_cut hR _ _, ?_⟩
  rintro r M1 ⟨⟨v, rfl⟩, hk7, hmo⟩
  repeat (first | (with_reducible apply ev_ic) | ((with_reducible apply ev_aload); (· exact rfl)) | ((with_reducible apply ev_iload); (· exact rfl)) | (with_reducible apply ev_iaddn) | (with_reducible apply ev_sln) | ((with_reducible apply ev_sld); (· omega); (· omega)) | (with_reducible apply ev_i2l) | (with_reducible apply ev_lshl) | (with_reducible apply ev_lc) | (with_reducible apply ev_land) | (with_reducible apply ev_lor) | dsimp only [qa_rs])
  refine ev_callv3 hk7 (ev_rm rfl) hu ?_
  refine ⟨_, hmo, ?_⟩
  rintro r2 M2 ⟨rfl, hR2⟩
  dsimp only [qa_rs]
  refine ev_iceq_T rfl ?_
  unfold kc_Lw_law_778q
  refine ev_iincn rfl rfl ?_
  exact hk M2 hR2
def wc_8 (b L : Nat) (xs : Nat → Int32) (Po : Option Value → qa_M → Prop) (k28 : qa_K) : qa_K := (qi_aload 1 (qi_aload 0 (qi_iload 3 (qi_ic (nI 1) (qi_iadd (qi_sld (b, L, xs) (qi_aload 0 (qi_iload 3 (qi_ic (nI 2) (qi_iadd (qi_sld (b, L, xs) (qi_callv 3 1 (600000, 7302250) (cq sp_SR_lose) (qi_aload 2 (qi_aload 0 (qi_iload 3 (qi_ic (nI 1) (qi_iadd (qi_sld (b, L, xs) (qi_aload 0 (qi_iload 3 (qi_ic (nI 2) (qi_iadd (qi_sld (b, L, xs) (qi_callv 3 7 (600000, 7302250) (cq sp_Mo_lose) (qi_iceq (kc_Lw_law_778q (b, L, xs) Po k28) (qi_ic (nI 0) (qi_ret1)))))))))))))))))))))))))))
set_option maxRecDepth 20000 in
set_option maxHeartbeats 4000000 in
theorem cx_w8 {G : gg_G} {M : qa_M} {b L i : Nat} {xs : Nat → Int32} {u : Nat × Nat} {k28 : qa_K} (hR : rRel G M) (hi : 1 ≤ i) (hiL : i + 5 ≤ L) (hL : L ≤ 2561) (hu : qa_le u (600000, 7302250)) (hk : ∀ M2, rRel G M2 → k28 u [some (.ref b), some (.ref (G 12 0)), some (.ref (G 12 1)), some (.int (nI (i + 5)))] [] M2) (Po : Option Value → qa_M → Prop) : wc_8 b L xs Po k28 u [some (.ref b), some (.ref (G 12 0)), some (.ref (G 12 1)), some (.int (nI i))] [] M := by
  have hs := hR.1
  unfold wc_8
  repeat (first | (with_reducible apply ev_ic) | ((with_reducible apply ev_aload); (· exact rfl)) | ((with_reducible apply ev_iload); (· exact rfl)) | (with_reducible apply ev_iaddn) | (with_reducible apply ev_sln) | ((with_reducible apply ev_sld); (· omega); (· omega)) | (with_reducible apply ev_i2l) | (with_reducible apply ev_lshl) | (with_reducible apply ev_lc) | (with_reducible apply ev_land) | (with_reducible apply ev_lor) | dsimp only [qa_rs])
  refine ev_callv3 hs.kx (ev_rm rfl) hu ?_
  refine ⟨_, pq_lose hR _ _, ?_⟩
  rintro r M1 ⟨⟨v, rfl⟩, hk7, hmo⟩
  repeat (first | (with_reducible apply ev_ic) | ((with_reducible apply ev_aload); (· exact rfl)) | ((with_reducible apply ev_iload); (· exact rfl)) | (with_reducible apply ev_iaddn) | (with_reducible apply ev_sln) | ((with_reducible apply ev_sld); (· omega); (· omega)) | (with_reducible apply ev_i2l) | (with_reducible apply ev_lshl) | (with_reducible apply ev_lc) | (with_reducible apply ev_land) | (with_reducible apply ev_lor) | dsimp only [qa_rs])
  refine ev_callv3 hk7 (ev_rm rfl) hu ?_
  refine ⟨_, hmo, ?_⟩
  rintro r2 M2 ⟨rfl, hR2⟩
  dsimp only [qa_rs]
  refine ev_iceq_T rfl ?_
  unfold kc_Lw_law_778q
  refine ev_iincn rfl rfl ?_
  exact hk M2 hR2
def wc_9 (b L : Nat) (xs : Nat → Int32) (Po : Option Value → qa_M → Prop) (k28 : qa_K) : qa_K := (qi_aload 1 (qi_aload 0 (qi_iload 3 (qi_ic (nI 1) (qi_iadd (qi_sld (b, L, xs) (qi_aload 0 (qi_iload 3 (qi_ic (nI 2) (qi_iadd (qi_sld (b, L, xs) (qi_callv 3 1 (600000, 7302250) (cq sp_SR_copy) (qi_aload 2 (qi_aload 0 (qi_iload 3 (qi_ic (nI 1) (qi_iadd (qi_sld (b, L, xs) (qi_aload 0 (qi_iload 3 (qi_ic (nI 2) (qi_iadd (qi_sld (b, L, xs) (qi_callv 3 7 (600000, 7302250) (cq sp_Mo_copy) (qi_iceq (kc_Lw_law_778q (b, L, xs) Po k28) (qi_ic (nI 0) (qi_ret1)))))))))))))))))))))))))))
set_option maxRecDepth 20000 in
set_option maxHeartbeats 4000000 in
theorem cx_w9 {G : gg_G} {M : qa_M} {b L i : Nat} {xs : Nat → Int32} {u : Nat × Nat} {k28 : qa_K} (hR : rRel G M) (hi : 1 ≤ i) (hiL : i + 5 ≤ L) (hL : L ≤ 2561) (hu : qa_le u (600000, 7302250)) (hk : ∀ M2, rRel G M2 → k28 u [some (.ref b), some (.ref (G 12 0)), some (.ref (G 12 1)), some (.int (nI (i + 5)))] [] M2) (Po : Option Value → qa_M → Prop) : wc_9 b L xs Po k28 u [some (.ref b), some (.ref (G 12 0)), some (.ref (G 12 1)), some (.int (nI i))] [] M := by
  have hs := hR.1
  unfold wc_9
  repeat (first | (with_reducible apply ev_ic) | ((with_reducible apply ev_aload); (· exact rfl)) | ((with_reducible apply ev_iload); (· exact rfl)) | (with_reducible apply ev_iaddn) | (with_reducible apply ev_sln) | ((with_reducible apply ev_sld); (· omega); (· omega)) | (with_reducible apply ev_i2l) | (with_reducible apply ev_lshl) | (with_reducible apply ev_lc) | (with_reducible apply ev_land) | (with_reducible apply ev_lor) | dsimp only [qa_rs])
  refine ev_callv3 hs.kx (ev_rm rfl) hu ?_
  refine ⟨_, pq_copy hR _ _, ?_⟩
  rintro r M1 ⟨⟨v, rfl⟩, hk7, hmo⟩
  repeat (first | (with_reducible apply ev_ic) | ((with_reducible apply ev_aload); (· exact rfl)) | ((with_reducible apply ev_iload); (· exact rfl)) | (with_reducible apply ev_iaddn) | (with_reducible apply ev_sln) | ((with_reducible apply ev_sld); (· omega); (· omega)) | (with_reducible apply ev_i2l) | (with_reducible apply ev_lshl) | (with_reducible apply ev_lc) | (with_reducible apply ev_land) | (with_reducible apply ev_lor) | dsimp only [qa_rs])
  refine ev_callv3 hk7 (ev_rm rfl) hu ?_
  refine ⟨_, hmo, ?_⟩
  rintro r2 M2 ⟨rfl, hR2⟩
  dsimp only [qa_rs]
  refine ev_iceq_T rfl ?_
  unfold kc_Lw_law_778q
  refine ev_iincn rfl rfl ?_
  exact hk M2 hR2
def wc_10 (b L : Nat) (xs : Nat → Int32) (Po : Option Value → qa_M → Prop) (k28 : qa_K) : qa_K := (qi_aload 1 (qi_aload 0 (qi_iload 3 (qi_ic (nI 1) (qi_iadd (qi_sld (b, L, xs) (qi_aload 0 (qi_iload 3 (qi_ic (nI 2) (qi_iadd (qi_sld (b, L, xs) (qi_callv 3 1 (600000, 7302250) (cq sp_SR_swap) (qi_aload 2 (qi_aload 0 (qi_iload 3 (qi_ic (nI 1) (qi_iadd (qi_sld (b, L, xs) (qi_aload 0 (qi_iload 3 (qi_ic (nI 2) (qi_iadd (qi_sld (b, L, xs) (qi_callv 3 7 (600000, 7302250) (cq sp_Mo_swap) (qi_iceq (kc_Lw_law_778q (b, L, xs) Po k28) (qi_ic (nI 0) (qi_ret1)))))))))))))))))))))))))))
set_option maxRecDepth 20000 in
set_option maxHeartbeats 4000000 in
theorem cx_w10 {G : gg_G} {M : qa_M} {b L i : Nat} {xs : Nat → Int32} {u : Nat × Nat} {k28 : qa_K} (hR : rRel G M) (hi : 1 ≤ i) (hiL : i + 5 ≤ L) (hL : L ≤ 2561) (hu : qa_le u (600000, 7302250)) (hk : ∀ M2, rRel G M2 → k28 u [some (.ref b), some (.ref (G 12 0)), some (.ref (G 12 1)), some (.int (nI (i + 5)))] [] M2) (Po : Option Value → qa_M → Prop) : wc_10 b L xs Po k28 u [some (.ref b), some (.ref (G 12 0)), some (.ref (G 12 1)), some (.int (nI i))] [] M := by
  have hs := hR.1
  unfold wc_10
  repeat (first | (with_reducible apply ev_ic) | ((with_reducible apply ev_aload); (· exact rfl)) | ((with_reducible apply ev_iload); (· exact rfl)) | (with_reducible apply ev_iaddn) | (with_reducible apply ev_sln) | ((with_reducible apply ev_sld); (· omega); (· omega)) | (with_reducible apply ev_i2l) | (with_reducible apply ev_lshl) | (with_reducible apply ev_lc) | (with_reducible apply ev_land) | (with_reducible apply ev_lor) | dsimp only [qa_rs])
  refine ev_callv3 hs.kx (ev_rm rfl) hu ?_
  refine ⟨_, pq_swap hR _ _, ?_⟩
  rintro r M1 ⟨⟨v, rfl⟩, hk7, hmo⟩
  repeat (first | (with_reducible apply ev_ic) | ((with_reducible apply ev_aload); (· exact rfl)) | ((with_reducible apply ev_iload); (· exact rfl)) | (with_reducible apply ev_iaddn) | (with_reducible apply ev_sln) | ((with_reducible apply ev_sld); (· omega); (· omega)) | (with_reducible apply ev_i2l) | (with_reducible apply ev_lshl) | (with_reducible apply ev_lc) | (with_reducible apply ev_land) | (with_reducible apply ev_lor) | dsimp only [qa_rs])
  refine ev_callv3 hk7 (ev_rm rfl) hu ?_
  refine ⟨_, hmo, ?_⟩
  rintro r2 M2 ⟨rfl, hR2⟩
  dsimp only [qa_rs]
  refine ev_iceq_T rfl ?_
  unfold kc_Lw_law_778q
  refine ev_iincn rfl rfl ?_
  exact hk M2 hR2
def wc_11 (b L : Nat) (xs : Nat → Int32) (Po : Option Value → qa_M → Prop) (k28 : qa_K) : qa_K := (qi_aload 1 (qi_aload 0 (qi_iload 3 (qi_ic (nI 1) (qi_iadd (qi_sld (b, L, xs) (qi_aload 0 (qi_iload 3 (qi_ic (nI 2) (qi_iadd (qi_sld (b, L, xs) (qi_aload 0 (qi_iload 3 (qi_ic (nI 3) (qi_iadd (qi_sld (b, L, xs) (qi_aload 0 (qi_iload 3 (qi_ic (nI 4) (qi_iadd (qi_sld (b, L, xs) (qi_callv 5 1 (600000, 7302250) (cq sp_SR_inject) (qi_aload 2 (qi_aload 0 (qi_iload 3 (qi_ic (nI 1) (qi_iadd (qi_sld (b, L, xs) (qi_aload 0 (qi_iload 3 (qi_ic (nI 2) (qi_iadd (qi_sld (b, L, xs) (qi_aload 0 (qi_iload 3 (qi_ic (nI 3) (qi_iadd (qi_sld (b, L, xs) (qi_aload 0 (qi_iload 3 (qi_ic (nI 4) (qi_iadd (qi_sld (b, L, xs) (qi_callv 5 7 (600000, 7302250) (cq sp_Mo_inject) (qi_iceq (kc_Lw_law_778q (b, L, xs) Po k28) (qi_ic (nI 0) (qi_ret1)))))))))))))))))))))))))))))))))))))))))))))))
set_option maxRecDepth 20000 in
set_option maxHeartbeats 4000000 in
theorem cx_w11 {G : gg_G} {M : qa_M} {b L i : Nat} {xs : Nat → Int32} {u : Nat × Nat} {k28 : qa_K} (hR : rRel G M) (hi : 1 ≤ i) (hiL : i + 5 ≤ L) (hL : L ≤ 2561) (hu : qa_le u (600000, 7302250)) (hk : ∀ M2, rRel G M2 → k28 u [some (.ref b), some (.ref (G 12 0)), some (.ref (G 12 1)), some (.int (nI (i + 5)))] [] M2) (Po : Option Value → qa_M → Prop) : wc_11 b L xs Po k28 u [some (.ref b), some (.ref (G 12 0)), some (.ref (G 12 1)), some (.int (nI i))] [] M := by
  have hs := hR.1
  unfold wc_11
  repeat (first | (with_reducible apply ev_ic) | ((with_reducible apply ev_aload); (· exact rfl)) | ((with_reducible apply ev_iload); (· exact rfl)) | (with_reducible apply ev_iaddn) | (with_reducible apply ev_sln) | ((with_reducible apply ev_sld); (· omega); (· omega)) | (with_reducible apply ev_i2l) | (with_reducible apply ev_lshl) | (with_reducible apply ev_lc) | (with_reducible apply ev_land) | (with_reducible apply ev_lor) | dsimp only [qa_rs])
  refine ev_callv5 hs.kx (ev_rm rfl) hu ?_
  refine ⟨_, pq_inject hR _ _ _ _, ?_⟩
  rintro r M1 ⟨⟨v, rfl⟩, hk7, hmo⟩
  repeat (first | (with_reducible apply ev_ic) | ((with_reducible apply ev_aload); (· exact rfl)) | ((with_reducible apply ev_iload); (· exact rfl)) | (with_reducible apply ev_iaddn) | (with_reducible apply ev_sln) | ((with_reducible apply ev_sld); (· omega); (· omega)) | (with_reducible apply ev_i2l) | (with_reducible apply ev_lshl) | (with_reducible apply ev_lc) | (with_reducible apply ev_land) | (with_reducible apply ev_lor) | dsimp only [qa_rs])
  refine ev_callv5 hk7 (ev_rm rfl) hu ?_
  refine ⟨_, hmo, ?_⟩
  rintro r2 M2 ⟨rfl, hR2⟩
  dsimp only [qa_rs]
  refine ev_iceq_T rfl ?_
  unfold kc_Lw_law_778q
  refine ev_iincn rfl rfl ?_
  exact hk M2 hR2
def wc_12 (b L : Nat) (xs : Nat → Int32) (Po : Option Value → qa_M → Prop) (k28 : qa_K) : qa_K := (qi_aload 1 (qi_aload 0 (qi_iload 3 (qi_ic (nI 1) (qi_iadd (qi_sld (b, L, xs) (qi_callv 2 1 (600000, 7302250) (cq sp_SR_waiting) (qi_aload 2 (qi_aload 0 (qi_iload 3 (qi_ic (nI 1) (qi_iadd (qi_sld (b, L, xs) (qi_callv 2 7 (600000, 7302250) (cq sp_Mo_waiting) (qi_iceq (kc_Lw_law_778q (b, L, xs) Po k28) (qi_ic (nI 0) (qi_ret1)))))))))))))))))
set_option maxRecDepth 20000 in
set_option maxHeartbeats 4000000 in
theorem cx_w12 {G : gg_G} {M : qa_M} {b L i : Nat} {xs : Nat → Int32} {u : Nat × Nat} {k28 : qa_K} (hR : rRel G M) (hi : 1 ≤ i) (hiL : i + 5 ≤ L) (hL : L ≤ 2561) (hu : qa_le u (600000, 7302250)) (hk : ∀ M2, rRel G M2 → k28 u [some (.ref b), some (.ref (G 12 0)), some (.ref (G 12 1)), some (.int (nI (i + 5)))] [] M2) (Po : Option Value → qa_M → Prop) : wc_12 b L xs Po k28 u [some (.ref b), some (.ref (G 12 0)), some (.ref (G 12 1)), some (.int (nI i))] [] M := by
  have hs := hR.1
  unfold wc_12
  repeat (first | (with_reducible apply ev_ic) | ((with_reducible apply ev_aload); (· exact rfl)) | ((with_reducible apply ev_iload); (· exact rfl)) | (with_reducible apply ev_iaddn) | (with_reducible apply ev_sln) | ((with_reducible apply ev_sld); (· omega); (· omega)) | (with_reducible apply ev_i2l) | (with_reducible apply ev_lshl) | (with_reducible apply ev_lc) | (with_reducible apply ev_land) | (with_reducible apply ev_lor) | dsimp only [qa_rs])
  refine ev_callv2 hs.kx (ev_rm rfl) hu ?_
  refine ⟨_, pq_waiting hR _, ?_⟩
  rintro r M1 ⟨⟨v, rfl⟩, hk7, hmo⟩
  repeat (first | (with_reducible apply ev_ic) | ((with_reducible apply ev_aload); (· exact rfl)) | ((with_reducible apply ev_iload); (· exact rfl)) | (with_reducible apply ev_iaddn) | (with_reducible apply ev_sln) | ((with_reducible apply ev_sld); (· omega); (· omega)) | (with_reducible apply ev_i2l) | (with_reducible apply ev_lshl) | (with_reducible apply ev_lc) | (with_reducible apply ev_land) | (with_reducible apply ev_lor) | dsimp only [qa_rs])
  refine ev_callv2 hk7 (ev_rm rfl) hu ?_
  refine ⟨_, hmo, ?_⟩
  rintro r2 M2 ⟨rfl, hR2⟩
  dsimp only [qa_rs]
  refine ev_iceq_T rfl ?_
  unfold kc_Lw_law_778q
  refine ev_iincn rfl rfl ?_
  exact hk M2 hR2
def wc_13 (b L : Nat) (xs : Nat → Int32) (Po : Option Value → qa_M → Prop) (k28 : qa_K) : qa_K := (qi_aload 1 (qi_aload 0 (qi_iload 3 (qi_ic (nI 1) (qi_iadd (qi_sld (b, L, xs) (qi_aload 0 (qi_iload 3 (qi_ic (nI 2) (qi_iadd (qi_sld (b, L, xs) (qi_aload 0 (qi_iload 3 (qi_ic (nI 3) (qi_iadd (qi_sld (b, L, xs) (qi_callv 4 1 (600000, 7302250) (cq sp_SR_wire) (qi_aload 2 (qi_aload 0 (qi_iload 3 (qi_ic (nI 1) (qi_iadd (qi_sld (b, L, xs) (qi_aload 0 (qi_iload 3 (qi_ic (nI 2) (qi_iadd (qi_sld (b, L, xs) (qi_aload 0 (qi_iload 3 (qi_ic (nI 3) (qi_iadd (qi_sld (b, L, xs) (qi_callv 4 7 (600000, 7302250) (cq sp_Mo_wire) (qi_iceq (kc_Lw_law_778q (b, L, xs) Po k28) (qi_ic (nI 0) (qi_ret1)))))))))))))))))))))))))))))))))))))
set_option maxRecDepth 20000 in
set_option maxHeartbeats 4000000 in
theorem cx_w13 {G : gg_G} {M : qa_M} {b L i : Nat} {xs : Nat → Int32} {u : Nat × Nat} {k28 : qa_K} (hR : rRel G M) (hi : 1 ≤ i) (hiL : i + 5 ≤ L) (hL : L ≤ 2561) (hu : qa_le u (600000, 7302250)) (hk : ∀ M2, rRel G M2 → k28 u [some (.ref b), some (.ref (G 12 0)), some (.ref (G 12 1)), some (.int (nI (i + 5)))] [] M2) (Po : Option Value → qa_M → Prop) : wc_13 b L xs Po k28 u [some (.ref b), some (.ref (G 12 0)), some (.ref (G 12 1)), some (.int (nI i))] [] M := by
  have hs := hR.1
  unfold wc_13
  repeat (first | (with_reducible apply ev_ic) | ((with_reducible apply ev_aload); (· exact rfl)) | ((with_reducible apply ev_iload); (· exact rfl)) | (with_reducible apply ev_iaddn) | (with_reducible apply ev_sln) | ((with_reducible apply ev_sld); (· omega); (· omega)) | (with_reducible apply ev_i2l) | (with_reducible apply ev_lshl) | (with_reducible apply ev_lc) | (with_reducible apply ev_land) | (with_reducible apply ev_lor) | dsimp only [qa_rs])
  refine ev_callv4 hs.kx (ev_rm rfl) hu ?_
  refine ⟨_, pq_wire hR _ _ _, ?_⟩
  rintro r M1 ⟨⟨v, rfl⟩, hk7, hmo⟩
  repeat (first | (with_reducible apply ev_ic) | ((with_reducible apply ev_aload); (· exact rfl)) | ((with_reducible apply ev_iload); (· exact rfl)) | (with_reducible apply ev_iaddn) | (with_reducible apply ev_sln) | ((with_reducible apply ev_sld); (· omega); (· omega)) | (with_reducible apply ev_i2l) | (with_reducible apply ev_lshl) | (with_reducible apply ev_lc) | (with_reducible apply ev_land) | (with_reducible apply ev_lor) | dsimp only [qa_rs])
  refine ev_callv4 hk7 (ev_rm rfl) hu ?_
  refine ⟨_, hmo, ?_⟩
  rintro r2 M2 ⟨rfl, hR2⟩
  dsimp only [qa_rs]
  refine ev_iceq_T rfl ?_
  unfold kc_Lw_law_778q
  refine ev_iincn rfl rfl ?_
  exact hk M2 hR2
def wc_14 (b L : Nat) (xs : Nat → Int32) (Po : Option Value → qa_M → Prop) (k28 : qa_K) : qa_K := (qi_aload 1 (qi_aload 0 (qi_iload 3 (qi_ic (nI 1) (qi_iadd (qi_sld (b, L, xs) (qi_callv 2 1 (600000, 7302250) (cq sp_SR_items) (qi_aload 2 (qi_aload 0 (qi_iload 3 (qi_ic (nI 1) (qi_iadd (qi_sld (b, L, xs) (qi_callv 2 7 (600000, 7302250) (cq sp_Mo_items) (qi_iceq (kc_Lw_law_778q (b, L, xs) Po k28) (qi_ic (nI 0) (qi_ret1)))))))))))))))))
set_option maxRecDepth 20000 in
set_option maxHeartbeats 4000000 in
theorem cx_w14 {G : gg_G} {M : qa_M} {b L i : Nat} {xs : Nat → Int32} {u : Nat × Nat} {k28 : qa_K} (hR : rRel G M) (hi : 1 ≤ i) (hiL : i + 5 ≤ L) (hL : L ≤ 2561) (hu : qa_le u (600000, 7302250)) (hk : ∀ M2, rRel G M2 → k28 u [some (.ref b), some (.ref (G 12 0)), some (.ref (G 12 1)), some (.int (nI (i + 5)))] [] M2) (Po : Option Value → qa_M → Prop) : wc_14 b L xs Po k28 u [some (.ref b), some (.ref (G 12 0)), some (.ref (G 12 1)), some (.int (nI i))] [] M := by
  have hs := hR.1
  unfold wc_14
  repeat (first | (with_reducible apply ev_ic) | ((with_reducible apply ev_aload); (· exact rfl)) | ((with_reducible apply ev_iload); (· exact rfl)) | (with_reducible apply ev_iaddn) | (with_reducible apply ev_sln) | ((with_reducible apply ev_sld); (· omega); (· omega)) | (with_reducible apply ev_i2l) | (with_reducible apply ev_lshl) | (with_reducible apply ev_lc) | (with_reducible apply ev_land) | (with_reducible apply ev_lor) | dsimp only [qa_rs])
  refine ev_callv2 hs.kx (ev_rm rfl) hu ?_
  refine ⟨_, pq_items hR _, ?_⟩
  rintro r M1 ⟨⟨v, rfl⟩, hk7, hmo⟩
  repeat (first | (with_reducible apply ev_ic) | ((with_reducible apply ev_aload); (· exact rfl)) | ((with_reducible apply ev_iload); (· exact rfl)) | (with_reducible apply ev_iaddn) | (with_reducible apply ev_sln) | ((with_reducible apply ev_sld); (· omega); (· omega)) | (with_reducible apply ev_i2l) | (with_reducible apply ev_lshl) | (with_reducible apply ev_lc) | (with_reducible apply ev_land) | (with_reducible apply ev_lor) | dsimp only [qa_rs])
  refine ev_callv2 hk7 (ev_rm rfl) hu ?_
  refine ⟨_, hmo, ?_⟩
  rintro r2 M2 ⟨rfl, hR2⟩
  dsimp only [qa_rs]
  refine ev_iceq_T rfl ?_
  unfold kc_Lw_law_778q
  refine ev_iincn rfl rfl ?_
  exact hk M2 hR2
def wc_15 (b L : Nat) (xs : Nat → Int32) (Po : Option Value → qa_M → Prop) (k28 : qa_K) : qa_K := (qi_aload 1 (qi_aload 0 (qi_iload 3 (qi_ic (nI 1) (qi_iadd (qi_sld (b, L, xs) (qi_aload 0 (qi_iload 3 (qi_ic (nI 2) (qi_iadd (qi_sld (b, L, xs) (qi_callv 3 1 (600000, 7302250) (cq sp_SR_item) (qi_aload 2 (qi_aload 0 (qi_iload 3 (qi_ic (nI 1) (qi_iadd (qi_sld (b, L, xs) (qi_aload 0 (qi_iload 3 (qi_ic (nI 2) (qi_iadd (qi_sld (b, L, xs) (qi_callv 3 7 (600000, 7302250) (cq sp_Mo_item) (qi_iceq (kc_Lw_law_778q (b, L, xs) Po k28) (qi_ic (nI 0) (qi_ret1)))))))))))))))))))))))))))
set_option maxRecDepth 20000 in
set_option maxHeartbeats 4000000 in
theorem cx_w15 {G : gg_G} {M : qa_M} {b L i : Nat} {xs : Nat → Int32} {u : Nat × Nat} {k28 : qa_K} (hR : rRel G M) (hi : 1 ≤ i) (hiL : i + 5 ≤ L) (hL : L ≤ 2561) (hu : qa_le u (600000, 7302250)) (hk : ∀ M2, rRel G M2 → k28 u [some (.ref b), some (.ref (G 12 0)), some (.ref (G 12 1)), some (.int (nI (i + 5)))] [] M2) (Po : Option Value → qa_M → Prop) : wc_15 b L xs Po k28 u [some (.ref b), some (.ref (G 12 0)), some (.ref (G 12 1)), some (.int (nI i))] [] M := by
  have hs := hR.1
  unfold wc_15
  repeat (first | (with_reducible apply ev_ic) | ((with_reducible apply ev_aload); (· exact rfl)) | ((with_reducible apply ev_iload); (· exact rfl)) | (with_reducible apply ev_iaddn) | (with_reducible apply ev_sln) | ((with_reducible apply ev_sld); (· omega); (· omega)) | (with_reducible apply ev_i2l) | (with_reducible apply ev_lshl) | (with_reducible apply ev_lc) | (with_reducible apply ev_land) | (with_reducible apply ev_lor) | dsimp only [qa_rs])
  refine ev_callv3 hs.kx (ev_rm rfl) hu ?_
  refine ⟨_, pq_item hR _ _, ?_⟩
  rintro r M1 ⟨⟨v, rfl⟩, hk7, hmo⟩
  repeat (first | (with_reducible apply ev_ic) | ((with_reducible apply ev_aload); (· exact rfl)) | ((with_reducible apply ev_iload); (· exact rfl)) | (with_reducible apply ev_iaddn) | (with_reducible apply ev_sln) | ((with_reducible apply ev_sld); (· omega); (· omega)) | (with_reducible apply ev_i2l) | (with_reducible apply ev_lshl) | (with_reducible apply ev_lc) | (with_reducible apply ev_land) | (with_reducible apply ev_lor) | dsimp only [qa_rs])
  refine ev_callv3 hk7 (ev_rm rfl) hu ?_
  refine ⟨_, hmo, ?_⟩
  rintro r2 M2 ⟨rfl, hR2⟩
  dsimp only [qa_rs]
  refine ev_iceq_T rfl ?_
  unfold kc_Lw_law_778q
  refine ev_iincn rfl rfl ?_
  exact hk M2 hR2
def wc_16 (b L : Nat) (xs : Nat → Int32) (Po : Option Value → qa_M → Prop) (k28 : qa_K) : qa_K := (qi_aload 1 (qi_aload 0 (qi_iload 3 (qi_ic (nI 1) (qi_iadd (qi_sld (b, L, xs) (qi_callv 2 1 (600000, 7302250) (cq sp_SR_take) (qi_aload 2 (qi_aload 0 (qi_iload 3 (qi_ic (nI 1) (qi_iadd (qi_sld (b, L, xs) (qi_callv 2 7 (600000, 7302250) (cq sp_Mo_take) (qi_iceq (kc_Lw_law_778q (b, L, xs) Po k28) (qi_ic (nI 0) (qi_ret1)))))))))))))))))
set_option maxRecDepth 20000 in
set_option maxHeartbeats 4000000 in
theorem cx_w16 {G : gg_G} {M : qa_M} {b L i : Nat} {xs : Nat → Int32} {u : Nat × Nat} {k28 : qa_K} (hR : rRel G M) (hi : 1 ≤ i) (hiL : i + 5 ≤ L) (hL : L ≤ 2561) (hu : qa_le u (600000, 7302250)) (hk : ∀ M2, rRel G M2 → k28 u [some (.ref b), some (.ref (G 12 0)), some (.ref (G 12 1)), some (.int (nI (i + 5)))] [] M2) (Po : Option Value → qa_M → Prop) : wc_16 b L xs Po k28 u [some (.ref b), some (.ref (G 12 0)), some (.ref (G 12 1)), some (.int (nI i))] [] M := by
  have hs := hR.1
  unfold wc_16
  repeat (first | (with_reducible apply ev_ic) | ((with_reducible apply ev_aload); (· exact rfl)) | ((with_reducible apply ev_iload); (· exact rfl)) | (with_reducible apply ev_iaddn) | (with_reducible apply ev_sln) | ((with_reducible apply ev_sld); (· omega); (· omega)) | (with_reducible apply ev_i2l) | (with_reducible apply ev_lshl) | (with_reducible apply ev_lc) | (with_reducible apply ev_land) | (with_reducible apply ev_lor) | dsimp only [qa_rs])
  refine ev_callv2 hs.kx (ev_rm rfl) hu ?_
  refine ⟨_, pq_take hR _, ?_⟩
  rintro r M1 ⟨⟨v, rfl⟩, hk7, hmo⟩
  repeat (first | (with_reducible apply ev_ic) | ((with_reducible apply ev_aload); (· exact rfl)) | ((with_reducible apply ev_iload); (· exact rfl)) | (with_reducible apply ev_iaddn) | (with_reducible apply ev_sln) | ((with_reducible apply ev_sld); (· omega); (· omega)) | (with_reducible apply ev_i2l) | (with_reducible apply ev_lshl) | (with_reducible apply ev_lc) | (with_reducible apply ev_land) | (with_reducible apply ev_lor) | dsimp only [qa_rs])
  refine ev_callv2 hk7 (ev_rm rfl) hu ?_
  refine ⟨_, hmo, ?_⟩
  rintro r2 M2 ⟨rfl, hR2⟩
  dsimp only [qa_rs]
  refine ev_iceq_T rfl ?_
  unfold kc_Lw_law_778q
  refine ev_iincn rfl rfl ?_
  exact hk M2 hR2
def wc_17 (b L : Nat) (xs : Nat → Int32) (Po : Option Value → qa_M → Prop) (k28 : qa_K) : qa_K := (qi_aload 1 (qi_aload 0 (qi_iload 3 (qi_ic (nI 1) (qi_iadd (qi_sld (b, L, xs) (qi_aload 0 (qi_iload 3 (qi_ic (nI 2) (qi_iadd (qi_sld (b, L, xs) (qi_callv 3 1 (600000, 7302250) (cq sp_SR_look) (qi_aload 2 (qi_aload 0 (qi_iload 3 (qi_ic (nI 1) (qi_iadd (qi_sld (b, L, xs) (qi_aload 0 (qi_iload 3 (qi_ic (nI 2) (qi_iadd (qi_sld (b, L, xs) (qi_callv 3 7 (600000, 7302250) (cq sp_Mo_look) (qi_iceq (kc_Lw_law_778q (b, L, xs) Po k28) (qi_ic (nI 0) (qi_ret1)))))))))))))))))))))))))))
set_option maxRecDepth 20000 in
set_option maxHeartbeats 4000000 in
theorem cx_w17 {G : gg_G} {M : qa_M} {b L i : Nat} {xs : Nat → Int32} {u : Nat × Nat} {k28 : qa_K} (hR : rRel G M) (hi : 1 ≤ i) (hiL : i + 5 ≤ L) (hL : L ≤ 2561) (hu : qa_le u (600000, 7302250)) (hk : ∀ M2, rRel G M2 → k28 u [some (.ref b), some (.ref (G 12 0)), some (.ref (G 12 1)), some (.int (nI (i + 5)))] [] M2) (Po : Option Value → qa_M → Prop) : wc_17 b L xs Po k28 u [some (.ref b), some (.ref (G 12 0)), some (.ref (G 12 1)), some (.int (nI i))] [] M := by
  have hs := hR.1
  unfold wc_17
  repeat (first | (with_reducible apply ev_ic) | ((with_reducible apply ev_aload); (· exact rfl)) | ((with_reducible apply ev_iload); (· exact rfl)) | (with_reducible apply ev_iaddn) | (with_reducible apply ev_sln) | ((with_reducible apply ev_sld); (· omega); (· omega)) | (with_reducible apply ev_i2l) | (with_reducible apply ev_lshl) | (with_reducible apply ev_lc) | (with_reducible apply ev_land) | (with_reducible apply ev_lor) | dsimp only [qa_rs])
  refine ev_callv3 hs.kx (ev_rm rfl) hu ?_
  refine ⟨_, pq_look hR _ _, ?_⟩
  rintro r M1 ⟨⟨v, rfl⟩, hk7, hmo⟩
  repeat (first | (with_reducible apply ev_ic) | ((with_reducible apply ev_aload); (· exact rfl)) | ((with_reducible apply ev_iload); (· exact rfl)) | (with_reducible apply ev_iaddn) | (with_reducible apply ev_sln) | ((with_reducible apply ev_sld); (· omega); (· omega)) | (with_reducible apply ev_i2l) | (with_reducible apply ev_lshl) | (with_reducible apply ev_lc) | (with_reducible apply ev_land) | (with_reducible apply ev_lor) | dsimp only [qa_rs])
  refine ev_callv3 hk7 (ev_rm rfl) hu ?_
  refine ⟨_, hmo, ?_⟩
  rintro r2 M2 ⟨rfl, hR2⟩
  dsimp only [qa_rs]
  refine ev_iceq_T rfl ?_
  unfold kc_Lw_law_778q
  refine ev_iincn rfl rfl ?_
  exact hk M2 hR2
set_option maxRecDepth 20000 in
set_option maxHeartbeats 4000000 in
theorem cx_loop {G : gg_G} {M : qa_M} {b L : Nat} {xs : Nat → Int32} {u : Nat × Nat} (Po : Option Value → qa_M → Prop) (hR : rRel G M) (hL : L ≤ 2561) (hu : qa_le u (600000, 7302250)) : kc_Lw_law_28q (b, L, xs) Po u [some (.ref b), some (.ref (G 12 0)), some (.ref (G 12 1)), some (.int (nI 1))] [] M := by
  unfold kc_Lw_law_28q
  refine ev_loop (fun q => fun u lv st M2 => ∃ i, 1 ≤ i ∧ i ≤ 2600 ∧ q = 3000 - i ∧ qa_le u (600000, 7302250) ∧ lv = [some (.ref b), some (.ref (G 12 0)), some (.ref (G 12 1)), some (.int (nI i))] ∧ st = [] ∧ rRel G M2) 2999 ⟨1, by omega, by omega, rfl, hu, rfl, rfl, hR⟩ ?_
  clear hR hu
  rintro q u lv st M2 ⟨i, h1, h2, rfl, hu, rfl, rfl, hR⟩
  unfold kb_Lw_law_28q
  repeat (first | (with_reducible apply ev_ic) | ((with_reducible apply ev_aload); (· exact rfl)) | ((with_reducible apply ev_iload); (· exact rfl)) | (with_reducible apply ev_iaddn) | (with_reducible apply ev_sln) | ((with_reducible apply ev_sld); (· omega); (· omega)) | (with_reducible apply ev_i2l) | (with_reducible apply ev_lshl) | (with_reducible apply ev_lc) | (with_reducible apply ev_land) | (with_reducible apply ev_lor) | dsimp only [qa_rs])
  by_cases h5 : 5 ≤ L
  · refine ev_isubn h5 ?_
    by_cases hi : i ≤ L - 5
    · refine ev_icgt_f (by omega) ?_
      repeat (first | (with_reducible apply ev_ic) | ((with_reducible apply ev_aload); (· exact rfl)) | ((with_reducible apply ev_iload); (· exact rfl)) | (with_reducible apply ev_iaddn) | (with_reducible apply ev_sln) | ((with_reducible apply ev_sld); (· omega); (· omega)) | (with_reducible apply ev_i2l) | (with_reducible apply ev_lshl) | (with_reducible apply ev_lc) | (with_reducible apply ev_land) | (with_reducible apply ev_lor) | dsimp only [qa_rs])
      refine ev_iand ?_
      obtain ⟨k, hk, e⟩ := an_31 (xs i)
      rw [e]
      have hK : ∀ M3, rRel G M3 → ((fun u lv st M => ∃ n2, n2 < 3000 - i ∧ ∃ i, 1 ≤ i ∧ i ≤ 2600 ∧ n2 = 3000 - i ∧ qa_le u (600000, 7302250) ∧ lv = [some (.ref b), some (.ref (G 12 0)), some (.ref (G 12 1)), some (.int (nI i))] ∧ st = [] ∧ rRel G M) : qa_K) u [some (.ref b), some (.ref (G 12 0)), some (.ref (G 12 1)), some (.int (nI (i + 5)))] [] M3 := fun M3 hR3 => ⟨3000 - (i + 5), by omega, i + 5, by omega, by omega, rfl, hu, rfl, rfl, hR3⟩
      rcases (show k = 0 ∨ k = 1 ∨ k = 2 ∨ k = 3 ∨ k = 4 ∨ k = 5 ∨ k = 6 ∨ k = 7 ∨ k = 8 ∨ k = 9 ∨ k = 10 ∨ k = 11 ∨ k = 12 ∨ k = 13 ∨ k = 14 ∨ k = 15 ∨ k = 16 ∨ k = 17 ∨ 18 ≤ k by omega) with rfl | rfl | rfl | rfl | rfl | rfl | rfl | rfl | rfl | rfl | rfl | rfl | rfl | rfl | rfl | rfl | rfl | rfl | hk18
      · exact tw_in 0 rfl rfl (by decide) (cx_w0 hR h1 (by omega) hL hu hK Po)
      · exact tw_in 1 rfl rfl (by decide) (cx_w1 hR h1 (by omega) hL hu hK Po)
      · exact tw_in 2 rfl rfl (by decide) (cx_w2 hR h1 (by omega) hL hu hK Po)
      · exact tw_in 3 rfl rfl (by decide) (cx_w3 hR h1 (by omega) hL hu hK Po)
      · exact tw_in 4 rfl rfl (by decide) (cx_w4 hR h1 (by omega) hL hu hK Po)
      · exact tw_in 5 rfl rfl (by decide) (cx_w5 hR h1 (by omega) hL hu hK Po)
      · exact tw_in 6 rfl rfl (by decide) (cx_w6 hR h1 (by omega) hL hu hK Po)
      · exact tw_in 7 rfl rfl (by decide) (cx_w7 hR h1 (by omega) hL hu hK Po)
      · exact tw_in 8 rfl rfl (by decide) (cx_w8 hR h1 (by omega) hL hu hK Po)
      · exact tw_in 9 rfl rfl (by decide) (cx_w9 hR h1 (by omega) hL hu hK Po)
      · exact tw_in 10 rfl rfl (by decide) (cx_w10 hR h1 (by omega) hL hu hK Po)
      · exact tw_in 11 rfl rfl (by decide) (cx_w11 hR h1 (by omega) hL hu hK Po)
      · exact tw_in 12 rfl rfl (by decide) (cx_w12 hR h1 (by omega) hL hu hK Po)
      · exact tw_in 13 rfl rfl (by decide) (cx_w13 hR h1 (by omega) hL hu hK Po)
      · exact tw_in 14 rfl rfl (by decide) (cx_w14 hR h1 (by omega) hL hu hK Po)
      · exact tw_in 15 rfl rfl (by decide) (cx_w15 hR h1 (by omega) hL hu hK Po)
      · exact tw_in 16 rfl rfl (by decide) (cx_w16 hR h1 (by omega) hL hu hK Po)
      · exact tw_in 17 rfl rfl (by decide) (cx_w17 hR h1 (by omega) hL hu hK Po)
      · refine tw_out (Or.inr ?_) ?_
        · show (0 : Int) + ((18 : Nat) : Int) ≤ (nI k).toInt
          rw [nI_toInt (by omega)]
          omega
        · unfold kc_Lw_law_778q
          refine ev_iincn rfl rfl ?_
          exact hK M2 hR
    · refine ev_icgt_t (by omega) ?_
      repeat (first | (with_reducible apply ev_ic) | ((with_reducible apply ev_aload); (· exact rfl)) | ((with_reducible apply ev_iload); (· exact rfl)) | (with_reducible apply ev_iaddn) | (with_reducible apply ev_sln) | ((with_reducible apply ev_sld); (· omega); (· omega)) | (with_reducible apply ev_i2l) | (with_reducible apply ev_lshl) | (with_reducible apply ev_lc) | (with_reducible apply ev_land) | (with_reducible apply ev_lor) | dsimp only [qa_rs])
      exact ⟨rfl, hu⟩
  · refine ev_isub ?_
    refine ev_icgt_T ?_ ?_
    · have e1 := ll_5 L (by omega)
      have e2 : (0 : Int32) ≤ nI i := nI_pos' (by omega)
      rw [Int32.lt_iff_toInt_lt] at e1 ⊢
      rw [Int32.le_iff_toInt_le] at e2
      omega
    · repeat (first | (with_reducible apply ev_ic) | ((with_reducible apply ev_aload); (· exact rfl)) | ((with_reducible apply ev_iload); (· exact rfl)) | (with_reducible apply ev_iaddn) | (with_reducible apply ev_sln) | ((with_reducible apply ev_sld); (· omega); (· omega)) | (with_reducible apply ev_i2l) | (with_reducible apply ev_lshl) | (with_reducible apply ev_lc) | (with_reducible apply ev_land) | (with_reducible apply ev_lor) | dsimp only [qa_rs])
      exact ⟨rfl, hu⟩
set_option maxRecDepth 20000 in
set_option maxHeartbeats 4000000 in
theorem cx_law (b L : Nat) (xs : Nat → Int32) (hL : L ≤ 2561) : kc_Lw_law_0q (b, L, xs) (fun _ _ => True) (0, 0) [some (.ref b), none, none, none] [] qa_M0 := by
  unfold kc_Lw_law_0q
  refine ⟨⟨by decide, by decide⟩, fun x hx => ?_⟩
  have hJ := jm_first (a := x) (c := 1) (by omega)
  generalize qa_nw qa_M0 1 x = M1 at hJ ⊢
  repeat (first | (with_reducible apply ev_ic) | ((with_reducible apply ev_aload); (· exact rfl)) | ((with_reducible apply ev_iload); (· exact rfl)) | ((with_reducible apply ev_istore); (· exact rfl)) | ((with_reducible apply ev_astore); (· exact rfl)) | (with_reducible apply ev_dup_r) | dsimp only [qa_rs])
  refine ev_call2 (ev_rm rfl) ⟨by decide, by decide⟩ ?_
  refine cl_cell hL ?_
  dsimp only [qa_rs]
  refine ev_callm2 (ev_rm rfl) (by decide) ?_
  refine cx_SR hJ rfl ?_
  intro M2 ad2 hJ2 hE2
  repeat (first | (with_reducible apply ev_ic) | ((with_reducible apply ev_aload); (· exact rfl)) | ((with_reducible apply ev_iload); (· exact rfl)) | ((with_reducible apply ev_istore); (· exact rfl)) | ((with_reducible apply ev_astore); (· exact rfl)) | (with_reducible apply ev_dup_r) | dsimp only [qa_rs])
  refine ev_newJ hJ2 (by omega) (by decide) (by decide) (by decide) ?_
  intro m M3 ad3 hJ3 hm hkm hE3
  repeat (first | (with_reducible apply ev_ic) | ((with_reducible apply ev_aload); (· exact rfl)) | ((with_reducible apply ev_iload); (· exact rfl)) | ((with_reducible apply ev_istore); (· exact rfl)) | ((with_reducible apply ev_astore); (· exact rfl)) | (with_reducible apply ev_dup_r) | dsimp only [qa_rs])
  refine ev_call2 (ev_rm rfl) ⟨by decide, by decide⟩ ?_
  refine cl_cell hL ?_
  dsimp only [qa_rs]
  refine ev_callm2 (ev_rm rfl) (by decide) ?_
  refine cx_Mo hJ3 hm ?_
  intro M4 ad4 hJ4 hE4 h192
  repeat (first | (with_reducible apply ev_ic) | ((with_reducible apply ev_aload); (· exact rfl)) | ((with_reducible apply ev_iload); (· exact rfl)) | ((with_reducible apply ev_istore); (· exact rfl)) | ((with_reducible apply ev_astore); (· exact rfl)) | (with_reducible apply ev_dup_r) | dsimp only [qa_rs])
  have a0 : ad4 0 = x := by rw [(hE4 0 (by omega)).1, (hE3 0 (by omega)).1, (hE2 0 (by omega)).1]
  have am : ad4 140 = m := by rw [(hE4 140 (by omega)).1, hm]
  obtain ⟨la, hla⟩ := la_ex hJ4.2.1
  have hR := rl_start hla hJ4 (by rw [am]; exact h192)
  have g0 : gG ad4 la 12 0 = x := a0
  have g1 : gG ad4 la 12 1 = m := am
  rw [← g0, ← g1]
  exact cx_loop (G := gG ad4 la) _ hR hL ⟨by decide, by decide⟩
theorem whole_start {p : Program} {e : Env} {s : State} {m : MethodId} {below : List Frame} {meth : Method} {c : Code} (l : Launch) {b L : Nat} {xs : Nat → Int32} (hL : L ≤ 2561) (C0 : lw_At p s m meth c b L xs) : W p l e room_1 s m #[Value.ref b] below meth c s.heap [] 0 0 (lw_Z below #[Value.ref b] s) (entryFrame m ([Value.ref b] : List Value).toArray 4) := qa_startq l C0 (cx_law b L xs hL)
