section EV
variable {u : Nat × Nat} {lv : qa_L} {st : List Value} {M : qa_M} {k kt kf : qa_K}
theorem ev_ic {v : Int32} (hk : k u lv (.int v :: st) M) : qi_ic v k u lv st M := hk
theorem ev_lc {v : Int64} (hk : k u lv (.long v :: st) M) : qi_lc v k u lv st M := hk
theorem ev_iload {i : Nat} {x : Int32} (h : qa_gt lv i = some (.int x)) (hk : k u lv (.int x :: st) M) : qi_iload i k u lv st M := by
  unfold qi_iload qv_gi
  rw [h]
  exact hk
theorem ev_istore {i : Nat} {x : Int32} {lv2 : qa_L} (h : qa_u1 lv i (.int x) = lv2) (hk : k u lv2 st M) : qi_istore i k u lv (.int x :: st) M := by
  subst h
  exact hk
theorem ev_lload {i : Nat} {x : Int64} (h : qa_gt lv i = some (.long x)) (hk : k u lv (.long x :: st) M) : qi_lload i k u lv st M := by
  unfold qi_lload qv_gl
  rw [h]
  exact hk
theorem ev_lstore {i : Nat} {x : Int64} {lv2 : qa_L} (h : qa_u2 lv i (.long x) = lv2) (hk : k u lv2 st M) : qi_lstore i k u lv (.long x :: st) M := by
  subst h
  exact hk
theorem ev_aload {i : Nat} {x : Nat} (h : qa_gt lv i = some (.ref x)) (hk : k u lv (.ref x :: st) M) : qi_aload i k u lv st M := by
  unfold qi_aload qv_gr
  rw [h]
  exact hk
theorem ev_astore {i : Nat} {x : Nat} {lv2 : qa_L} (h : qa_u1 lv i (.ref x) = lv2) (hk : k u lv2 st M) : qi_astore i k u lv (.ref x :: st) M := by
  subst h
  exact hk
theorem ev_iincn {i a b : Nat} {lv2 : qa_L} (h : qa_gt lv i = some (.int (nI a))) (h2 : qa_u1 lv i (.int (nI (a + b))) = lv2) (hk : k u lv2 st M) : qi_iinc i (nI b) k u lv st M := by
  unfold qi_iinc qv_gi
  rw [h]
  subst h2
  rw [← nI_add] at hk
  exact hk
theorem ev_iadd {x y : Int32} (hk : k u lv (.int (x + y) :: st) M) : qi_iadd k u lv (.int y :: .int x :: st) M := hk
theorem ev_isub {x y : Int32} (hk : k u lv (.int (x - y) :: st) M) : qi_isub k u lv (.int y :: .int x :: st) M := hk
theorem ev_imul {x y : Int32} (hk : k u lv (.int (x * y) :: st) M) : qi_imul k u lv (.int y :: .int x :: st) M := hk
theorem ev_iand {x y : Int32} (hk : k u lv (.int (x &&& y) :: st) M) : qi_iand k u lv (.int y :: .int x :: st) M := hk
theorem ev_ior {x y : Int32} (hk : k u lv (.int (x ||| y) :: st) M) : qi_ior k u lv (.int y :: .int x :: st) M := hk
theorem ev_ixor {x y : Int32} (hk : k u lv (.int (x ^^^ y) :: st) M) : qi_ixor k u lv (.int y :: .int x :: st) M := hk
theorem ev_iaddn {a b : Nat} (hk : k u lv (.int (nI (a + b)) :: st) M) : qi_iadd k u lv (.int (nI b) :: .int (nI a) :: st) M := by
  rw [← nI_add] at hk
  exact hk
theorem ev_imuln {a b : Nat} (hk : k u lv (.int (nI (a * b)) :: st) M) : qi_imul k u lv (.int (nI b) :: .int (nI a) :: st) M := by
  rw [← nn_mul] at hk
  exact hk
theorem ev_isubn {a b : Nat} (h : b ≤ a) (hk : k u lv (.int (nI (a - b)) :: st) M) : qi_isub k u lv (.int (nI b) :: .int (nI a) :: st) M := by
  rw [← nn_sub h] at hk
  exact hk
theorem ev_ladd {x y : Int64} (hk : k u lv (.long (x + y) :: st) M) : qi_ladd k u lv (.long y :: .long x :: st) M := hk
theorem ev_lsub {x y : Int64} (hk : k u lv (.long (x - y) :: st) M) : qi_lsub k u lv (.long y :: .long x :: st) M := hk
theorem ev_lmul {x y : Int64} (hk : k u lv (.long (x * y) :: st) M) : qi_lmul k u lv (.long y :: .long x :: st) M := hk
theorem ev_land {x y : Int64} (hk : k u lv (.long (x &&& y) :: st) M) : qi_land k u lv (.long y :: .long x :: st) M := hk
theorem ev_lor {x y : Int64} (hk : k u lv (.long (x ||| y) :: st) M) : qi_lor k u lv (.long y :: .long x :: st) M := hk
theorem ev_lxor {x y : Int64} (hk : k u lv (.long (x ^^^ y) :: st) M) : qi_lxor k u lv (.long y :: .long x :: st) M := hk
theorem ev_lushr {x : Int64} {y : Int32} (hk : k u lv (.long ((x.toUInt64 >>> (y.toInt64.toUInt64 &&& Int64.toUInt64 63)).toInt64) :: st) M) : qi_lushr k u lv (.int y :: .long x :: st) M := hk
theorem ev_lshl {x : Int64} {y : Int32} (hk : k u lv (.long (x <<< (y.toInt64 &&& 63)) :: st) M) : qi_lshl k u lv (.int y :: .long x :: st) M := hk
theorem ev_lcmp {x y : Int64} (hk : k u lv (.int (lg_cmp x y) :: st) M) : qi_lcmp k u lv (.long y :: .long x :: st) M := hk
theorem ev_i2l {x : Int32} (hk : k u lv (.long x.toInt64 :: st) M) : qi_i2l k u lv (.int x :: st) M := hk
theorem ev_l2i {x : Int64} (hk : k u lv (.int x.toInt32 :: st) M) : qi_l2i k u lv (.long x :: st) M := hk
theorem ev_dup_i {x : Int32} (hk : k u lv (.int x :: .int x :: st) M) : qi_dup k u lv (.int x :: st) M := hk
theorem ev_pop_i {x : Int32} (hk : k u lv st M) : qi_pop k u lv (.int x :: st) M := hk
theorem ev_dup_x1_ii {x : Int32} {y : Int32} (hk : k u lv (.int x :: .int y :: .int x :: st) M) : qi_dup_x1 k u lv (.int x :: .int y :: st) M := hk
theorem ev_dup2_ii {x : Int32} {y : Int32} (hk : k u lv (.int x :: .int y :: .int x :: .int y :: st) M) : qi_dup2 k u lv (.int x :: .int y :: st) M := hk
theorem ev_dup_x1_ir {x : Int32} {y : Nat} (hk : k u lv (.int x :: .ref y :: .int x :: st) M) : qi_dup_x1 k u lv (.int x :: .ref y :: st) M := hk
theorem ev_dup2_ir {x : Int32} {y : Nat} (hk : k u lv (.int x :: .ref y :: .int x :: .ref y :: st) M) : qi_dup2 k u lv (.int x :: .ref y :: st) M := hk
theorem ev_dup_r {x : Nat} (hk : k u lv (.ref x :: .ref x :: st) M) : qi_dup k u lv (.ref x :: st) M := hk
theorem ev_pop_r {x : Nat} (hk : k u lv st M) : qi_pop k u lv (.ref x :: st) M := hk
theorem ev_dup_x1_ri {x : Nat} {y : Int32} (hk : k u lv (.ref x :: .int y :: .ref x :: st) M) : qi_dup_x1 k u lv (.ref x :: .int y :: st) M := hk
theorem ev_dup2_ri {x : Nat} {y : Int32} (hk : k u lv (.ref x :: .int y :: .ref x :: .int y :: st) M) : qi_dup2 k u lv (.ref x :: .int y :: st) M := hk
theorem ev_dup_x1_rr {x : Nat} {y : Nat} (hk : k u lv (.ref x :: .ref y :: .ref x :: st) M) : qi_dup_x1 k u lv (.ref x :: .ref y :: st) M := hk
theorem ev_dup2_rr {x : Nat} {y : Nat} (hk : k u lv (.ref x :: .ref y :: .ref x :: .ref y :: st) M) : qi_dup2 k u lv (.ref x :: .ref y :: st) M := hk
theorem ev_ifeq_T {x : Int32} (h : x = 0) (hk : kt u lv st M) : qi_ifeq kt kf u lv (.int x :: st) M := ⟨fun _ => hk, fun q => absurd h q⟩
theorem ev_ifeq_F {x : Int32} (h : ¬ x = 0) (hk : kf u lv st M) : qi_ifeq kt kf u lv (.int x :: st) M := ⟨fun q => absurd q h, fun _ => hk⟩
theorem ev_ifeq_t {a : Nat} (h : a = 0) (hk : kt u lv st M) : qi_ifeq kt kf u lv (.int (nI a) :: st) M := ev_ifeq_T (by rw [h]; rfl) hk
theorem ev_ifeq_f {a : Nat} (h : 0 < a ∧ a < 2147483648) (hk : kf u lv st M) : qi_ifeq kt kf u lv (.int (nI a) :: st) M := ev_ifeq_F (nI_ne0 h.1 h.2) hk
theorem ev_ifne_T {x : Int32} (h : ¬ x = 0) (hk : kt u lv st M) : qi_ifne kt kf u lv (.int x :: st) M := ⟨fun _ => hk, fun q => absurd q h⟩
theorem ev_ifne_F {x : Int32} (h : x = 0) (hk : kf u lv st M) : qi_ifne kt kf u lv (.int x :: st) M := ⟨fun q => absurd h q, fun _ => hk⟩
theorem ev_ifne_t {a : Nat} (h : 0 < a ∧ a < 2147483648) (hk : kt u lv st M) : qi_ifne kt kf u lv (.int (nI a) :: st) M := ev_ifne_T (nI_ne0 h.1 h.2) hk
theorem ev_ifne_f {a : Nat} (h : a = 0) (hk : kf u lv st M) : qi_ifne kt kf u lv (.int (nI a) :: st) M := ev_ifne_F (by rw [h]; rfl) hk
theorem ev_iflt_T {x : Int32} (h : x < 0) (hk : kt u lv st M) : qi_iflt kt kf u lv (.int x :: st) M := ⟨fun _ => hk, fun q => absurd h q⟩
theorem ev_iflt_F {x : Int32} (h : ¬ x < 0) (hk : kf u lv st M) : qi_iflt kt kf u lv (.int x :: st) M := ⟨fun q => absurd q h, fun _ => hk⟩
theorem ev_iflt_f {a : Nat} (h : a < 2147483648) (hk : kf u lv st M) : qi_iflt kt kf u lv (.int (nI a) :: st) M := ev_iflt_F (nI_pos h) hk
theorem ev_ifge_T {x : Int32} (h : 0 ≤ x) (hk : kt u lv st M) : qi_ifge kt kf u lv (.int x :: st) M := ⟨fun _ => hk, fun q => absurd h q⟩
theorem ev_ifge_F {x : Int32} (h : ¬ 0 ≤ x) (hk : kf u lv st M) : qi_ifge kt kf u lv (.int x :: st) M := ⟨fun q => absurd q h, fun _ => hk⟩
theorem ev_ifge_t {a : Nat} (h : a < 2147483648) (hk : kt u lv st M) : qi_ifge kt kf u lv (.int (nI a) :: st) M := ev_ifge_T (nI_pos' h) hk
theorem ev_ifgt_T {x : Int32} (h : 0 < x) (hk : kt u lv st M) : qi_ifgt kt kf u lv (.int x :: st) M := ⟨fun _ => hk, fun q => absurd h q⟩
theorem ev_ifgt_F {x : Int32} (h : ¬ 0 < x) (hk : kf u lv st M) : qi_ifgt kt kf u lv (.int x :: st) M := ⟨fun q => absurd q h, fun _ => hk⟩
theorem ev_ifgt_t {a : Nat} (h : 0 < a ∧ a < 2147483648) (hk : kt u lv st M) : qi_ifgt kt kf u lv (.int (nI a) :: st) M := ev_ifgt_T (nI_lt (a := 0) h.1 h.2) hk
theorem ev_ifgt_f {a : Nat} (h : a = 0) (hk : kf u lv st M) : qi_ifgt kt kf u lv (.int (nI a) :: st) M := ev_ifgt_F (by rw [h]; exact nI_nlt (a := 0) (b := 0) (Nat.le_refl 0) (by decide)) hk
theorem ev_ifle_T {x : Int32} (h : x ≤ 0) (hk : kt u lv st M) : qi_ifle kt kf u lv (.int x :: st) M := ⟨fun _ => hk, fun q => absurd h q⟩
theorem ev_ifle_F {x : Int32} (h : ¬ x ≤ 0) (hk : kf u lv st M) : qi_ifle kt kf u lv (.int x :: st) M := ⟨fun q => absurd q h, fun _ => hk⟩
theorem ev_ifle_t {a : Nat} (h : a = 0) (hk : kt u lv st M) : qi_ifle kt kf u lv (.int (nI a) :: st) M := ev_ifle_T (by rw [h]; exact Int32.le_refl 0) hk
theorem ev_ifle_f {a : Nat} (h : 0 < a ∧ a < 2147483648) (hk : kf u lv st M) : qi_ifle kt kf u lv (.int (nI a) :: st) M := ev_ifle_F (nI_ge (a := 0) h.1 h.2) hk
theorem ev_iceq_T {x y : Int32} (h : x = y) (hk : kt u lv st M) : qi_iceq kt kf u lv (.int y :: .int x :: st) M := ⟨fun _ => hk, fun q => absurd h q⟩
theorem ev_iceq_F {x y : Int32} (h : ¬ x = y) (hk : kf u lv st M) : qi_iceq kt kf u lv (.int y :: .int x :: st) M := ⟨fun q => absurd q h, fun _ => hk⟩
theorem ev_iceq_t {a b : Nat} (h : a = b) (hk : kt u lv st M) : qi_iceq kt kf u lv (.int (nI b) :: .int (nI a) :: st) M := ev_iceq_T (by rw [h]) hk
theorem ev_iceq_f {a b : Nat} (h : a ≠ b ∧ a < 2147483648 ∧ b < 2147483648) (hk : kf u lv st M) : qi_iceq kt kf u lv (.int (nI b) :: .int (nI a) :: st) M := ev_iceq_F (fun q => h.1 ((nI_eq h.2.1 h.2.2).mp q)) hk
theorem ev_icne_T {x y : Int32} (h : ¬ x = y) (hk : kt u lv st M) : qi_icne kt kf u lv (.int y :: .int x :: st) M := ⟨fun _ => hk, fun q => absurd q h⟩
theorem ev_icne_F {x y : Int32} (h : x = y) (hk : kf u lv st M) : qi_icne kt kf u lv (.int y :: .int x :: st) M := ⟨fun q => absurd h q, fun _ => hk⟩
theorem ev_icne_t {a b : Nat} (h : a ≠ b ∧ a < 2147483648 ∧ b < 2147483648) (hk : kt u lv st M) : qi_icne kt kf u lv (.int (nI b) :: .int (nI a) :: st) M := ev_icne_T (fun q => h.1 ((nI_eq h.2.1 h.2.2).mp q)) hk
theorem ev_icne_f {a b : Nat} (h : a = b) (hk : kf u lv st M) : qi_icne kt kf u lv (.int (nI b) :: .int (nI a) :: st) M := ev_icne_F (by rw [h]) hk
theorem ev_iclt_T {x y : Int32} (h : x < y) (hk : kt u lv st M) : qi_iclt kt kf u lv (.int y :: .int x :: st) M := ⟨fun _ => hk, fun q => absurd h q⟩
theorem ev_iclt_F {x y : Int32} (h : ¬ x < y) (hk : kf u lv st M) : qi_iclt kt kf u lv (.int y :: .int x :: st) M := ⟨fun q => absurd q h, fun _ => hk⟩
theorem ev_iclt_t {a b : Nat} (h : a < b ∧ b < 2147483648) (hk : kt u lv st M) : qi_iclt kt kf u lv (.int (nI b) :: .int (nI a) :: st) M := ev_iclt_T (nI_lt h.1 h.2) hk
theorem ev_iclt_f {a b : Nat} (h : b ≤ a ∧ a < 2147483648) (hk : kf u lv st M) : qi_iclt kt kf u lv (.int (nI b) :: .int (nI a) :: st) M := ev_iclt_F (nI_nlt h.1 h.2) hk
theorem ev_icge_T {x y : Int32} (h : y ≤ x) (hk : kt u lv st M) : qi_icge kt kf u lv (.int y :: .int x :: st) M := ⟨fun _ => hk, fun q => absurd h q⟩
theorem ev_icge_F {x y : Int32} (h : ¬ y ≤ x) (hk : kf u lv st M) : qi_icge kt kf u lv (.int y :: .int x :: st) M := ⟨fun q => absurd q h, fun _ => hk⟩
theorem ev_icge_t {a b : Nat} (h : b ≤ a ∧ a < 2147483648) (hk : kt u lv st M) : qi_icge kt kf u lv (.int (nI b) :: .int (nI a) :: st) M := ev_icge_T (nI_le h.1 h.2) hk
theorem ev_icge_f {a b : Nat} (h : a < b ∧ b < 2147483648) (hk : kf u lv st M) : qi_icge kt kf u lv (.int (nI b) :: .int (nI a) :: st) M := ev_icge_F (nI_ge h.1 h.2) hk
theorem ev_icgt_T {x y : Int32} (h : y < x) (hk : kt u lv st M) : qi_icgt kt kf u lv (.int y :: .int x :: st) M := ⟨fun _ => hk, fun q => absurd h q⟩
theorem ev_icgt_F {x y : Int32} (h : ¬ y < x) (hk : kf u lv st M) : qi_icgt kt kf u lv (.int y :: .int x :: st) M := ⟨fun q => absurd q h, fun _ => hk⟩
theorem ev_icgt_t {a b : Nat} (h : b < a ∧ a < 2147483648) (hk : kt u lv st M) : qi_icgt kt kf u lv (.int (nI b) :: .int (nI a) :: st) M := ev_icgt_T (nI_lt h.1 h.2) hk
theorem ev_icgt_f {a b : Nat} (h : a ≤ b ∧ b < 2147483648) (hk : kf u lv st M) : qi_icgt kt kf u lv (.int (nI b) :: .int (nI a) :: st) M := ev_icgt_F (nI_nlt h.1 h.2) hk
theorem ev_icle_T {x y : Int32} (h : x ≤ y) (hk : kt u lv st M) : qi_icle kt kf u lv (.int y :: .int x :: st) M := ⟨fun _ => hk, fun q => absurd h q⟩
theorem ev_icle_F {x y : Int32} (h : ¬ x ≤ y) (hk : kf u lv st M) : qi_icle kt kf u lv (.int y :: .int x :: st) M := ⟨fun q => absurd q h, fun _ => hk⟩
theorem ev_icle_t {a b : Nat} (h : a ≤ b ∧ b < 2147483648) (hk : kt u lv st M) : qi_icle kt kf u lv (.int (nI b) :: .int (nI a) :: st) M := ev_icle_T (nI_le h.1 h.2) hk
theorem ev_icle_f {a b : Nat} (h : b < a ∧ a < 2147483648) (hk : kf u lv st M) : qi_icle kt kf u lv (.int (nI b) :: .int (nI a) :: st) M := ev_icle_F (nI_ge h.1 h.2) hk
theorem ev_gi {c f a : Nat} {v : Int32} (h : qa_k M a = c) (h2 : qa_i M f a = v) (hk : k u lv (.int v :: st) M) : qi_gi c f k u lv (.ref a :: st) M := by
  subst h2
  exact ⟨h, hk⟩
theorem ev_gj {c f a : Nat} {v : Int64} (h : qa_k M a = c) (h2 : qa_j M f a = v) (hk : k u lv (.long v :: st) M) : qi_gj c f k u lv (.ref a :: st) M := by
  subst h2
  exact ⟨h, hk⟩
theorem ev_gp {c f a b : Nat} (h : qa_k M a = c) (h2 : qa_p M f a = some b) (hk : k u lv (.ref b :: st) M) : qi_gp c f k u lv (.ref a :: st) M := ⟨h, b, h2, hk⟩
theorem ev_pi {c f a : Nat} {v : Int32} (h : qa_k M a = c) (hk : k u lv st (qa_wi M f a v)) : qi_pi c f k u lv (.int v :: .ref a :: st) M := ⟨h, hk⟩
theorem ev_pz0 {c f a : Nat} (h : qa_k M a = c) (hk : k u lv st (qa_wi M f a (nI 0))) : qi_pz c f k u lv (.int (nI 0) :: .ref a :: st) M := ⟨h, Or.inl rfl, hk⟩
theorem ev_pz1 {c f a : Nat} (h : qa_k M a = c) (hk : k u lv st (qa_wi M f a (nI 1))) : qi_pz c f k u lv (.int (nI 1) :: .ref a :: st) M := ⟨h, Or.inr rfl, hk⟩
theorem ev_pj {c f a : Nat} {v : Int64} (h : qa_k M a = c) (hk : k u lv st (qa_wj M f a v)) : qi_pj c f k u lv (.long v :: .ref a :: st) M := ⟨h, hk⟩
theorem ev_pp {c f a b : Nat} (h : qa_k M a = c) (hk : k u lv st (qa_wp M f a (some b))) : qi_pp c f k u lv (.ref b :: .ref a :: st) M := ⟨h, hk⟩
theorem ev_iald {κ a j N : Nat} {v : Int32} (h : qa_k M a = κ) (h2 : qa_n M a = N) (h3 : j < N ∧ j < 2147483648) (h4 : qa_ia M κ a j = v) (hk : k u lv (.int v :: st) M) : qi_iald κ k u lv (.int (nI j) :: .ref a :: st) M := by
  obtain ⟨h3a, h3b⟩ := h3
  have hok : qa_ok (nI j) (qa_n M a) := (nn_ok h3b).mpr (by rw [h2]; exact h3a)
  refine ⟨h, hok, ?_⟩
  rw [nI_clamp h3b, h4]
  exact hk
theorem ev_lald {κ a j N : Nat} {v : Int64} (h : qa_k M a = κ) (h2 : qa_n M a = N) (h3 : j < N ∧ j < 2147483648) (h4 : qa_ja M κ a j = v) (hk : k u lv (.long v :: st) M) : qi_lald κ k u lv (.int (nI j) :: .ref a :: st) M := by
  obtain ⟨h3a, h3b⟩ := h3
  have hok : qa_ok (nI j) (qa_n M a) := (nn_ok h3b).mpr (by rw [h2]; exact h3a)
  refine ⟨h, hok, ?_⟩
  rw [nI_clamp h3b, h4]
  exact hk
theorem ev_aald {κ a j N b : Nat} (h : qa_k M a = κ) (h2 : qa_n M a = N) (h3 : j < N ∧ j < 2147483648) (h4 : qa_pa M κ a j = some b) (hk : k u lv (.ref b :: st) M) : qi_aald κ k u lv (.int (nI j) :: .ref a :: st) M := by
  obtain ⟨h3a, h3b⟩ := h3
  have hok : qa_ok (nI j) (qa_n M a) := (nn_ok h3b).mpr (by rw [h2]; exact h3a)
  refine ⟨h, hok, b, ?_, hk⟩
  rw [nI_clamp h3b, h4]
theorem ev_alen {κ a N : Nat} (h : qa_k M a = κ) (h2 : qa_n M a = N) (hk : k u lv (.int (nI N) :: st) M) : qi_alen κ k u lv (.ref a :: st) M := by
  subst h2
  exact ⟨h, hk⟩
theorem ev_iast {κ a j N : Nat} {v : Int32} (h : qa_k M a = κ) (h2 : qa_n M a = N) (h3 : j < N ∧ j < 2147483648) (hk : k u lv st (qa_wia M κ a j v)) : qi_iast κ k u lv (.int v :: .int (nI j) :: .ref a :: st) M := by
  obtain ⟨h3a, h3b⟩ := h3
  have hok : qa_ok (nI j) (qa_n M a) := (nn_ok h3b).mpr (by rw [h2]; exact h3a)
  refine ⟨h, hok, ?_⟩
  rw [nI_clamp h3b]
  exact hk
theorem ev_last {κ a j N : Nat} {v : Int64} (h : qa_k M a = κ) (h2 : qa_n M a = N) (h3 : j < N ∧ j < 2147483648) (hk : k u lv st (qa_wja M κ a j v)) : qi_last κ k u lv (.long v :: .int (nI j) :: .ref a :: st) M := by
  obtain ⟨h3a, h3b⟩ := h3
  have hok : qa_ok (nI j) (qa_n M a) := (nn_ok h3b).mpr (by rw [h2]; exact h3a)
  refine ⟨h, hok, ?_⟩
  rw [nI_clamp h3b]
  exact hk
theorem ev_zast0 {κ a j N : Nat} (h : qa_k M a = κ) (h2 : qa_n M a = N) (h3 : j < N ∧ j < 2147483648) (hk : k u lv st (qa_wia M κ a j (nI 0))) : qi_zast κ k u lv (.int (nI 0) :: .int (nI j) :: .ref a :: st) M := by
  obtain ⟨h3a, h3b⟩ := h3
  have hok : qa_ok (nI j) (qa_n M a) := (nn_ok h3b).mpr (by rw [h2]; exact h3a)
  refine ⟨h, hok, Or.inl rfl, ?_⟩
  rw [nI_clamp h3b]
  exact hk
theorem ev_zast1 {κ a j N : Nat} (h : qa_k M a = κ) (h2 : qa_n M a = N) (h3 : j < N ∧ j < 2147483648) (hk : k u lv st (qa_wia M κ a j (nI 1))) : qi_zast κ k u lv (.int (nI 1) :: .int (nI j) :: .ref a :: st) M := by
  obtain ⟨h3a, h3b⟩ := h3
  have hok : qa_ok (nI j) (qa_n M a) := (nn_ok h3b).mpr (by rw [h2]; exact h3a)
  refine ⟨h, hok, Or.inr rfl, ?_⟩
  rw [nI_clamp h3b]
  exact hk
theorem ev_aast {κ c a j N b : Nat} (h : qa_k M a = κ) (h2 : qa_n M a = N) (h3 : j < N ∧ j < 2147483648) (h4 : qa_k M b = c) (hk : k u lv st (qa_wpa M κ a j (some b))) : qi_aast κ c k u lv (.ref b :: .int (nI j) :: .ref a :: st) M := by
  obtain ⟨h3a, h3b⟩ := h3
  have hok : qa_ok (nI j) (qa_n M a) := (nn_ok h3b).mpr (by rw [h2]; exact h3a)
  refine ⟨h, hok, h4, ?_⟩
  rw [nI_clamp h3b]
  exact hk
theorem ev_call1 {v : Nat × Nat} {sp : qa_sp} {a1 : Value} (hr : qa_rm st) (hu : qa_le u v) (h : sp [a1] M fun r M2 => k u lv (qa_rs r st) M2) : qi_call 1 v sp k u lv (a1 :: st) M := ⟨hr, hu, h⟩
theorem ev_call2 {v : Nat × Nat} {sp : qa_sp} {a1 a2 : Value} (hr : qa_rm st) (hu : qa_le u v) (h : sp [a1, a2] M fun r M2 => k u lv (qa_rs r st) M2) : qi_call 2 v sp k u lv (a2 :: a1 :: st) M := ⟨hr, hu, h⟩
theorem ev_callv1 {c b : Nat} {v : Nat × Nat} {sp : qa_sp} (h0 : qa_k M b = c) (hr : qa_rm st) (hu : qa_le u v) (h : sp [.ref b] M fun r M2 => k u lv (qa_rs r st) M2) : qi_callv 1 c v sp k u lv (.ref b :: st) M := ⟨h0, hr, hu, h⟩
theorem ev_callv2 {c b : Nat} {v : Nat × Nat} {sp : qa_sp} {a1 : Value} (h0 : qa_k M b = c) (hr : qa_rm st) (hu : qa_le u v) (h : sp [.ref b, a1] M fun r M2 => k u lv (qa_rs r st) M2) : qi_callv 2 c v sp k u lv (a1 :: .ref b :: st) M := ⟨h0, hr, hu, h⟩
theorem ev_callv3 {c b : Nat} {v : Nat × Nat} {sp : qa_sp} {a1 a2 : Value} (h0 : qa_k M b = c) (hr : qa_rm st) (hu : qa_le u v) (h : sp [.ref b, a1, a2] M fun r M2 => k u lv (qa_rs r st) M2) : qi_callv 3 c v sp k u lv (a2 :: a1 :: .ref b :: st) M := ⟨h0, hr, hu, h⟩
theorem ev_callv4 {c b : Nat} {v : Nat × Nat} {sp : qa_sp} {a1 a2 a3 : Value} (h0 : qa_k M b = c) (hr : qa_rm st) (hu : qa_le u v) (h : sp [.ref b, a1, a2, a3] M fun r M2 => k u lv (qa_rs r st) M2) : qi_callv 4 c v sp k u lv (a3 :: a2 :: a1 :: .ref b :: st) M := ⟨h0, hr, hu, h⟩
theorem ev_callv5 {c b : Nat} {v : Nat × Nat} {sp : qa_sp} {a1 a2 a3 a4 : Value} (h0 : qa_k M b = c) (hr : qa_rm st) (hu : qa_le u v) (h : sp [.ref b, a1, a2, a3, a4] M fun r M2 => k u lv (qa_rs r st) M2) : qi_callv 5 c v sp k u lv (a4 :: a3 :: a2 :: a1 :: .ref b :: st) M := ⟨h0, hr, hu, h⟩
theorem ev_iret {v : Nat × Nat} {Po : Option Value → qa_M → Prop} {x : Int32} (hu : qa_le u v) (h : Po (some (.int x)) M) : qi_iret v Po u lv [.int x] M := ⟨rfl, hu, h⟩
theorem ev_zret0 {v : Nat × Nat} {Po : Option Value → qa_M → Prop} (hu : qa_le u v) (h : Po (some (.int (nI 0))) M) : qi_zret v Po u lv [.int (nI 0)] M := ⟨rfl, hu, Or.inl rfl, h⟩
theorem ev_zret1 {v : Nat × Nat} {Po : Option Value → qa_M → Prop} (hu : qa_le u v) (h : Po (some (.int (nI 1))) M) : qi_zret v Po u lv [.int (nI 1)] M := ⟨rfl, hu, Or.inr rfl, h⟩
theorem ev_lret {v : Nat × Nat} {Po : Option Value → qa_M → Prop} {x : Int64} (hu : qa_le u v) (h : Po (some (.long x)) M) : qi_lret v Po u lv [.long x] M := ⟨rfl, hu, h⟩
theorem ev_aret {v : Nat × Nat} {Po : Option Value → qa_M → Prop} {x : Nat} (hu : qa_le u v) (h : Po (some (.ref x)) M) : qi_aret v Po u lv [.ref x] M := ⟨rfl, hu, h⟩
theorem ev_vret {v : Nat × Nat} {Po : Option Value → qa_M → Prop} (hu : qa_le u v) (h : Po none M) : qi_vret v Po u lv [] M := ⟨rfl, hu, h⟩
theorem ev_loop {bd : qa_K → qa_K} (I : Nat → qa_K) (n : Nat) (h0 : I n u lv st M) (hs : ∀ n u lv st M, I n u lv st M → bd (fun u lv st M => ∃ n2, n2 < n ∧ I n2 u lv st M) u lv st M) : qi_loop bd u lv st M := ⟨I, ⟨n, h0⟩, hs⟩
theorem ev_rm {st : List Value} (h : Nat.ble ((st.map fun v => v.category).sum) 8 = true) : qa_rm st := Nat.le_of_ble_eq_true h
theorem ev_le0 : qa_le (0, 0) (0, 0) := ⟨Nat.le_refl _, Nat.le_refl _⟩
end EV
theorem tw_in {lo : Int} {ks : List qa_K} {kd k : qa_K} {u : Nat × Nat} {lv : qa_L} {st : List Value} {M : qa_M} {a : Nat} (j : Nat) (hk : ks[j]? = some k) (hx : lo + (j : Int) = (a : Int)) (ha : a < 2147483648) (h : k u lv st M) : qi_tsw lo ks kd u lv (.int (nI a) :: st) M := by
  have hl : j < ks.length := (List.getElem?_eq_some_iff.mp hk).1
  have e := nI_toInt (n := a) ha
  refine ⟨fun q => ?_, fun j2 k2 h2 hx2 => ?_⟩
  · rw [e] at q
    omega
  · rw [e] at hx2
    have : j2 = j := by omega
    subst this
    rw [hk] at h2
    cases h2
    exact h
theorem tw_out {lo : Int} {ks : List qa_K} {kd : qa_K} {u : Nat × Nat} {lv : qa_L} {st : List Value} {M : qa_M} {x : Int32} (hx : x.toInt < lo ∨ lo + (ks.length : Int) ≤ x.toInt) (h : kd u lv st M) : qi_tsw lo ks kd u lv (.int x :: st) M := by
  refine ⟨fun q => h, fun j2 k2 h2 hx2 => ?_⟩
  have hl : j2 < ks.length := (List.getElem?_eq_some_iff.mp h2).1
  omega
