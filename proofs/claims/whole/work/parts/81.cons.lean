theorem cj_Sd {M : qa_M} {p : Nat} {Po : Option Value → qa_M → Prop} (h : Po none M) : sp_Sd_init [.ref p] M Po := by
  repeat (first | (with_reducible apply ev_ic) | ((with_reducible apply ev_aload); (· exact rfl)) | ((with_reducible apply ev_iload); (· exact rfl)) | ((with_reducible apply ev_lload); (· exact rfl)) | ((with_reducible apply ev_istore); (· exact rfl)) | ((with_reducible apply ev_astore); (· exact rfl)) | ((with_reducible apply ev_lstore); (· exact rfl)) | ((with_reducible apply ev_gp); (· (assumption)); (· (assumption))) | ((with_reducible apply ev_gi); (· (assumption)); (· (exact rfl))) | ((with_reducible apply ev_gj); (· (assumption)); (· (exact rfl))) | ((with_reducible apply ev_aald); (· (assumption)); (· (assumption)); (· omega); (· (assumption))) | ((with_reducible apply ev_iald); (· (assumption)); (· (assumption)); (· omega); (· (exact rfl))) | ((with_reducible apply ev_lald); (· (assumption)); (· (assumption)); (· omega); (· (exact rfl))) | ((with_reducible apply ev_alen); (· (assumption)); (· (assumption))) | (with_reducible apply ev_iaddn) | (with_reducible apply ev_imuln) | ((with_reducible apply ev_isubn); (· omega)) | ((with_reducible apply ev_ifeq_t); (· omega)) | ((with_reducible apply ev_ifeq_f); (· omega)) | ((with_reducible apply ev_ifeq_T); (· assumption)) | ((with_reducible apply ev_ifeq_F); (· assumption)) | ((with_reducible apply ev_ifne_t); (· omega)) | ((with_reducible apply ev_ifne_f); (· omega)) | ((with_reducible apply ev_ifne_T); (· assumption)) | ((with_reducible apply ev_ifne_F); (· assumption)) | ((with_reducible apply ev_iflt_f); (· omega)) | ((with_reducible apply ev_iflt_T); (· assumption)) | ((with_reducible apply ev_iflt_F); (· assumption)) | ((with_reducible apply ev_ifge_t); (· omega)) | ((with_reducible apply ev_ifge_T); (· assumption)) | ((with_reducible apply ev_ifge_F); (· assumption)) | ((with_reducible apply ev_ifgt_t); (· omega)) | ((with_reducible apply ev_ifgt_f); (· omega)) | ((with_reducible apply ev_ifgt_T); (· assumption)) | ((with_reducible apply ev_ifgt_F); (· assumption)) | ((with_reducible apply ev_ifle_t); (· omega)) | ((with_reducible apply ev_ifle_f); (· omega)) | ((with_reducible apply ev_ifle_T); (· assumption)) | ((with_reducible apply ev_ifle_F); (· assumption)) | ((with_reducible apply ev_iceq_t); (· omega)) | ((with_reducible apply ev_iceq_f); (· omega)) | ((with_reducible apply ev_iceq_T); (· assumption)) | ((with_reducible apply ev_iceq_F); (· assumption)) | ((with_reducible apply ev_icne_t); (· omega)) | ((with_reducible apply ev_icne_f); (· omega)) | ((with_reducible apply ev_icne_T); (· assumption)) | ((with_reducible apply ev_icne_F); (· assumption)) | ((with_reducible apply ev_iclt_t); (· omega)) | ((with_reducible apply ev_iclt_f); (· omega)) | ((with_reducible apply ev_iclt_T); (· assumption)) | ((with_reducible apply ev_iclt_F); (· assumption)) | ((with_reducible apply ev_icge_t); (· omega)) | ((with_reducible apply ev_icge_f); (· omega)) | ((with_reducible apply ev_icge_T); (· assumption)) | ((with_reducible apply ev_icge_F); (· assumption)) | ((with_reducible apply ev_icgt_t); (· omega)) | ((with_reducible apply ev_icgt_f); (· omega)) | ((with_reducible apply ev_icgt_T); (· assumption)) | ((with_reducible apply ev_icgt_F); (· assumption)) | ((with_reducible apply ev_icle_t); (· omega)) | ((with_reducible apply ev_icle_f); (· omega)) | ((with_reducible apply ev_icle_T); (· assumption)) | ((with_reducible apply ev_icle_F); (· assumption)) | ((with_reducible apply ev_iincn); (· exact rfl); (· exact rfl)) | ((with_reducible apply ev_pi); (· (assumption))) | ((with_reducible apply ev_pz0); (· (assumption))) | ((with_reducible apply ev_pz1); (· (assumption))) | ((with_reducible apply ev_pj); (· (assumption))) | ((with_reducible apply ev_iast); (· (assumption)); (· (assumption)); (· omega)) | ((with_reducible apply ev_last); (· (assumption)); (· (assumption)); (· omega)) | ((with_reducible apply ev_zast0); (· (assumption)); (· (assumption)); (· omega)) | ((with_reducible apply ev_zast1); (· (assumption)); (· (assumption)); (· omega)) | ((with_reducible apply ev_aast); (· (assumption)); (· (assumption)); (· omega); (· (assumption))) | (with_reducible apply ev_dup_i) | (with_reducible apply ev_dup_r) | (with_reducible apply ev_dup2_ir) | (with_reducible apply ev_dup_x1_ir) | (with_reducible apply ev_dup_x1_ri) | (with_reducible apply ev_pop_i) | (with_reducible apply ev_pop_r) | (with_reducible apply ev_lc) | (with_reducible apply ev_lxor) | (with_reducible apply ev_ladd) | (with_reducible apply ev_lmul) | (with_reducible apply ev_land) | (with_reducible apply ev_lor) | (with_reducible apply ev_lsub) | (with_reducible apply ev_lushr) | (with_reducible apply ev_lshl) | (with_reducible apply ev_lcmp) | (with_reducible apply ev_i2l) | (with_reducible apply ev_l2i) | (with_reducible apply ev_ixor) | (with_reducible apply ev_iand) | (with_reducible apply ev_ior) | (with_reducible apply ev_iadd) | (with_reducible apply ev_isub) | (with_reducible apply ev_imul) | ((with_reducible apply ev_call1); (· exact ev_rm rfl); (· exact ev_le0)) | ((with_reducible apply ev_call2); (· exact ev_rm rfl); (· exact ev_le0)) | ((with_reducible apply ev_callv1); (· (assumption)); (· exact ev_rm rfl); (· exact ev_le0)) | ((with_reducible apply ev_callv2); (· (assumption)); (· exact ev_rm rfl); (· exact ev_le0)) | ((with_reducible apply ev_callv3); (· (assumption)); (· exact ev_rm rfl); (· exact ev_le0)) | ((with_reducible apply ev_callv4); (· (assumption)); (· exact ev_rm rfl); (· exact ev_le0)) | ((with_reducible apply ev_callv5); (· (assumption)); (· exact ev_rm rfl); (· exact ev_le0)) | (((with_reducible apply ev_oinit)) ; (· exact ev_rm rfl)) | (with_reducible apply en_Sd_init) | ((with_reducible apply ev_iret); (· exact ev_le0)) | ((with_reducible apply ev_zret1); (· exact ev_le0)) | ((with_reducible apply ev_zret0); (· exact ev_le0)) | ((with_reducible apply ev_lret); (· exact ev_le0)) | ((with_reducible apply ev_aret); (· exact ev_le0)) | ((with_reducible apply ev_vret); (· exact ev_le0)) | dsimp only [qa_rs] | unfold kc_Sd_init_0)
  exact h
theorem cj_Ms {M : qa_M} {p : Nat} {Po : Option Value → qa_M → Prop} (h : Po none M) : sp_Ms_init [.ref p] M Po := by
  repeat (first | (with_reducible apply ev_ic) | ((with_reducible apply ev_aload); (· exact rfl)) | ((with_reducible apply ev_iload); (· exact rfl)) | ((with_reducible apply ev_lload); (· exact rfl)) | ((with_reducible apply ev_istore); (· exact rfl)) | ((with_reducible apply ev_astore); (· exact rfl)) | ((with_reducible apply ev_lstore); (· exact rfl)) | ((with_reducible apply ev_gp); (· (assumption)); (· (assumption))) | ((with_reducible apply ev_gi); (· (assumption)); (· (exact rfl))) | ((with_reducible apply ev_gj); (· (assumption)); (· (exact rfl))) | ((with_reducible apply ev_aald); (· (assumption)); (· (assumption)); (· omega); (· (assumption))) | ((with_reducible apply ev_iald); (· (assumption)); (· (assumption)); (· omega); (· (exact rfl))) | ((with_reducible apply ev_lald); (· (assumption)); (· (assumption)); (· omega); (· (exact rfl))) | ((with_reducible apply ev_alen); (· (assumption)); (· (assumption))) | (with_reducible apply ev_iaddn) | (with_reducible apply ev_imuln) | ((with_reducible apply ev_isubn); (· omega)) | ((with_reducible apply ev_ifeq_t); (· omega)) | ((with_reducible apply ev_ifeq_f); (· omega)) | ((with_reducible apply ev_ifeq_T); (· assumption)) | ((with_reducible apply ev_ifeq_F); (· assumption)) | ((with_reducible apply ev_ifne_t); (· omega)) | ((with_reducible apply ev_ifne_f); (· omega)) | ((with_reducible apply ev_ifne_T); (· assumption)) | ((with_reducible apply ev_ifne_F); (· assumption)) | ((with_reducible apply ev_iflt_f); (· omega)) | ((with_reducible apply ev_iflt_T); (· assumption)) | ((with_reducible apply ev_iflt_F); (· assumption)) | ((with_reducible apply ev_ifge_t); (· omega)) | ((with_reducible apply ev_ifge_T); (· assumption)) | ((with_reducible apply ev_ifge_F); (· assumption)) | ((with_reducible apply ev_ifgt_t); (· omega)) | ((with_reducible apply ev_ifgt_f); (· omega)) | ((with_reducible apply ev_ifgt_T); (· assumption)) | ((with_reducible apply ev_ifgt_F); (· assumption)) | ((with_reducible apply ev_ifle_t); (· omega)) | ((with_reducible apply ev_ifle_f); (· omega)) | ((with_reducible apply ev_ifle_T); (· assumption)) | ((with_reducible apply ev_ifle_F); (· assumption)) | ((with_reducible apply ev_iceq_t); (· omega)) | ((with_reducible apply ev_iceq_f); (· omega)) | ((with_reducible apply ev_iceq_T); (· assumption)) | ((with_reducible apply ev_iceq_F); (· assumption)) | ((with_reducible apply ev_icne_t); (· omega)) | ((with_reducible apply ev_icne_f); (· omega)) | ((with_reducible apply ev_icne_T); (· assumption)) | ((with_reducible apply ev_icne_F); (· assumption)) | ((with_reducible apply ev_iclt_t); (· omega)) | ((with_reducible apply ev_iclt_f); (· omega)) | ((with_reducible apply ev_iclt_T); (· assumption)) | ((with_reducible apply ev_iclt_F); (· assumption)) | ((with_reducible apply ev_icge_t); (· omega)) | ((with_reducible apply ev_icge_f); (· omega)) | ((with_reducible apply ev_icge_T); (· assumption)) | ((with_reducible apply ev_icge_F); (· assumption)) | ((with_reducible apply ev_icgt_t); (· omega)) | ((with_reducible apply ev_icgt_f); (· omega)) | ((with_reducible apply ev_icgt_T); (· assumption)) | ((with_reducible apply ev_icgt_F); (· assumption)) | ((with_reducible apply ev_icle_t); (· omega)) | ((with_reducible apply ev_icle_f); (· omega)) | ((with_reducible apply ev_icle_T); (· assumption)) | ((with_reducible apply ev_icle_F); (· assumption)) | ((with_reducible apply ev_iincn); (· exact rfl); (· exact rfl)) | ((with_reducible apply ev_pi); (· (assumption))) | ((with_reducible apply ev_pz0); (· (assumption))) | ((with_reducible apply ev_pz1); (· (assumption))) | ((with_reducible apply ev_pj); (· (assumption))) | ((with_reducible apply ev_iast); (· (assumption)); (· (assumption)); (· omega)) | ((with_reducible apply ev_last); (· (assumption)); (· (assumption)); (· omega)) | ((with_reducible apply ev_zast0); (· (assumption)); (· (assumption)); (· omega)) | ((with_reducible apply ev_zast1); (· (assumption)); (· (assumption)); (· omega)) | ((with_reducible apply ev_aast); (· (assumption)); (· (assumption)); (· omega); (· (assumption))) | (with_reducible apply ev_dup_i) | (with_reducible apply ev_dup_r) | (with_reducible apply ev_dup2_ir) | (with_reducible apply ev_dup_x1_ir) | (with_reducible apply ev_dup_x1_ri) | (with_reducible apply ev_pop_i) | (with_reducible apply ev_pop_r) | (with_reducible apply ev_lc) | (with_reducible apply ev_lxor) | (with_reducible apply ev_ladd) | (with_reducible apply ev_lmul) | (with_reducible apply ev_land) | (with_reducible apply ev_lor) | (with_reducible apply ev_lsub) | (with_reducible apply ev_lushr) | (with_reducible apply ev_lshl) | (with_reducible apply ev_lcmp) | (with_reducible apply ev_i2l) | (with_reducible apply ev_l2i) | (with_reducible apply ev_ixor) | (with_reducible apply ev_iand) | (with_reducible apply ev_ior) | (with_reducible apply ev_iadd) | (with_reducible apply ev_isub) | (with_reducible apply ev_imul) | ((with_reducible apply ev_call1); (· exact ev_rm rfl); (· exact ev_le0)) | ((with_reducible apply ev_call2); (· exact ev_rm rfl); (· exact ev_le0)) | ((with_reducible apply ev_callv1); (· (assumption)); (· exact ev_rm rfl); (· exact ev_le0)) | ((with_reducible apply ev_callv2); (· (assumption)); (· exact ev_rm rfl); (· exact ev_le0)) | ((with_reducible apply ev_callv3); (· (assumption)); (· exact ev_rm rfl); (· exact ev_le0)) | ((with_reducible apply ev_callv4); (· (assumption)); (· exact ev_rm rfl); (· exact ev_le0)) | ((with_reducible apply ev_callv5); (· (assumption)); (· exact ev_rm rfl); (· exact ev_le0)) | (((with_reducible apply ev_oinit)) ; (· exact ev_rm rfl)) | (with_reducible apply en_Ms_init) | ((with_reducible apply ev_iret); (· exact ev_le0)) | ((with_reducible apply ev_zret1); (· exact ev_le0)) | ((with_reducible apply ev_zret0); (· exact ev_le0)) | ((with_reducible apply ev_lret); (· exact ev_le0)) | ((with_reducible apply ev_aret); (· exact ev_le0)) | ((with_reducible apply ev_vret); (· exact ev_le0)) | dsimp only [qa_rs] | unfold kc_Ms_init_0)
  exact h
def lPk (L : qa_M) (N lp room : Nat) : qa_M := qa_wp (qa_na L 1032 N room) 32 lp (some N)
theorem cj_Pk {M L : qa_M} {N p lp room : Nat} {ad : Nat → Nat} {vl : Int32} {Po : Option Value → qa_M → Prop} (hJ : Jm M N ad L vl) (hp : ad lp = p) (hl : lp < N) (hk : qa_k L lp = 2) (hr : room ≤ 40) (h : ∀ M2 ad2, Jm M2 (N + 1) ad2 (lPk L N lp room) vl → Ex M N ad M2 ad2 → Po none M2) : sp_Pk_init [.ref p, .int (nI room)] M Po := by
  refine en_Pk_init ?_
  unfold kc_Pk_init_0
  repeat (first | (with_reducible apply ev_ic) | ((with_reducible apply ev_aload); (· exact rfl)) | ((with_reducible apply ev_iload); (· exact rfl)) | ((with_reducible apply ev_istore); (· exact rfl)) | ((with_reducible apply ev_astore); (· exact rfl)) | (with_reducible apply ev_dup_r) | (with_reducible apply ev_dup_i) | ((with_reducible apply ev_oinit); (· exact ev_rm rfl)) | dsimp only [qa_rs])
  refine ev_newaJ hJ (by omega) (by omega) (by omega) ⟨by show 0 + 1 ≤ 1; omega, by show 0 + room ≤ 40; omega⟩ ?_
  intro a M2 ad2 hJ2 ha hka hna hE
  have e1 : ad2 lp = p := (hE lp hl).1.trans hp
  have k2 : qa_k M2 p = 2 := by rw [← hp, (hE lp hl).2, (hJ.1 lp hl).1, hk]
  repeat (first | (with_reducible apply ev_ic) | ((with_reducible apply ev_aload); (· exact rfl)) | ((with_reducible apply ev_iload); (· exact rfl)) | ((with_reducible apply ev_istore); (· exact rfl)) | ((with_reducible apply ev_astore); (· exact rfl)) | (with_reducible apply ev_dup_r) | (with_reducible apply ev_dup_i) | ((with_reducible apply ev_oinit); (· exact ev_rm rfl)) | ((with_reducible apply ev_pp); (· first | exact k2)) | ((with_reducible apply ev_pi); (· first | exact k2)) | ((with_reducible apply ev_gp); (· first | exact k2); (· first | exact k2)) | dsimp only [qa_rs])
  refine ev_vret ⟨by show 0 + 1 ≤ 1; omega, by show 0 + room ≤ 40; omega⟩ ?_
  have hj := jm_wp (f := 32) (l := lp) (r := N) hJ2 (by omega) (by omega) (by rw [← (hJ2.1 lp (by omega)).1, e1, k2]; decide)
  rw [e1, ha] at hj
  exact h _ ad2 hj hE
def lRw (L : qa_M) (N lr most room : Nat) : Nat → qa_M
  | 0 => qa_wp (qa_na L 1064 N most) 64 lr (some N)
  | i + 1 => qa_wpa (lPk (qa_nw (lRw L N lr most room i) 2 (N + 1 + 2 * i)) (N + 1 + 2 * i + 1) (N + 1 + 2 * i) room) 1064 N i (some (N + 1 + 2 * i))
theorem lRw_f (L : qa_M) {N lr : Nat} (hl : lr < N) (most room : Nat) : ∀ i, qa_p (lRw L N lr most room i) 64 lr = some N ∧ qa_n (lRw L N lr most room i) N = most ∧ qa_k (lRw L N lr most room i) N = 1064 := by
  intro i
  induction i with
  | zero => exact ⟨by simp [lRw, qa_k_wi, qa_n_wi, qa_i_wi, qa_j_wi, qa_p_wi, qa_ia_wi, qa_ja_wi, qa_pa_wi, qa_k_wj, qa_n_wj, qa_i_wj, qa_j_wj, qa_p_wj, qa_ia_wj, qa_ja_wj, qa_pa_wj, qa_k_wp, qa_n_wp, qa_i_wp, qa_j_wp, qa_p_wp, qa_ia_wp, qa_ja_wp, qa_pa_wp, qa_k_wia, qa_n_wia, qa_i_wia, qa_j_wia, qa_p_wia, qa_ia_wia, qa_ja_wia, qa_pa_wia, qa_k_wja, qa_n_wja, qa_i_wja, qa_j_wja, qa_p_wja, qa_ia_wja, qa_ja_wja, qa_pa_wja, qa_k_wpa, qa_n_wpa, qa_i_wpa, qa_j_wpa, qa_p_wpa, qa_ia_wpa, qa_ja_wpa, qa_pa_wpa, qa_k_nw, qa_n_nw, qa_i_nw, qa_j_nw, qa_p_nw, qa_ia_nw, qa_ja_nw, qa_pa_nw, qa_k_na, qa_n_na, qa_i_na, qa_j_na, qa_p_na, qa_ia_na, qa_ja_na, qa_pa_na], by simp [lRw, qa_k_wi, qa_n_wi, qa_i_wi, qa_j_wi, qa_p_wi, qa_ia_wi, qa_ja_wi, qa_pa_wi, qa_k_wj, qa_n_wj, qa_i_wj, qa_j_wj, qa_p_wj, qa_ia_wj, qa_ja_wj, qa_pa_wj, qa_k_wp, qa_n_wp, qa_i_wp, qa_j_wp, qa_p_wp, qa_ia_wp, qa_ja_wp, qa_pa_wp, qa_k_wia, qa_n_wia, qa_i_wia, qa_j_wia, qa_p_wia, qa_ia_wia, qa_ja_wia, qa_pa_wia, qa_k_wja, qa_n_wja, qa_i_wja, qa_j_wja, qa_p_wja, qa_ia_wja, qa_ja_wja, qa_pa_wja, qa_k_wpa, qa_n_wpa, qa_i_wpa, qa_j_wpa, qa_p_wpa, qa_ia_wpa, qa_ja_wpa, qa_pa_wpa, qa_k_nw, qa_n_nw, qa_i_nw, qa_j_nw, qa_p_nw, qa_ia_nw, qa_ja_nw, qa_pa_nw, qa_k_na, qa_n_na, qa_i_na, qa_j_na, qa_p_na, qa_ia_na, qa_ja_na, qa_pa_na], by simp [lRw, qa_k_wi, qa_n_wi, qa_i_wi, qa_j_wi, qa_p_wi, qa_ia_wi, qa_ja_wi, qa_pa_wi, qa_k_wj, qa_n_wj, qa_i_wj, qa_j_wj, qa_p_wj, qa_ia_wj, qa_ja_wj, qa_pa_wj, qa_k_wp, qa_n_wp, qa_i_wp, qa_j_wp, qa_p_wp, qa_ia_wp, qa_ja_wp, qa_pa_wp, qa_k_wia, qa_n_wia, qa_i_wia, qa_j_wia, qa_p_wia, qa_ia_wia, qa_ja_wia, qa_pa_wia, qa_k_wja, qa_n_wja, qa_i_wja, qa_j_wja, qa_p_wja, qa_ia_wja, qa_ja_wja, qa_pa_wja, qa_k_wpa, qa_n_wpa, qa_i_wpa, qa_j_wpa, qa_p_wpa, qa_ia_wpa, qa_ja_wpa, qa_pa_wpa, qa_k_nw, qa_n_nw, qa_i_nw, qa_j_nw, qa_p_nw, qa_ia_nw, qa_ja_nw, qa_pa_nw, qa_k_na, qa_n_na, qa_i_na, qa_j_na, qa_p_na, qa_ia_na, qa_ja_na, qa_pa_na]⟩
  | succ i ih =>
    obtain ⟨h1, h2, h3⟩ := ih
    have e1 : ¬ lr = N + 1 + 2 * i := by omega
    have e2 : ¬ N = N + 1 + 2 * i := by omega
    have e3 : ¬ N = N + 1 + 2 * i + 1 := by omega
    refine ⟨?_, ?_, ?_⟩
    · unfold lRw lPk
      rw [← h1]
      simp [qa_k_wi, qa_n_wi, qa_i_wi, qa_j_wi, qa_p_wi, qa_ia_wi, qa_ja_wi, qa_pa_wi, qa_k_wj, qa_n_wj, qa_i_wj, qa_j_wj, qa_p_wj, qa_ia_wj, qa_ja_wj, qa_pa_wj, qa_k_wp, qa_n_wp, qa_i_wp, qa_j_wp, qa_p_wp, qa_ia_wp, qa_ja_wp, qa_pa_wp, qa_k_wia, qa_n_wia, qa_i_wia, qa_j_wia, qa_p_wia, qa_ia_wia, qa_ja_wia, qa_pa_wia, qa_k_wja, qa_n_wja, qa_i_wja, qa_j_wja, qa_p_wja, qa_ia_wja, qa_ja_wja, qa_pa_wja, qa_k_wpa, qa_n_wpa, qa_i_wpa, qa_j_wpa, qa_p_wpa, qa_ia_wpa, qa_ja_wpa, qa_pa_wpa, qa_k_nw, qa_n_nw, qa_i_nw, qa_j_nw, qa_p_nw, qa_ia_nw, qa_ja_nw, qa_pa_nw, qa_k_na, qa_n_na, qa_i_na, qa_j_na, qa_p_na, qa_ia_na, qa_ja_na, qa_pa_na, e1]
    · exact Eq.trans (b := qa_n (lRw L N lr most room i) N) (by simp [lRw, lPk, qa_k_wi, qa_n_wi, qa_i_wi, qa_j_wi, qa_p_wi, qa_ia_wi, qa_ja_wi, qa_pa_wi, qa_k_wj, qa_n_wj, qa_i_wj, qa_j_wj, qa_p_wj, qa_ia_wj, qa_ja_wj, qa_pa_wj, qa_k_wp, qa_n_wp, qa_i_wp, qa_j_wp, qa_p_wp, qa_ia_wp, qa_ja_wp, qa_pa_wp, qa_k_wia, qa_n_wia, qa_i_wia, qa_j_wia, qa_p_wia, qa_ia_wia, qa_ja_wia, qa_pa_wia, qa_k_wja, qa_n_wja, qa_i_wja, qa_j_wja, qa_p_wja, qa_ia_wja, qa_ja_wja, qa_pa_wja, qa_k_wpa, qa_n_wpa, qa_i_wpa, qa_j_wpa, qa_p_wpa, qa_ia_wpa, qa_ja_wpa, qa_pa_wpa, qa_k_nw, qa_n_nw, qa_i_nw, qa_j_nw, qa_p_nw, qa_ia_nw, qa_ja_nw, qa_pa_nw, qa_k_na, qa_n_na, qa_i_na, qa_j_na, qa_p_na, qa_ia_na, qa_ja_na, qa_pa_na, e3]) h2
    · unfold lRw lPk
      rw [← h3]
      simp [qa_k_wi, qa_n_wi, qa_i_wi, qa_j_wi, qa_p_wi, qa_ia_wi, qa_ja_wi, qa_pa_wi, qa_k_wj, qa_n_wj, qa_i_wj, qa_j_wj, qa_p_wj, qa_ia_wj, qa_ja_wj, qa_pa_wj, qa_k_wp, qa_n_wp, qa_i_wp, qa_j_wp, qa_p_wp, qa_ia_wp, qa_ja_wp, qa_pa_wp, qa_k_wia, qa_n_wia, qa_i_wia, qa_j_wia, qa_p_wia, qa_ia_wia, qa_ja_wia, qa_pa_wia, qa_k_wja, qa_n_wja, qa_i_wja, qa_j_wja, qa_p_wja, qa_ia_wja, qa_ja_wja, qa_pa_wja, qa_k_wpa, qa_n_wpa, qa_i_wpa, qa_j_wpa, qa_p_wpa, qa_ia_wpa, qa_ja_wpa, qa_pa_wpa, qa_k_nw, qa_n_nw, qa_i_nw, qa_j_nw, qa_p_nw, qa_ia_nw, qa_ja_nw, qa_pa_nw, qa_k_na, qa_n_na, qa_i_na, qa_j_na, qa_p_na, qa_ia_na, qa_ja_na, qa_pa_na, e2, e3]
set_option maxRecDepth 20000 in
set_option maxHeartbeats 4000000 in
theorem cx_Rw {M L : qa_M} {N r lr most room : Nat} {ad : Nat → Nat} {vl : Int32} {Po : Option Value → qa_M → Prop} (hJ : Jm M N ad L vl) (hr : ad lr = r) (hl : lr < N) (hk : qa_k L lr = 3) (hm : most ≤ 16) (hro : room ≤ 40) (h : ∀ M2 ad2, Jm M2 (N + 1 + 2 * most) ad2 (lRw L N lr most room most) vl → Ex M N ad M2 ad2 → Po none M2) : sp_Rw_init [.ref r, .int (nI most), .int (nI room)] M Po := by
  refine en_Rw_init ?_
  unfold kc_Rw_init_0
  repeat (first | (with_reducible apply ev_ic) | ((with_reducible apply ev_aload); (· exact rfl)) | ((with_reducible apply ev_iload); (· exact rfl)) | ((with_reducible apply ev_istore); (· exact rfl)) | ((with_reducible apply ev_astore); (· exact rfl)) | (with_reducible apply ev_dup_r) | (with_reducible apply ev_dup_i) | ((with_reducible apply ev_oinit); (· exact ev_rm rfl)) | dsimp only [qa_rs])
  refine ev_newaJ hJ (by omega) (by omega) (by omega) ⟨by show 0 + 1 ≤ 33; omega, by show 0 + most ≤ 704; omega⟩ ?_
  intro s M2 ad2 hJ2 hs hks hns hE
  have e1 : ad2 lr = r := (hE lr hl).1.trans hr
  have k2 : qa_k M2 r = 3 := by rw [← hr, (hE lr hl).2, (hJ.1 lr hl).1, hk]
  repeat (first | (with_reducible apply ev_ic) | ((with_reducible apply ev_aload); (· exact rfl)) | ((with_reducible apply ev_iload); (· exact rfl)) | ((with_reducible apply ev_istore); (· exact rfl)) | ((with_reducible apply ev_astore); (· exact rfl)) | (with_reducible apply ev_dup_r) | (with_reducible apply ev_dup_i) | ((with_reducible apply ev_oinit); (· exact ev_rm rfl)) | ((with_reducible apply ev_pp); (· first | exact k2)) | ((with_reducible apply ev_pi); (· first | exact k2)) | ((with_reducible apply ev_gp); (· first | exact k2); (· first | exact k2)) | dsimp only [qa_rs])
  have hj := jm_wp (f := 64) (l := lr) (r := N) hJ2 (by omega) (by omega) (by rw [← (hJ2.1 lr (by omega)).1, e1, k2]; decide)
  rw [e1, hs] at hj
  unfold kc_Rw_init_14
  refine ev_loop (fun q => fun u lv st M3 => ∃ i ad3, i ≤ most ∧ q = most - i ∧ u.1 = 1 + 2 * i ∧ u.2 = most + 43 * i ∧ lv = [some (.ref r), some (.int (nI most)), some (.int (nI room)), some (.int (nI i))] ∧ st = [] ∧ Jm M3 (N + 1 + 2 * i) ad3 (lRw L N lr most room i) vl ∧ Ex M N ad M3 ad3 ∧ ad3 N = s) most ⟨0, ad2, by omega, rfl, by show 0 + 1 = 1 + 2 * 0; omega, by show 0 + most = most + 43 * 0; omega, rfl, rfl, hj, hE, hs⟩ ?_
  rintro q u lv st M3 ⟨i, ad3, h1, rfl, hu1, hu2, rfl, rfl, hJ3, hE3, hs3⟩
  unfold kb_Rw_init_14
  repeat (first | (with_reducible apply ev_ic) | ((with_reducible apply ev_aload); (· exact rfl)) | ((with_reducible apply ev_iload); (· exact rfl)) | ((with_reducible apply ev_istore); (· exact rfl)) | ((with_reducible apply ev_astore); (· exact rfl)) | (with_reducible apply ev_dup_r) | (with_reducible apply ev_dup_i) | ((with_reducible apply ev_oinit); (· exact ev_rm rfl)) | dsimp only [qa_rs])
  by_cases hi : i = most
  · subst hi
    refine ev_icge_t (by omega) ?_
    exact ev_vret ⟨by show u.1 ≤ 33; omega, by show u.2 ≤ 704; omega⟩ (h _ ad3 hJ3 hE3)
  · refine ev_icge_f (by omega) ?_
    obtain ⟨f1, f2, f3⟩ := lRw_f L hl most room i
    have e3 : ad3 lr = r := (hE3 lr hl).1.trans hr
    have k3 : qa_k M3 r = 3 := by rw [← hr, (hE3 lr hl).2, (hJ.1 lr hl).1, hk]
    have kl3 : qa_k (lRw L N lr most room i) lr < 1000 := by rw [← (hJ3.1 lr (by omega)).1, e3, k3]; decide
    have p3 : qa_p M3 64 r = some s := by
      have := (hJ3.2.2.2.2.1 lr (by omega) kl3 64).2.2.1
      rw [e3, f1] at this
      rw [this, ← hs3]
      rfl
    repeat (first | (with_reducible apply ev_ic) | ((with_reducible apply ev_aload); (· exact rfl)) | ((with_reducible apply ev_iload); (· exact rfl)) | ((with_reducible apply ev_istore); (· exact rfl)) | ((with_reducible apply ev_astore); (· exact rfl)) | (with_reducible apply ev_dup_r) | (with_reducible apply ev_dup_i) | ((with_reducible apply ev_oinit); (· exact ev_rm rfl)) | ((with_reducible apply ev_pp); (· first | exact k3 | exact p3)) | ((with_reducible apply ev_pi); (· first | exact k3 | exact p3)) | ((with_reducible apply ev_gp); (· first | exact k3 | exact p3); (· first | exact k3 | exact p3)) | dsimp only [qa_rs])
    refine ev_newJ hJ3 (by omega) (by decide) (by decide) ⟨by show u.1 + 1 ≤ 33; omega, by show u.2 + 3 ≤ 704; omega⟩ ?_
    intro a M4 ad4 hJ4 ha hka hE4
    repeat (first | (with_reducible apply ev_ic) | ((with_reducible apply ev_aload); (· exact rfl)) | ((with_reducible apply ev_iload); (· exact rfl)) | ((with_reducible apply ev_istore); (· exact rfl)) | ((with_reducible apply ev_astore); (· exact rfl)) | (with_reducible apply ev_dup_r) | (with_reducible apply ev_dup_i) | ((with_reducible apply ev_oinit); (· exact ev_rm rfl)) | dsimp only [qa_rs])
    refine ev_callm2 (ev_rm rfl) ⟨by show u.1 + 1 + 1 ≤ 33; omega, by show u.2 + 3 + 40 ≤ 704; omega⟩ ?_
    refine cj_Pk (lp := N + 1 + 2 * i) hJ4 ha (by omega) (by simp [qa_k_wi, qa_n_wi, qa_i_wi, qa_j_wi, qa_p_wi, qa_ia_wi, qa_ja_wi, qa_pa_wi, qa_k_wj, qa_n_wj, qa_i_wj, qa_j_wj, qa_p_wj, qa_ia_wj, qa_ja_wj, qa_pa_wj, qa_k_wp, qa_n_wp, qa_i_wp, qa_j_wp, qa_p_wp, qa_ia_wp, qa_ja_wp, qa_pa_wp, qa_k_wia, qa_n_wia, qa_i_wia, qa_j_wia, qa_p_wia, qa_ia_wia, qa_ja_wia, qa_pa_wia, qa_k_wja, qa_n_wja, qa_i_wja, qa_j_wja, qa_p_wja, qa_ia_wja, qa_ja_wja, qa_pa_wja, qa_k_wpa, qa_n_wpa, qa_i_wpa, qa_j_wpa, qa_p_wpa, qa_ia_wpa, qa_ja_wpa, qa_pa_wpa, qa_k_nw, qa_n_nw, qa_i_nw, qa_j_nw, qa_p_nw, qa_ia_nw, qa_ja_nw, qa_pa_nw, qa_k_na, qa_n_na, qa_i_na, qa_j_na, qa_p_na, qa_ia_na, qa_ja_na, qa_pa_na]) hro ?_
    intro M5 ad5 hJ5 hE5
    dsimp only [qa_rs]
    have s5 : ad5 N = s := by rw [(hE5 N (by omega)).1, (hE4 N (by omega)).1, hs3]
    have a5 : ad5 (N + 1 + 2 * i) = a := by rw [(hE5 _ (by omega)).1, ha]
    have hE35 := Ex.trans hE4 hE5 (by omega)
    have ks5 : qa_k M5 s = 1064 := by rw [← hs3, (hE35 N (by omega)).2, (hJ3.1 N (by omega)).1, f3]
    have ka5 : qa_k M5 a = 2 := by rw [← ha, (hE5 _ (by omega)).2, ha, hka]
    have kL5 : qa_k (lPk (qa_nw (lRw L N lr most room i) 2 (N + 1 + 2 * i)) (N + 1 + 2 * i + 1) (N + 1 + 2 * i) room) N = 1064 := by rw [← (hJ5.1 N (by omega)).1, s5, ks5]
    have ns5 : qa_n M5 s = most := by
      have := (hJ5.2.2.2.1 N (by omega) (by rw [kL5]; omega)).1
      rw [s5] at this
      rw [this]
      have e3 : ¬ N = N + 1 + 2 * i + 1 := by omega
      exact Eq.trans (b := qa_n (lRw L N lr most room i) N) (by simp [lPk, qa_k_wi, qa_n_wi, qa_i_wi, qa_j_wi, qa_p_wi, qa_ia_wi, qa_ja_wi, qa_pa_wi, qa_k_wj, qa_n_wj, qa_i_wj, qa_j_wj, qa_p_wj, qa_ia_wj, qa_ja_wj, qa_pa_wj, qa_k_wp, qa_n_wp, qa_i_wp, qa_j_wp, qa_p_wp, qa_ia_wp, qa_ja_wp, qa_pa_wp, qa_k_wia, qa_n_wia, qa_i_wia, qa_j_wia, qa_p_wia, qa_ia_wia, qa_ja_wia, qa_pa_wia, qa_k_wja, qa_n_wja, qa_i_wja, qa_j_wja, qa_p_wja, qa_ia_wja, qa_ja_wja, qa_pa_wja, qa_k_wpa, qa_n_wpa, qa_i_wpa, qa_j_wpa, qa_p_wpa, qa_ia_wpa, qa_ja_wpa, qa_pa_wpa, qa_k_nw, qa_n_nw, qa_i_nw, qa_j_nw, qa_p_nw, qa_ia_nw, qa_ja_nw, qa_pa_nw, qa_k_na, qa_n_na, qa_i_na, qa_j_na, qa_p_na, qa_ia_na, qa_ja_na, qa_pa_na, e3]) f2
    refine ev_aast ks5 ns5 ⟨by omega, by omega⟩ ka5 ?_
    refine ev_iincn rfl rfl ?_
    have hj5 := jm_wpa (κ := 1064) (l := N) (j := i) (r := N + 1 + 2 * i) hJ5 (by omega) (by omega) kL5 (by omega)
    rw [s5, a5] at hj5
    exact ⟨most - (i + 1), by omega, i + 1, ad5, by omega, rfl, by show u.1 + 1 + 1 = _; omega, by show u.2 + 3 + 40 = _; omega, rfl, rfl, hj5, Ex.trans hE3 hE35 (by omega), s5⟩
def lE1 (L : qa_M) (N le : Nat) : qa_M := qa_wp (qa_nw L 4 N) 161 le (some N)
def lE2 (L : qa_M) (N le : Nat) : qa_M := qa_wp (qa_nw (lE1 L N le) 4 (N + 1)) 162 le (some (N + 1))
def lE3 (L : qa_M) (N le : Nat) : qa_M := qa_wp (lPk (qa_nw (lE2 L N le) 2 (N + 2)) (N + 2 + 1) (N + 2) 16) 163 le (some (N + 2))
def lE4 (L : qa_M) (N le : Nat) : qa_M := qa_wp (lRw (qa_nw (lE3 L N le) 3 (N + 4)) (N + 4 + 1) (N + 4) 12 40 12) 164 le (some (N + 4))
def lE5 (L : qa_M) (N le : Nat) : qa_M := qa_wp (lRw (qa_nw (lE4 L N le) 3 (N + 30)) (N + 30 + 1) (N + 30) 16 16 16) 165 le (some (N + 30))
def lE6 (L : qa_M) (N le : Nat) : qa_M := qa_wp (qa_nw (lE5 L N le) 5 (N + 64)) 166 le (some (N + 64))
def lE7 (L : qa_M) (N le : Nat) : qa_M := qa_wp (qa_nw (lE6 L N le) 5 (N + 65)) 167 le (some (N + 65))
def lE8 (L : qa_M) (N le : Nat) : qa_M := qa_wp (lPk (qa_nw (lE7 L N le) 2 (N + 66)) (N + 66 + 1) (N + 66) 17) 168 le (some (N + 66))
def lEn (L : qa_M) (N le : Nat) (v : Int32) : qa_M := qa_wi (qa_wi (lE8 L N le) 171 le (-1)) 160 le v
set_option maxRecDepth 20000 in
set_option maxHeartbeats 4000000 in
theorem cx_En {M L : qa_M} {N e le num : Nat} {ad : Nat → Nat} {vl : Int32} {Po : Option Value → qa_M → Prop} (hJ : Jm M N ad L vl) (he : ad le = e) (hl : le < N) (hk : qa_k L le = 6) (h : ∀ M2 ad2, Jm M2 (N + 68) ad2 (lEn L N le (nI num)) vl → Ex M N ad M2 ad2 → Po none M2) : sp_En_init [.ref e, .int (nI num)] M Po := by
  have k0 : qa_k M e = 6 := by rw [← he, (hJ.1 le hl).1, hk]
  have hE0 := Ex.refl M N ad
  have hJ0 := hJ
  refine en_En_init ?_
  unfold kc_En_init_0
  repeat (first | (with_reducible apply ev_ic) | ((with_reducible apply ev_aload); (· exact rfl)) | ((with_reducible apply ev_iload); (· exact rfl)) | ((with_reducible apply ev_istore); (· exact rfl)) | ((with_reducible apply ev_astore); (· exact rfl)) | (with_reducible apply ev_dup_r) | (with_reducible apply ev_dup_i) | ((with_reducible apply ev_oinit); (· exact ev_rm rfl)) | dsimp only [qa_rs])
  refine ev_newJ hJ0 (by omega) (by decide) (by decide) (by decide) ?_
  intro a0 X0 bd0 hX0 ha0 hka0 hEX0
  repeat (first | (with_reducible apply ev_ic) | ((with_reducible apply ev_aload); (· exact rfl)) | ((with_reducible apply ev_iload); (· exact rfl)) | ((with_reducible apply ev_istore); (· exact rfl)) | ((with_reducible apply ev_astore); (· exact rfl)) | (with_reducible apply ev_dup_r) | (with_reducible apply ev_dup_i) | ((with_reducible apply ev_oinit); (· exact ev_rm rfl)) | dsimp only [qa_rs])
  refine ev_callm1 (ev_rm rfl) (by decide) ?_
  refine cj_Sd ?_
  have hEY0 := hEX0
  have hY0 := hX0
  have e0 : bd0 le = e := by rw [(hEX0 le (by omega)).1]; exact he
  have ky0 : qa_k X0 e = 6 := by
    have := (hEY0 le (by omega)).2
    rw [he] at this
    exact this.trans k0
  repeat (first | (with_reducible apply ev_ic) | ((with_reducible apply ev_aload); (· exact rfl)) | ((with_reducible apply ev_iload); (· exact rfl)) | ((with_reducible apply ev_istore); (· exact rfl)) | ((with_reducible apply ev_astore); (· exact rfl)) | (with_reducible apply ev_dup_r) | (with_reducible apply ev_dup_i) | ((with_reducible apply ev_oinit); (· exact ev_rm rfl)) | ((with_reducible apply ev_pp); (· first | exact ky0)) | ((with_reducible apply ev_pi); (· first | exact ky0)) | ((with_reducible apply ev_gp); (· first | exact ky0); (· first | exact ky0)) | dsimp only [qa_rs])
  have hj0 := jm_wp (f := 161) (l := le) (r := N) hY0 (by omega) (by omega) (by rw [← (hY0.1 le (by omega)).1, e0, ky0]; decide)
  rw [e0, show bd0 N = a0 from ha0] at hj0
  have hE1 : Ex M N ad (qa_wp X0 161 e (some a0)) bd0 := Ex.trans hE0 hEY0 (by omega)
  have k1 : qa_k (qa_wp X0 161 e (some a0)) e = 6 := ky0
  have el1 : bd0 le = e := e0
  have hJ1 : Jm (qa_wp X0 161 e (some a0)) (N + 1) bd0 (lE1 L N le) vl := hj0
  clear hj0 hY0 hX0 hEX0 hEY0
  generalize qa_wp X0 161 e (some a0) = M1 at hE1 k1 hJ1 ⊢
  generalize bd0 = ad1 at hE1 el1 hJ1
  refine ev_newJ hJ1 (by omega) (by decide) (by decide) (by decide) ?_
  intro a1 X1 bd1 hX1 ha1 hka1 hEX1
  repeat (first | (with_reducible apply ev_ic) | ((with_reducible apply ev_aload); (· exact rfl)) | ((with_reducible apply ev_iload); (· exact rfl)) | ((with_reducible apply ev_istore); (· exact rfl)) | ((with_reducible apply ev_astore); (· exact rfl)) | (with_reducible apply ev_dup_r) | (with_reducible apply ev_dup_i) | ((with_reducible apply ev_oinit); (· exact ev_rm rfl)) | dsimp only [qa_rs])
  refine ev_callm1 (ev_rm rfl) (by decide) ?_
  refine cj_Sd ?_
  have hEY1 := hEX1
  have hY1 := hX1
  have e1 : bd1 le = e := by rw [(hEX1 le (by omega)).1]; exact el1
  have ky1 : qa_k X1 e = 6 := by
    have := (hEY1 le (by omega)).2
    rw [el1] at this
    exact this.trans k1
  repeat (first | (with_reducible apply ev_ic) | ((with_reducible apply ev_aload); (· exact rfl)) | ((with_reducible apply ev_iload); (· exact rfl)) | ((with_reducible apply ev_istore); (· exact rfl)) | ((with_reducible apply ev_astore); (· exact rfl)) | (with_reducible apply ev_dup_r) | (with_reducible apply ev_dup_i) | ((with_reducible apply ev_oinit); (· exact ev_rm rfl)) | ((with_reducible apply ev_pp); (· first | exact ky1)) | ((with_reducible apply ev_pi); (· first | exact ky1)) | ((with_reducible apply ev_gp); (· first | exact ky1); (· first | exact ky1)) | dsimp only [qa_rs])
  have hj1 := jm_wp (f := 162) (l := le) (r := (N + 1)) hY1 (by omega) (by omega) (by rw [← (hY1.1 le (by omega)).1, e1, ky1]; decide)
  rw [e1, show bd1 (N + 1) = a1 from ha1] at hj1
  have hE2 : Ex M N ad (qa_wp X1 162 e (some a1)) bd1 := Ex.trans hE1 hEY1 (by omega)
  have k2 : qa_k (qa_wp X1 162 e (some a1)) e = 6 := ky1
  have el2 : bd1 le = e := e1
  have hJ2 : Jm (qa_wp X1 162 e (some a1)) (N + 2) bd1 (lE2 L N le) vl := hj1
  clear hj1 hY1 hX1 hEX1 hEY1
  generalize qa_wp X1 162 e (some a1) = M2 at hE2 k2 hJ2 ⊢
  generalize bd1 = ad2 at hE2 el2 hJ2
  refine ev_newJ hJ2 (by omega) (by decide) (by decide) (by decide) ?_
  intro a2 X2 bd2 hX2 ha2 hka2 hEX2
  repeat (first | (with_reducible apply ev_ic) | ((with_reducible apply ev_aload); (· exact rfl)) | ((with_reducible apply ev_iload); (· exact rfl)) | ((with_reducible apply ev_istore); (· exact rfl)) | ((with_reducible apply ev_astore); (· exact rfl)) | (with_reducible apply ev_dup_r) | (with_reducible apply ev_dup_i) | ((with_reducible apply ev_oinit); (· exact ev_rm rfl)) | dsimp only [qa_rs])
  refine ev_callm2 (ev_rm rfl) (by decide) ?_
  refine cj_Pk (lp := N + 2) hX2 ha2 (by omega) (by simp [qa_k_wi, qa_n_wi, qa_i_wi, qa_j_wi, qa_p_wi, qa_ia_wi, qa_ja_wi, qa_pa_wi, qa_k_wj, qa_n_wj, qa_i_wj, qa_j_wj, qa_p_wj, qa_ia_wj, qa_ja_wj, qa_pa_wj, qa_k_wp, qa_n_wp, qa_i_wp, qa_j_wp, qa_p_wp, qa_ia_wp, qa_ja_wp, qa_pa_wp, qa_k_wia, qa_n_wia, qa_i_wia, qa_j_wia, qa_p_wia, qa_ia_wia, qa_ja_wia, qa_pa_wia, qa_k_wja, qa_n_wja, qa_i_wja, qa_j_wja, qa_p_wja, qa_ia_wja, qa_ja_wja, qa_pa_wja, qa_k_wpa, qa_n_wpa, qa_i_wpa, qa_j_wpa, qa_p_wpa, qa_ia_wpa, qa_ja_wpa, qa_pa_wpa, qa_k_nw, qa_n_nw, qa_i_nw, qa_j_nw, qa_p_nw, qa_ia_nw, qa_ja_nw, qa_pa_nw, qa_k_na, qa_n_na, qa_i_na, qa_j_na, qa_p_na, qa_ia_na, qa_ja_na, qa_pa_na]) (by omega) ?_
  intro Y2 cd2 hY2 hEZ2
  have hEY2 := Ex.trans hEX2 hEZ2 (by omega)
  have e2 : cd2 le = e := by rw [(hEY2 le (by omega)).1]; exact el2
  have ky2 : qa_k Y2 e = 6 := by
    have := (hEY2 le (by omega)).2
    rw [el2] at this
    exact this.trans k2
  repeat (first | (with_reducible apply ev_ic) | ((with_reducible apply ev_aload); (· exact rfl)) | ((with_reducible apply ev_iload); (· exact rfl)) | ((with_reducible apply ev_istore); (· exact rfl)) | ((with_reducible apply ev_astore); (· exact rfl)) | (with_reducible apply ev_dup_r) | (with_reducible apply ev_dup_i) | ((with_reducible apply ev_oinit); (· exact ev_rm rfl)) | ((with_reducible apply ev_pp); (· first | exact ky2)) | ((with_reducible apply ev_pi); (· first | exact ky2)) | ((with_reducible apply ev_gp); (· first | exact ky2); (· first | exact ky2)) | dsimp only [qa_rs])
  have hj2 := jm_wp (f := 163) (l := le) (r := (N + 2)) hY2 (by omega) (by omega) (by rw [← (hY2.1 le (by omega)).1, e2, ky2]; decide)
  rw [e2, show cd2 (N + 2) = a2 from (hEZ2 _ (by omega)).1.trans ha2] at hj2
  have hE3 : Ex M N ad (qa_wp Y2 163 e (some a2)) cd2 := Ex.trans hE2 hEY2 (by omega)
  have k3 : qa_k (qa_wp Y2 163 e (some a2)) e = 6 := ky2
  have el3 : cd2 le = e := e2
  have hJ3 : Jm (qa_wp Y2 163 e (some a2)) (N + 4) cd2 (lE3 L N le) vl := hj2
  clear hj2 hY2 hX2 hEX2 hEY2
  generalize qa_wp Y2 163 e (some a2) = M3 at hE3 k3 hJ3 ⊢
  generalize cd2 = ad3 at hE3 el3 hJ3
  refine ev_newJ hJ3 (by omega) (by decide) (by decide) (by decide) ?_
  intro a3 X3 bd3 hX3 ha3 hka3 hEX3
  repeat (first | (with_reducible apply ev_ic) | ((with_reducible apply ev_aload); (· exact rfl)) | ((with_reducible apply ev_iload); (· exact rfl)) | ((with_reducible apply ev_istore); (· exact rfl)) | ((with_reducible apply ev_astore); (· exact rfl)) | (with_reducible apply ev_dup_r) | (with_reducible apply ev_dup_i) | ((with_reducible apply ev_oinit); (· exact ev_rm rfl)) | dsimp only [qa_rs])
  refine ev_callm3 (ev_rm rfl) (by decide) ?_
  refine cx_Rw (lr := N + 4) hX3 ha3 (by omega) (by simp [qa_k_wi, qa_n_wi, qa_i_wi, qa_j_wi, qa_p_wi, qa_ia_wi, qa_ja_wi, qa_pa_wi, qa_k_wj, qa_n_wj, qa_i_wj, qa_j_wj, qa_p_wj, qa_ia_wj, qa_ja_wj, qa_pa_wj, qa_k_wp, qa_n_wp, qa_i_wp, qa_j_wp, qa_p_wp, qa_ia_wp, qa_ja_wp, qa_pa_wp, qa_k_wia, qa_n_wia, qa_i_wia, qa_j_wia, qa_p_wia, qa_ia_wia, qa_ja_wia, qa_pa_wia, qa_k_wja, qa_n_wja, qa_i_wja, qa_j_wja, qa_p_wja, qa_ia_wja, qa_ja_wja, qa_pa_wja, qa_k_wpa, qa_n_wpa, qa_i_wpa, qa_j_wpa, qa_p_wpa, qa_ia_wpa, qa_ja_wpa, qa_pa_wpa, qa_k_nw, qa_n_nw, qa_i_nw, qa_j_nw, qa_p_nw, qa_ia_nw, qa_ja_nw, qa_pa_nw, qa_k_na, qa_n_na, qa_i_na, qa_j_na, qa_p_na, qa_ia_na, qa_ja_na, qa_pa_na]) (by omega) (by omega) ?_
  intro Y3 cd3 hY3 hEZ3
  have hEY3 := Ex.trans hEX3 hEZ3 (by omega)
  have e3 : cd3 le = e := by rw [(hEY3 le (by omega)).1]; exact el3
  have ky3 : qa_k Y3 e = 6 := by
    have := (hEY3 le (by omega)).2
    rw [el3] at this
    exact this.trans k3
  repeat (first | (with_reducible apply ev_ic) | ((with_reducible apply ev_aload); (· exact rfl)) | ((with_reducible apply ev_iload); (· exact rfl)) | ((with_reducible apply ev_istore); (· exact rfl)) | ((with_reducible apply ev_astore); (· exact rfl)) | (with_reducible apply ev_dup_r) | (with_reducible apply ev_dup_i) | ((with_reducible apply ev_oinit); (· exact ev_rm rfl)) | ((with_reducible apply ev_pp); (· first | exact ky3)) | ((with_reducible apply ev_pi); (· first | exact ky3)) | ((with_reducible apply ev_gp); (· first | exact ky3); (· first | exact ky3)) | dsimp only [qa_rs])
  have hj3 := jm_wp (f := 164) (l := le) (r := (N + 4)) hY3 (by omega) (by omega) (by rw [← (hY3.1 le (by omega)).1, e3, ky3]; decide)
  rw [e3, show cd3 (N + 4) = a3 from (hEZ3 _ (by omega)).1.trans ha3] at hj3
  have hE4 : Ex M N ad (qa_wp Y3 164 e (some a3)) cd3 := Ex.trans hE3 hEY3 (by omega)
  have k4 : qa_k (qa_wp Y3 164 e (some a3)) e = 6 := ky3
  have el4 : cd3 le = e := e3
  have hJ4 : Jm (qa_wp Y3 164 e (some a3)) (N + 30) cd3 (lE4 L N le) vl := hj3
  clear hj3 hY3 hX3 hEX3 hEY3
  generalize qa_wp Y3 164 e (some a3) = M4 at hE4 k4 hJ4 ⊢
  generalize cd3 = ad4 at hE4 el4 hJ4
  refine ev_newJ hJ4 (by omega) (by decide) (by decide) (by decide) ?_
  intro a4 X4 bd4 hX4 ha4 hka4 hEX4
  repeat (first | (with_reducible apply ev_ic) | ((with_reducible apply ev_aload); (· exact rfl)) | ((with_reducible apply ev_iload); (· exact rfl)) | ((with_reducible apply ev_istore); (· exact rfl)) | ((with_reducible apply ev_astore); (· exact rfl)) | (with_reducible apply ev_dup_r) | (with_reducible apply ev_dup_i) | ((with_reducible apply ev_oinit); (· exact ev_rm rfl)) | dsimp only [qa_rs])
  refine ev_callm3 (ev_rm rfl) (by decide) ?_
  refine cx_Rw (lr := N + 30) hX4 ha4 (by omega) (by simp [qa_k_wi, qa_n_wi, qa_i_wi, qa_j_wi, qa_p_wi, qa_ia_wi, qa_ja_wi, qa_pa_wi, qa_k_wj, qa_n_wj, qa_i_wj, qa_j_wj, qa_p_wj, qa_ia_wj, qa_ja_wj, qa_pa_wj, qa_k_wp, qa_n_wp, qa_i_wp, qa_j_wp, qa_p_wp, qa_ia_wp, qa_ja_wp, qa_pa_wp, qa_k_wia, qa_n_wia, qa_i_wia, qa_j_wia, qa_p_wia, qa_ia_wia, qa_ja_wia, qa_pa_wia, qa_k_wja, qa_n_wja, qa_i_wja, qa_j_wja, qa_p_wja, qa_ia_wja, qa_ja_wja, qa_pa_wja, qa_k_wpa, qa_n_wpa, qa_i_wpa, qa_j_wpa, qa_p_wpa, qa_ia_wpa, qa_ja_wpa, qa_pa_wpa, qa_k_nw, qa_n_nw, qa_i_nw, qa_j_nw, qa_p_nw, qa_ia_nw, qa_ja_nw, qa_pa_nw, qa_k_na, qa_n_na, qa_i_na, qa_j_na, qa_p_na, qa_ia_na, qa_ja_na, qa_pa_na]) (by omega) (by omega) ?_
  intro Y4 cd4 hY4 hEZ4
  have hEY4 := Ex.trans hEX4 hEZ4 (by omega)
  have e4 : cd4 le = e := by rw [(hEY4 le (by omega)).1]; exact el4
  have ky4 : qa_k Y4 e = 6 := by
    have := (hEY4 le (by omega)).2
    rw [el4] at this
    exact this.trans k4
  repeat (first | (with_reducible apply ev_ic) | ((with_reducible apply ev_aload); (· exact rfl)) | ((with_reducible apply ev_iload); (· exact rfl)) | ((with_reducible apply ev_istore); (· exact rfl)) | ((with_reducible apply ev_astore); (· exact rfl)) | (with_reducible apply ev_dup_r) | (with_reducible apply ev_dup_i) | ((with_reducible apply ev_oinit); (· exact ev_rm rfl)) | ((with_reducible apply ev_pp); (· first | exact ky4)) | ((with_reducible apply ev_pi); (· first | exact ky4)) | ((with_reducible apply ev_gp); (· first | exact ky4); (· first | exact ky4)) | dsimp only [qa_rs])
  have hj4 := jm_wp (f := 165) (l := le) (r := (N + 30)) hY4 (by omega) (by omega) (by rw [← (hY4.1 le (by omega)).1, e4, ky4]; decide)
  rw [e4, show cd4 (N + 30) = a4 from (hEZ4 _ (by omega)).1.trans ha4] at hj4
  have hE5 : Ex M N ad (qa_wp Y4 165 e (some a4)) cd4 := Ex.trans hE4 hEY4 (by omega)
  have k5 : qa_k (qa_wp Y4 165 e (some a4)) e = 6 := ky4
  have el5 : cd4 le = e := e4
  have hJ5 : Jm (qa_wp Y4 165 e (some a4)) (N + 64) cd4 (lE5 L N le) vl := hj4
  clear hj4 hY4 hX4 hEX4 hEY4
  generalize qa_wp Y4 165 e (some a4) = M5 at hE5 k5 hJ5 ⊢
  generalize cd4 = ad5 at hE5 el5 hJ5
  refine ev_newJ hJ5 (by omega) (by decide) (by decide) (by decide) ?_
  intro a5 X5 bd5 hX5 ha5 hka5 hEX5
  repeat (first | (with_reducible apply ev_ic) | ((with_reducible apply ev_aload); (· exact rfl)) | ((with_reducible apply ev_iload); (· exact rfl)) | ((with_reducible apply ev_istore); (· exact rfl)) | ((with_reducible apply ev_astore); (· exact rfl)) | (with_reducible apply ev_dup_r) | (with_reducible apply ev_dup_i) | ((with_reducible apply ev_oinit); (· exact ev_rm rfl)) | dsimp only [qa_rs])
  refine ev_callm1 (ev_rm rfl) (by decide) ?_
  refine cj_Ms ?_
  have hEY5 := hEX5
  have hY5 := hX5
  have e5 : bd5 le = e := by rw [(hEX5 le (by omega)).1]; exact el5
  have ky5 : qa_k X5 e = 6 := by
    have := (hEY5 le (by omega)).2
    rw [el5] at this
    exact this.trans k5
  repeat (first | (with_reducible apply ev_ic) | ((with_reducible apply ev_aload); (· exact rfl)) | ((with_reducible apply ev_iload); (· exact rfl)) | ((with_reducible apply ev_istore); (· exact rfl)) | ((with_reducible apply ev_astore); (· exact rfl)) | (with_reducible apply ev_dup_r) | (with_reducible apply ev_dup_i) | ((with_reducible apply ev_oinit); (· exact ev_rm rfl)) | ((with_reducible apply ev_pp); (· first | exact ky5)) | ((with_reducible apply ev_pi); (· first | exact ky5)) | ((with_reducible apply ev_gp); (· first | exact ky5); (· first | exact ky5)) | dsimp only [qa_rs])
  have hj5 := jm_wp (f := 166) (l := le) (r := (N + 64)) hY5 (by omega) (by omega) (by rw [← (hY5.1 le (by omega)).1, e5, ky5]; decide)
  rw [e5, show bd5 (N + 64) = a5 from ha5] at hj5
  have hE6 : Ex M N ad (qa_wp X5 166 e (some a5)) bd5 := Ex.trans hE5 hEY5 (by omega)
  have k6 : qa_k (qa_wp X5 166 e (some a5)) e = 6 := ky5
  have el6 : bd5 le = e := e5
  have hJ6 : Jm (qa_wp X5 166 e (some a5)) (N + 65) bd5 (lE6 L N le) vl := hj5
  clear hj5 hY5 hX5 hEX5 hEY5
  generalize qa_wp X5 166 e (some a5) = M6 at hE6 k6 hJ6 ⊢
  generalize bd5 = ad6 at hE6 el6 hJ6
  refine ev_newJ hJ6 (by omega) (by decide) (by decide) (by decide) ?_
  intro a6 X6 bd6 hX6 ha6 hka6 hEX6
  repeat (first | (with_reducible apply ev_ic) | ((with_reducible apply ev_aload); (· exact rfl)) | ((with_reducible apply ev_iload); (· exact rfl)) | ((with_reducible apply ev_istore); (· exact rfl)) | ((with_reducible apply ev_astore); (· exact rfl)) | (with_reducible apply ev_dup_r) | (with_reducible apply ev_dup_i) | ((with_reducible apply ev_oinit); (· exact ev_rm rfl)) | dsimp only [qa_rs])
  refine ev_callm1 (ev_rm rfl) (by decide) ?_
  refine cj_Ms ?_
  have hEY6 := hEX6
  have hY6 := hX6
  have e6 : bd6 le = e := by rw [(hEX6 le (by omega)).1]; exact el6
  have ky6 : qa_k X6 e = 6 := by
    have := (hEY6 le (by omega)).2
    rw [el6] at this
    exact this.trans k6
  repeat (first | (with_reducible apply ev_ic) | ((with_reducible apply ev_aload); (· exact rfl)) | ((with_reducible apply ev_iload); (· exact rfl)) | ((with_reducible apply ev_istore); (· exact rfl)) | ((with_reducible apply ev_astore); (· exact rfl)) | (with_reducible apply ev_dup_r) | (with_reducible apply ev_dup_i) | ((with_reducible apply ev_oinit); (· exact ev_rm rfl)) | ((with_reducible apply ev_pp); (· first | exact ky6)) | ((with_reducible apply ev_pi); (· first | exact ky6)) | ((with_reducible apply ev_gp); (· first | exact ky6); (· first | exact ky6)) | dsimp only [qa_rs])
  have hj6 := jm_wp (f := 167) (l := le) (r := (N + 65)) hY6 (by omega) (by omega) (by rw [← (hY6.1 le (by omega)).1, e6, ky6]; decide)
  rw [e6, show bd6 (N + 65) = a6 from ha6] at hj6
  have hE7 : Ex M N ad (qa_wp X6 167 e (some a6)) bd6 := Ex.trans hE6 hEY6 (by omega)
  have k7 : qa_k (qa_wp X6 167 e (some a6)) e = 6 := ky6
  have el7 : bd6 le = e := e6
  have hJ7 : Jm (qa_wp X6 167 e (some a6)) (N + 66) bd6 (lE7 L N le) vl := hj6
  clear hj6 hY6 hX6 hEX6 hEY6
  generalize qa_wp X6 167 e (some a6) = M7 at hE7 k7 hJ7 ⊢
  generalize bd6 = ad7 at hE7 el7 hJ7
  refine ev_newJ hJ7 (by omega) (by decide) (by decide) (by decide) ?_
  intro a7 X7 bd7 hX7 ha7 hka7 hEX7
  repeat (first | (with_reducible apply ev_ic) | ((with_reducible apply ev_aload); (· exact rfl)) | ((with_reducible apply ev_iload); (· exact rfl)) | ((with_reducible apply ev_istore); (· exact rfl)) | ((with_reducible apply ev_astore); (· exact rfl)) | (with_reducible apply ev_dup_r) | (with_reducible apply ev_dup_i) | ((with_reducible apply ev_oinit); (· exact ev_rm rfl)) | dsimp only [qa_rs])
  refine ev_callm2 (ev_rm rfl) (by decide) ?_
  refine cj_Pk (lp := N + 66) hX7 ha7 (by omega) (by simp [qa_k_wi, qa_n_wi, qa_i_wi, qa_j_wi, qa_p_wi, qa_ia_wi, qa_ja_wi, qa_pa_wi, qa_k_wj, qa_n_wj, qa_i_wj, qa_j_wj, qa_p_wj, qa_ia_wj, qa_ja_wj, qa_pa_wj, qa_k_wp, qa_n_wp, qa_i_wp, qa_j_wp, qa_p_wp, qa_ia_wp, qa_ja_wp, qa_pa_wp, qa_k_wia, qa_n_wia, qa_i_wia, qa_j_wia, qa_p_wia, qa_ia_wia, qa_ja_wia, qa_pa_wia, qa_k_wja, qa_n_wja, qa_i_wja, qa_j_wja, qa_p_wja, qa_ia_wja, qa_ja_wja, qa_pa_wja, qa_k_wpa, qa_n_wpa, qa_i_wpa, qa_j_wpa, qa_p_wpa, qa_ia_wpa, qa_ja_wpa, qa_pa_wpa, qa_k_nw, qa_n_nw, qa_i_nw, qa_j_nw, qa_p_nw, qa_ia_nw, qa_ja_nw, qa_pa_nw, qa_k_na, qa_n_na, qa_i_na, qa_j_na, qa_p_na, qa_ia_na, qa_ja_na, qa_pa_na]) (by omega) ?_
  intro Y7 cd7 hY7 hEZ7
  have hEY7 := Ex.trans hEX7 hEZ7 (by omega)
  have e7 : cd7 le = e := by rw [(hEY7 le (by omega)).1]; exact el7
  have ky7 : qa_k Y7 e = 6 := by
    have := (hEY7 le (by omega)).2
    rw [el7] at this
    exact this.trans k7
  repeat (first | (with_reducible apply ev_ic) | ((with_reducible apply ev_aload); (· exact rfl)) | ((with_reducible apply ev_iload); (· exact rfl)) | ((with_reducible apply ev_istore); (· exact rfl)) | ((with_reducible apply ev_astore); (· exact rfl)) | (with_reducible apply ev_dup_r) | (with_reducible apply ev_dup_i) | ((with_reducible apply ev_oinit); (· exact ev_rm rfl)) | ((with_reducible apply ev_pp); (· first | exact ky7)) | ((with_reducible apply ev_pi); (· first | exact ky7)) | ((with_reducible apply ev_gp); (· first | exact ky7); (· first | exact ky7)) | dsimp only [qa_rs])
  have hj7 := jm_wp (f := 168) (l := le) (r := (N + 66)) hY7 (by omega) (by omega) (by rw [← (hY7.1 le (by omega)).1, e7, ky7]; decide)
  rw [e7, show cd7 (N + 66) = a7 from (hEZ7 _ (by omega)).1.trans ha7] at hj7
  have hE8 : Ex M N ad (qa_wp Y7 168 e (some a7)) cd7 := Ex.trans hE7 hEY7 (by omega)
  have k8 : qa_k (qa_wp Y7 168 e (some a7)) e = 6 := ky7
  have el8 : cd7 le = e := e7
  have hJ8 : Jm (qa_wp Y7 168 e (some a7)) (N + 68) cd7 (lE8 L N le) vl := hj7
  clear hj7 hY7 hX7 hEX7 hEY7
  generalize qa_wp Y7 168 e (some a7) = M8 at hE8 k8 hJ8 ⊢
  generalize cd7 = ad8 at hE8 el8 hJ8
  repeat (first | (with_reducible apply ev_ic) | ((with_reducible apply ev_aload); (· exact rfl)) | ((with_reducible apply ev_iload); (· exact rfl)) | ((with_reducible apply ev_istore); (· exact rfl)) | ((with_reducible apply ev_astore); (· exact rfl)) | (with_reducible apply ev_dup_r) | (with_reducible apply ev_dup_i) | ((with_reducible apply ev_oinit); (· exact ev_rm rfl)) | ((with_reducible apply ev_pp); (· first | exact k8)) | ((with_reducible apply ev_pi); (· first | exact k8)) | ((with_reducible apply ev_gp); (· first | exact k8); (· first | exact k8)) | dsimp only [qa_rs])
  refine ev_vret ⟨by decide, by decide⟩ ?_
  have q1 := jm_wi (f := 171) (l := le) (v := -1) hJ8 (by omega) (by decide)
  have q2 := jm_wi (f := 160) (l := le) (v := nI num) q1 (by omega) (by decide)
  rw [el8] at q2
  exact h _ ad8 q2 hE8
def lS1 : qa_M := qa_na (qa_nw qa_M0 1 0) 1001 1 2
def lS3 : qa_M := qa_wpa (lEn (qa_nw lS1 6 2) 3 2 (nI 0)) 1001 1 0 (some 2)
def lS6 : qa_M := qa_wp (qa_wpa (lEn (qa_nw lS3 6 71) 72 71 (nI 1)) 1001 1 1 (some 71)) 1 0 (some 1)
def liv (l : Int32) : Int32 := if l < nI 1 then nI 100 else if nI 1000 < l then nI 100 else l
theorem jm_first {a c : Nat} (hc : 0 < c) : Jm (qa_nw qa_M0 c a) 1 (fun _ => a) (qa_nw qa_M0 c 0) 0 := by
  refine ⟨fun l hl => ?_, fun l l2 hl hl2 _ => by omega, fun b hb => ?_, fun l hl hk => ?_, fun l hl hk f => ?_, fun _ => ?_⟩
  · have e : l = 0 := by omega
    subst e
    simp [qa_k_wi, qa_n_wi, qa_i_wi, qa_j_wi, qa_p_wi, qa_ia_wi, qa_ja_wi, qa_pa_wi, qa_k_wj, qa_n_wj, qa_i_wj, qa_j_wj, qa_p_wj, qa_ia_wj, qa_ja_wj, qa_pa_wj, qa_k_wp, qa_n_wp, qa_i_wp, qa_j_wp, qa_p_wp, qa_ia_wp, qa_ja_wp, qa_pa_wp, qa_k_wia, qa_n_wia, qa_i_wia, qa_j_wia, qa_p_wia, qa_ia_wia, qa_ja_wia, qa_pa_wia, qa_k_wja, qa_n_wja, qa_i_wja, qa_j_wja, qa_p_wja, qa_ia_wja, qa_ja_wja, qa_pa_wja, qa_k_wpa, qa_n_wpa, qa_i_wpa, qa_j_wpa, qa_p_wpa, qa_ia_wpa, qa_ja_wpa, qa_pa_wpa, qa_k_nw, qa_n_nw, qa_i_nw, qa_j_nw, qa_p_nw, qa_ia_nw, qa_ja_nw, qa_pa_nw, qa_k_na, qa_n_na, qa_i_na, qa_j_na, qa_p_na, qa_ia_na, qa_ja_na, qa_pa_na]
    omega
  · by_cases e : b = a
    · exact ⟨0, by omega, e.symm⟩
    · exact absurd (by simp [qa_k_wi, qa_n_wi, qa_i_wi, qa_j_wi, qa_p_wi, qa_ia_wi, qa_ja_wi, qa_pa_wi, qa_k_wj, qa_n_wj, qa_i_wj, qa_j_wj, qa_p_wj, qa_ia_wj, qa_ja_wj, qa_pa_wj, qa_k_wp, qa_n_wp, qa_i_wp, qa_j_wp, qa_p_wp, qa_ia_wp, qa_ja_wp, qa_pa_wp, qa_k_wia, qa_n_wia, qa_i_wia, qa_j_wia, qa_p_wia, qa_ia_wia, qa_ja_wia, qa_pa_wia, qa_k_wja, qa_n_wja, qa_i_wja, qa_j_wja, qa_p_wja, qa_ia_wja, qa_ja_wja, qa_pa_wja, qa_k_wpa, qa_n_wpa, qa_i_wpa, qa_j_wpa, qa_p_wpa, qa_ia_wpa, qa_ja_wpa, qa_pa_wpa, qa_k_nw, qa_n_nw, qa_i_nw, qa_j_nw, qa_p_nw, qa_ia_nw, qa_ja_nw, qa_pa_nw, qa_k_na, qa_n_na, qa_i_na, qa_j_na, qa_p_na, qa_ia_na, qa_ja_na, qa_pa_na, e]; rfl) hb
  · exact ⟨rfl, fun j => ⟨rfl, rfl, rfl, fun r hr => by cases hr⟩⟩
  · have e : l = 0 := by omega
    subst e
    simp [qa_k_wi, qa_n_wi, qa_i_wi, qa_j_wi, qa_p_wi, qa_ia_wi, qa_ja_wi, qa_pa_wi, qa_k_wj, qa_n_wj, qa_i_wj, qa_j_wj, qa_p_wj, qa_ia_wj, qa_ja_wj, qa_pa_wj, qa_k_wp, qa_n_wp, qa_i_wp, qa_j_wp, qa_p_wp, qa_ia_wp, qa_ja_wp, qa_pa_wp, qa_k_wia, qa_n_wia, qa_i_wia, qa_j_wia, qa_p_wia, qa_ia_wia, qa_ja_wia, qa_pa_wia, qa_k_wja, qa_n_wja, qa_i_wja, qa_j_wja, qa_p_wja, qa_ia_wja, qa_ja_wja, qa_pa_wja, qa_k_wpa, qa_n_wpa, qa_i_wpa, qa_j_wpa, qa_p_wpa, qa_ia_wpa, qa_ja_wpa, qa_pa_wpa, qa_k_nw, qa_n_nw, qa_i_nw, qa_j_nw, qa_p_nw, qa_ia_nw, qa_ja_nw, qa_pa_nw, qa_k_na, qa_n_na, qa_i_na, qa_j_na, qa_p_na, qa_ia_na, qa_ja_na, qa_pa_na]
  · simp [qa_k_wi, qa_n_wi, qa_i_wi, qa_j_wi, qa_p_wi, qa_ia_wi, qa_ja_wi, qa_pa_wi, qa_k_wj, qa_n_wj, qa_i_wj, qa_j_wj, qa_p_wj, qa_ia_wj, qa_ja_wj, qa_pa_wj, qa_k_wp, qa_n_wp, qa_i_wp, qa_j_wp, qa_p_wp, qa_ia_wp, qa_ja_wp, qa_pa_wp, qa_k_wia, qa_n_wia, qa_i_wia, qa_j_wia, qa_p_wia, qa_ia_wia, qa_ja_wia, qa_pa_wia, qa_k_wja, qa_n_wja, qa_i_wja, qa_j_wja, qa_p_wja, qa_ia_wja, qa_ja_wja, qa_pa_wja, qa_k_wpa, qa_n_wpa, qa_i_wpa, qa_j_wpa, qa_p_wpa, qa_ia_wpa, qa_ja_wpa, qa_pa_wpa, qa_k_nw, qa_n_nw, qa_i_nw, qa_j_nw, qa_p_nw, qa_ia_nw, qa_ja_nw, qa_pa_nw, qa_k_na, qa_n_na, qa_i_na, qa_j_na, qa_p_na, qa_ia_na, qa_ja_na, qa_pa_na]
set_option maxRecDepth 20000 in
set_option maxHeartbeats 4000000 in
theorem cx_SR {M : qa_M} {x : Nat} {ad : Nat → Nat} {l : Int32} {Po : Option Value → qa_M → Prop} (hJ : Jm M 1 ad (qa_nw qa_M0 1 0) 0) (hx : ad 0 = x) (h : ∀ M2 ad2, Jm M2 140 ad2 lS6 (liv l) → Ex M 1 ad M2 ad2 → Po none M2) : sp_SR_init [.ref x, .int l] M Po := by
  have kx : qa_k M x = 1 := by rw [← hx, (hJ.1 0 (by omega)).1]; simp [qa_k_wi, qa_n_wi, qa_i_wi, qa_j_wi, qa_p_wi, qa_ia_wi, qa_ja_wi, qa_pa_wi, qa_k_wj, qa_n_wj, qa_i_wj, qa_j_wj, qa_p_wj, qa_ia_wj, qa_ja_wj, qa_pa_wj, qa_k_wp, qa_n_wp, qa_i_wp, qa_j_wp, qa_p_wp, qa_ia_wp, qa_ja_wp, qa_pa_wp, qa_k_wia, qa_n_wia, qa_i_wia, qa_j_wia, qa_p_wia, qa_ia_wia, qa_ja_wia, qa_pa_wia, qa_k_wja, qa_n_wja, qa_i_wja, qa_j_wja, qa_p_wja, qa_ia_wja, qa_ja_wja, qa_pa_wja, qa_k_wpa, qa_n_wpa, qa_i_wpa, qa_j_wpa, qa_p_wpa, qa_ia_wpa, qa_ja_wpa, qa_pa_wpa, qa_k_nw, qa_n_nw, qa_i_nw, qa_j_nw, qa_p_nw, qa_ia_nw, qa_ja_nw, qa_pa_nw, qa_k_na, qa_n_na, qa_i_na, qa_j_na, qa_p_na, qa_ia_na, qa_ja_na, qa_pa_na]
  have go : ∀ v : Int32, v = liv l → kc_SR_init_23 Po (0, 0) [some (.ref x), some (.int l)] [.int v, .ref x] M := by
    intro v hv
    unfold kc_SR_init_23
    have hL := jm_lim (v := v) hJ (by omega)
    rw [hx, hv] at hL
    subst hv
    repeat (first | (with_reducible apply ev_ic) | ((with_reducible apply ev_aload); (· exact rfl)) | ((with_reducible apply ev_iload); (· exact rfl)) | ((with_reducible apply ev_istore); (· exact rfl)) | ((with_reducible apply ev_astore); (· exact rfl)) | (with_reducible apply ev_dup_r) | (with_reducible apply ev_dup_i) | ((with_reducible apply ev_oinit); (· exact ev_rm rfl)) | ((with_reducible apply ev_pp); (· first | exact kx)) | ((with_reducible apply ev_pi); (· first | exact kx)) | ((with_reducible apply ev_gp); (· first | exact kx); (· first | exact kx)) | dsimp only [qa_rs])
    refine ev_newaJ hL (by omega) (by omega) (by omega) (by decide) ?_
    intro s M1 ad1 hJ1 hs hks hns hE1
    repeat (first | (with_reducible apply ev_ic) | ((with_reducible apply ev_aload); (· exact rfl)) | ((with_reducible apply ev_iload); (· exact rfl)) | ((with_reducible apply ev_istore); (· exact rfl)) | ((with_reducible apply ev_astore); (· exact rfl)) | (with_reducible apply ev_dup_r) | (with_reducible apply ev_dup_i) | ((with_reducible apply ev_oinit); (· exact ev_rm rfl)) | dsimp only [qa_rs])
    refine ev_newJ hJ1 (by omega) (by decide) (by decide) (by decide) ?_
    intro a M2 ad2 hJ2 ha hka hE2
    repeat (first | (with_reducible apply ev_ic) | ((with_reducible apply ev_aload); (· exact rfl)) | ((with_reducible apply ev_iload); (· exact rfl)) | ((with_reducible apply ev_istore); (· exact rfl)) | ((with_reducible apply ev_astore); (· exact rfl)) | (with_reducible apply ev_dup_r) | (with_reducible apply ev_dup_i) | ((with_reducible apply ev_oinit); (· exact ev_rm rfl)) | dsimp only [qa_rs])
    refine ev_callm2 (ev_rm rfl) (by decide) ?_
    refine cx_En (le := 2) hJ2 ha (by omega) (by simp [qa_k_wi, qa_n_wi, qa_i_wi, qa_j_wi, qa_p_wi, qa_ia_wi, qa_ja_wi, qa_pa_wi, qa_k_wj, qa_n_wj, qa_i_wj, qa_j_wj, qa_p_wj, qa_ia_wj, qa_ja_wj, qa_pa_wj, qa_k_wp, qa_n_wp, qa_i_wp, qa_j_wp, qa_p_wp, qa_ia_wp, qa_ja_wp, qa_pa_wp, qa_k_wia, qa_n_wia, qa_i_wia, qa_j_wia, qa_p_wia, qa_ia_wia, qa_ja_wia, qa_pa_wia, qa_k_wja, qa_n_wja, qa_i_wja, qa_j_wja, qa_p_wja, qa_ia_wja, qa_ja_wja, qa_pa_wja, qa_k_wpa, qa_n_wpa, qa_i_wpa, qa_j_wpa, qa_p_wpa, qa_ia_wpa, qa_ja_wpa, qa_pa_wpa, qa_k_nw, qa_n_nw, qa_i_nw, qa_j_nw, qa_p_nw, qa_ia_nw, qa_ja_nw, qa_pa_nw, qa_k_na, qa_n_na, qa_i_na, qa_j_na, qa_p_na, qa_ia_na, qa_ja_na, qa_pa_na]) ?_
    intro M3 ad3 hJ3' hE3
    have hJ3 : Jm M3 71 ad3 (lEn (qa_nw lS1 6 2) 3 2 (nI 0)) (liv l) := hJ3'
    dsimp only [qa_rs]
    have hE13 := Ex.trans hE2 hE3 (by omega)
    have s3 : ad3 1 = s := by rw [(hE13 1 (by omega)).1, hs]
    have a3 : ad3 2 = a := by rw [(hE3 2 (by omega)).1, ha]
    have ks3 : qa_k M3 s = 1001 := by rw [← hs, (hE13 1 (by omega)).2, hs, hks]
    have ka3 : qa_k M3 a = 6 := by rw [← ha, (hE3 2 (by omega)).2, ha, hka]
    have kL3 : qa_k (lEn (qa_nw lS1 6 2) 3 2 (nI 0)) 1 = 1001 := by rw [← (hJ3.1 1 (by omega)).1, s3, ks3]
    have ns3 : qa_n M3 s = 2 := by
      have := (hJ3.2.2.2.1 1 (by omega) (by rw [kL3]; omega)).1
      rw [s3] at this
      rw [this]
      decide +kernel
    refine ev_aast ks3 ns3 ⟨by omega, by omega⟩ ka3 ?_
    have hj3 := jm_wpa (κ := 1001) (l := 1) (j := 0) (r := 2) hJ3 (by omega) (by omega) kL3 (by omega)
    rw [s3, a3] at hj3
    have hj3 : Jm (qa_wpa M3 1001 s 0 (some a)) 71 ad3 lS3 (liv l) := hj3
    have hE3b : Ex M1 2 ad1 (qa_wpa M3 1001 s 0 (some a)) ad3 := hE13
    have ks3b : qa_k (qa_wpa M3 1001 s 0 (some a)) s = 1001 := ks3
    generalize qa_wpa M3 1001 s 0 (some a) = M4 at hj3 hE3b ks3b ⊢
    repeat (first | (with_reducible apply ev_ic) | ((with_reducible apply ev_aload); (· exact rfl)) | ((with_reducible apply ev_iload); (· exact rfl)) | ((with_reducible apply ev_istore); (· exact rfl)) | ((with_reducible apply ev_astore); (· exact rfl)) | (with_reducible apply ev_dup_r) | (with_reducible apply ev_dup_i) | ((with_reducible apply ev_oinit); (· exact ev_rm rfl)) | dsimp only [qa_rs])
    refine ev_newJ hj3 (by omega) (by decide) (by decide) (by decide) ?_
    intro b M5 ad5 hJ5 hb hkb hE5
    repeat (first | (with_reducible apply ev_ic) | ((with_reducible apply ev_aload); (· exact rfl)) | ((with_reducible apply ev_iload); (· exact rfl)) | ((with_reducible apply ev_istore); (· exact rfl)) | ((with_reducible apply ev_astore); (· exact rfl)) | (with_reducible apply ev_dup_r) | (with_reducible apply ev_dup_i) | ((with_reducible apply ev_oinit); (· exact ev_rm rfl)) | dsimp only [qa_rs])
    refine ev_callm2 (ev_rm rfl) (by decide) ?_
    refine cx_En (le := 71) hJ5 hb (by omega) (by simp [qa_k_wi, qa_n_wi, qa_i_wi, qa_j_wi, qa_p_wi, qa_ia_wi, qa_ja_wi, qa_pa_wi, qa_k_wj, qa_n_wj, qa_i_wj, qa_j_wj, qa_p_wj, qa_ia_wj, qa_ja_wj, qa_pa_wj, qa_k_wp, qa_n_wp, qa_i_wp, qa_j_wp, qa_p_wp, qa_ia_wp, qa_ja_wp, qa_pa_wp, qa_k_wia, qa_n_wia, qa_i_wia, qa_j_wia, qa_p_wia, qa_ia_wia, qa_ja_wia, qa_pa_wia, qa_k_wja, qa_n_wja, qa_i_wja, qa_j_wja, qa_p_wja, qa_ia_wja, qa_ja_wja, qa_pa_wja, qa_k_wpa, qa_n_wpa, qa_i_wpa, qa_j_wpa, qa_p_wpa, qa_ia_wpa, qa_ja_wpa, qa_pa_wpa, qa_k_nw, qa_n_nw, qa_i_nw, qa_j_nw, qa_p_nw, qa_ia_nw, qa_ja_nw, qa_pa_nw, qa_k_na, qa_n_na, qa_i_na, qa_j_na, qa_p_na, qa_ia_na, qa_ja_na, qa_pa_na]) ?_
    intro M6 ad6 hJ6' hE6
    have hJ6 : Jm M6 140 ad6 (lEn (qa_nw lS3 6 71) 72 71 (nI 1)) (liv l) := hJ6'
    dsimp only [qa_rs]
    have hE56 := Ex.trans hE5 hE6 (by omega)
    have s6 : ad6 1 = s := by rw [(hE56 1 (by omega)).1, s3]
    have b6 : ad6 71 = b := by rw [(hE6 71 (by omega)).1, hb]
    have ks6 : qa_k M6 s = 1001 := by rw [← s3, (hE56 1 (by omega)).2, s3, ks3b]
    have kb6 : qa_k M6 b = 6 := by rw [← hb, (hE6 71 (by omega)).2, hb, hkb]
    have kL6 : qa_k (lEn (qa_nw lS3 6 71) 72 71 (nI 1)) 1 = 1001 := by rw [← (hJ6.1 1 (by omega)).1, s6, ks6]
    have ns6 : qa_n M6 s = 2 := by
      have := (hJ6.2.2.2.1 1 (by omega) (by rw [kL6]; omega)).1
      rw [s6] at this
      rw [this]
      decide +kernel
    refine ev_aast ks6 ns6 ⟨by omega, by omega⟩ kb6 ?_
    have hj6 := jm_wpa (κ := 1001) (l := 1) (j := 1) (r := 71) hJ6 (by omega) (by omega) kL6 (by omega)
    rw [s6, b6] at hj6
    have hE16 := Ex.trans hE1 (Ex.trans hE3b hE56 (by omega)) (by omega)
    have x6 : ad6 0 = x := by rw [(hE16 0 (by omega)).1, hx]
    have kx6 : qa_k (qa_wpa M6 1001 s 1 (some b)) x = 1 := by
      have := (hE16 0 (by omega)).2
      rw [hx] at this
      exact this.trans kx
    repeat (first | (with_reducible apply ev_ic) | ((with_reducible apply ev_aload); (· exact rfl)) | ((with_reducible apply ev_iload); (· exact rfl)) | ((with_reducible apply ev_istore); (· exact rfl)) | ((with_reducible apply ev_astore); (· exact rfl)) | (with_reducible apply ev_dup_r) | (with_reducible apply ev_dup_i) | ((with_reducible apply ev_oinit); (· exact ev_rm rfl)) | ((with_reducible apply ev_pp); (· first | exact kx6)) | ((with_reducible apply ev_pi); (· first | exact kx6)) | ((with_reducible apply ev_gp); (· first | exact kx6); (· first | exact kx6)) | dsimp only [qa_rs])
    refine ev_vret ⟨by decide, by decide⟩ ?_
    have hj7 := jm_wp (f := 1) (l := 0) (r := 1) hj6 (by omega) (by omega) (by rw [← (hj6.1 0 (by omega)).1, x6, kx6]; decide)
    rw [x6, s6] at hj7
    exact h _ ad6 hj7 hE16
  refine en_SR_init ?_
  unfold kc_SR_init_0
  repeat (first | (with_reducible apply ev_ic) | ((with_reducible apply ev_aload); (· exact rfl)) | ((with_reducible apply ev_iload); (· exact rfl)) | ((with_reducible apply ev_istore); (· exact rfl)) | ((with_reducible apply ev_astore); (· exact rfl)) | (with_reducible apply ev_dup_r) | (with_reducible apply ev_dup_i) | ((with_reducible apply ev_oinit); (· exact ev_rm rfl)) | dsimp only [qa_rs])
  by_cases h1 : l < nI 1
  · refine ev_iclt_T h1 ?_
    unfold kc_SR_init_21
    repeat (first | (with_reducible apply ev_ic) | ((with_reducible apply ev_aload); (· exact rfl)) | ((with_reducible apply ev_iload); (· exact rfl)) | ((with_reducible apply ev_istore); (· exact rfl)) | ((with_reducible apply ev_astore); (· exact rfl)) | (with_reducible apply ev_dup_r) | (with_reducible apply ev_dup_i) | ((with_reducible apply ev_oinit); (· exact ev_rm rfl)) | dsimp only [qa_rs])
    exact go (nI 100) (by unfold liv; rw [if_pos h1])
  · refine ev_iclt_F h1 ?_
    repeat (first | (with_reducible apply ev_ic) | ((with_reducible apply ev_aload); (· exact rfl)) | ((with_reducible apply ev_iload); (· exact rfl)) | ((with_reducible apply ev_istore); (· exact rfl)) | ((with_reducible apply ev_astore); (· exact rfl)) | (with_reducible apply ev_dup_r) | (with_reducible apply ev_dup_i) | ((with_reducible apply ev_oinit); (· exact ev_rm rfl)) | dsimp only [qa_rs])
    by_cases h2 : nI 1000 < l
    · refine ev_icgt_T h2 ?_
      unfold kc_SR_init_21
      repeat (first | (with_reducible apply ev_ic) | ((with_reducible apply ev_aload); (· exact rfl)) | ((with_reducible apply ev_iload); (· exact rfl)) | ((with_reducible apply ev_istore); (· exact rfl)) | ((with_reducible apply ev_astore); (· exact rfl)) | (with_reducible apply ev_dup_r) | (with_reducible apply ev_dup_i) | ((with_reducible apply ev_oinit); (· exact ev_rm rfl)) | dsimp only [qa_rs])
      exact go (nI 100) (by unfold liv; rw [if_neg h1, if_pos h2])
    · refine ev_icgt_F h2 ?_
      repeat (first | (with_reducible apply ev_ic) | ((with_reducible apply ev_aload); (· exact rfl)) | ((with_reducible apply ev_iload); (· exact rfl)) | ((with_reducible apply ev_istore); (· exact rfl)) | ((with_reducible apply ev_astore); (· exact rfl)) | (with_reducible apply ev_dup_r) | (with_reducible apply ev_dup_i) | ((with_reducible apply ev_oinit); (· exact ev_rm rfl)) | dsimp only [qa_rs])
      exact go l (by unfold liv; rw [if_neg h1, if_neg h2])
def lM0 : qa_M := qa_nw lS6 7 140
def lM1 : qa_M := qa_wp (qa_na lM0 1193 141 2) 193 140 (some 141)
def lM2 : qa_M := qa_wp (qa_na lM1 1194 142 2) 194 140 (some 142)
def lM3 : qa_M := qa_wp (qa_na lM2 1195 143 4) 195 140 (some 143)
def lM4 : qa_M := qa_wp (qa_na lM3 1196 144 4) 196 140 (some 144)
def lM5 : qa_M := qa_wp (qa_na lM4 1197 145 4) 197 140 (some 145)
def lM6 : qa_M := qa_wp (qa_na lM5 1198 146 4) 198 140 (some 146)
def lM7 : qa_M := qa_wp (qa_na lM6 1199 147 2) 199 140 (some 147)
def lM8 : qa_M := qa_wp (qa_na lM7 1200 148 2) 200 140 (some 148)
def lM9 : qa_M := qa_wp (qa_na lM8 1201 149 32) 201 140 (some 149)
def lM10 : qa_M := qa_wp (qa_na lM9 1202 150 2) 202 140 (some 150)
def lM11 : qa_M := qa_wp (qa_na lM10 1203 151 2) 203 140 (some 151)
def lM12 : qa_M := qa_wp (qa_na lM11 1204 152 24) 204 140 (some 152)
def lM13 : qa_M := qa_wp (qa_na lM12 1205 153 24) 205 140 (some 153)
def lM14 : qa_M := qa_wp (qa_na lM13 1206 154 960) 206 140 (some 154)
def lM15 : qa_M := qa_wp (qa_na lM14 1207 155 2) 207 140 (some 155)
def lM16 : qa_M := qa_wp (qa_na lM15 1208 156 32) 208 140 (some 156)
def lM17 : qa_M := qa_wp (qa_na lM16 1209 157 32) 209 140 (some 157)
def lM18 : qa_M := qa_wp (qa_na lM17 1210 158 512) 210 140 (some 158)
def lM19 : qa_M := qa_wp (qa_na lM18 1211 159 2) 211 140 (some 159)
def lM20 : qa_M := qa_wp (qa_na lM19 1212 160 600) 212 140 (some 160)
def lM21 : qa_M := qa_wp (qa_na lM20 1215 161 40) 215 140 (some 161)
set_option maxRecDepth 20000 in
set_option maxHeartbeats 4000000 in
theorem cx_Mo {M : qa_M} {m : Nat} {ad : Nat → Nat} {l vl : Int32} {Po : Option Value → qa_M → Prop} (hJ : Jm M 141 ad lM0 vl) (hm : ad 140 = m) (h : ∀ M2 ad2, Jm M2 162 ad2 lM21 vl → Ex M 141 ad M2 ad2 → qa_i M2 192 m = liv l → Po none M2) : sp_Mo_init [.ref m, .int l] M Po := by
  have k0 : qa_k M m = 7 := by rw [← hm, (hJ.1 140 (by omega)).1]; decide +kernel
  have hE0 := Ex.refl M 141 ad
  have hJ0 := hJ
  have em0 := hm
  refine en_Mo_init ?_
  unfold kc_Mo_init_0
  repeat (first | (with_reducible apply ev_ic) | ((with_reducible apply ev_aload); (· exact rfl)) | ((with_reducible apply ev_iload); (· exact rfl)) | ((with_reducible apply ev_istore); (· exact rfl)) | ((with_reducible apply ev_astore); (· exact rfl)) | (with_reducible apply ev_dup_r) | (with_reducible apply ev_dup_i) | ((with_reducible apply ev_oinit); (· exact ev_rm rfl)) | dsimp only [qa_rs])
  refine ev_newaJ hJ0 (by omega) (by omega) (by omega) (by decide) ?_
  intro a0 X0 bd0 hX0 ha0 hka0 hna0 hEX0
  have e0 : bd0 140 = m := by rw [(hEX0 140 (by omega)).1]; exact em0
  have ky0 : qa_k X0 m = 7 := by
    have := (hEX0 140 (by omega)).2
    rw [em0] at this
    exact this.trans k0
  repeat (first | (with_reducible apply ev_ic) | ((with_reducible apply ev_aload); (· exact rfl)) | ((with_reducible apply ev_iload); (· exact rfl)) | ((with_reducible apply ev_istore); (· exact rfl)) | ((with_reducible apply ev_astore); (· exact rfl)) | (with_reducible apply ev_dup_r) | (with_reducible apply ev_dup_i) | ((with_reducible apply ev_oinit); (· exact ev_rm rfl)) | ((with_reducible apply ev_pp); (· first | exact ky0)) | ((with_reducible apply ev_pi); (· first | exact ky0)) | ((with_reducible apply ev_gp); (· first | exact ky0); (· first | exact ky0)) | dsimp only [qa_rs])
  have hj0 := jm_wp (f := 193) (l := 140) (r := 141) hX0 (by omega) (by omega) (by rw [← (hX0.1 140 (by omega)).1, e0, ky0]; decide)
  rw [e0, ha0] at hj0
  have hE1 : Ex M 141 ad (qa_wp X0 193 m (some a0)) bd0 := Ex.trans hE0 hEX0 (by omega)
  have k1 : qa_k (qa_wp X0 193 m (some a0)) m = 7 := ky0
  have em1 : bd0 140 = m := e0
  have hJ1 : Jm (qa_wp X0 193 m (some a0)) 142 bd0 lM1 vl := hj0
  clear hj0 hX0 hEX0
  generalize qa_wp X0 193 m (some a0) = M1 at hE1 k1 hJ1 ⊢
  refine ev_newaJ hJ1 (by omega) (by omega) (by omega) (by decide) ?_
  intro a1 X1 bd1 hX1 ha1 hka1 hna1 hEX1
  have e1 : bd1 140 = m := by rw [(hEX1 140 (by omega)).1]; exact em1
  have ky1 : qa_k X1 m = 7 := by
    have := (hEX1 140 (by omega)).2
    rw [em1] at this
    exact this.trans k1
  repeat (first | (with_reducible apply ev_ic) | ((with_reducible apply ev_aload); (· exact rfl)) | ((with_reducible apply ev_iload); (· exact rfl)) | ((with_reducible apply ev_istore); (· exact rfl)) | ((with_reducible apply ev_astore); (· exact rfl)) | (with_reducible apply ev_dup_r) | (with_reducible apply ev_dup_i) | ((with_reducible apply ev_oinit); (· exact ev_rm rfl)) | ((with_reducible apply ev_pp); (· first | exact ky1)) | ((with_reducible apply ev_pi); (· first | exact ky1)) | ((with_reducible apply ev_gp); (· first | exact ky1); (· first | exact ky1)) | dsimp only [qa_rs])
  have hj1 := jm_wp (f := 194) (l := 140) (r := 142) hX1 (by omega) (by omega) (by rw [← (hX1.1 140 (by omega)).1, e1, ky1]; decide)
  rw [e1, ha1] at hj1
  have hE2 : Ex M 141 ad (qa_wp X1 194 m (some a1)) bd1 := Ex.trans hE1 hEX1 (by omega)
  have k2 : qa_k (qa_wp X1 194 m (some a1)) m = 7 := ky1
  have em2 : bd1 140 = m := e1
  have hJ2 : Jm (qa_wp X1 194 m (some a1)) 143 bd1 lM2 vl := hj1
  clear hj1 hX1 hEX1
  generalize qa_wp X1 194 m (some a1) = M2 at hE2 k2 hJ2 ⊢
  refine ev_newaJ hJ2 (by omega) (by omega) (by omega) (by decide) ?_
  intro a2 X2 bd2 hX2 ha2 hka2 hna2 hEX2
  have e2 : bd2 140 = m := by rw [(hEX2 140 (by omega)).1]; exact em2
  have ky2 : qa_k X2 m = 7 := by
    have := (hEX2 140 (by omega)).2
    rw [em2] at this
    exact this.trans k2
  repeat (first | (with_reducible apply ev_ic) | ((with_reducible apply ev_aload); (· exact rfl)) | ((with_reducible apply ev_iload); (· exact rfl)) | ((with_reducible apply ev_istore); (· exact rfl)) | ((with_reducible apply ev_astore); (· exact rfl)) | (with_reducible apply ev_dup_r) | (with_reducible apply ev_dup_i) | ((with_reducible apply ev_oinit); (· exact ev_rm rfl)) | ((with_reducible apply ev_pp); (· first | exact ky2)) | ((with_reducible apply ev_pi); (· first | exact ky2)) | ((with_reducible apply ev_gp); (· first | exact ky2); (· first | exact ky2)) | dsimp only [qa_rs])
  have hj2 := jm_wp (f := 195) (l := 140) (r := 143) hX2 (by omega) (by omega) (by rw [← (hX2.1 140 (by omega)).1, e2, ky2]; decide)
  rw [e2, ha2] at hj2
  have hE3 : Ex M 141 ad (qa_wp X2 195 m (some a2)) bd2 := Ex.trans hE2 hEX2 (by omega)
  have k3 : qa_k (qa_wp X2 195 m (some a2)) m = 7 := ky2
  have em3 : bd2 140 = m := e2
  have hJ3 : Jm (qa_wp X2 195 m (some a2)) 144 bd2 lM3 vl := hj2
  clear hj2 hX2 hEX2
  generalize qa_wp X2 195 m (some a2) = M3 at hE3 k3 hJ3 ⊢
  refine ev_newaJ hJ3 (by omega) (by omega) (by omega) (by decide) ?_
  intro a3 X3 bd3 hX3 ha3 hka3 hna3 hEX3
  have e3 : bd3 140 = m := by rw [(hEX3 140 (by omega)).1]; exact em3
  have ky3 : qa_k X3 m = 7 := by
    have := (hEX3 140 (by omega)).2
    rw [em3] at this
    exact this.trans k3
  repeat (first | (with_reducible apply ev_ic) | ((with_reducible apply ev_aload); (· exact rfl)) | ((with_reducible apply ev_iload); (· exact rfl)) | ((with_reducible apply ev_istore); (· exact rfl)) | ((with_reducible apply ev_astore); (· exact rfl)) | (with_reducible apply ev_dup_r) | (with_reducible apply ev_dup_i) | ((with_reducible apply ev_oinit); (· exact ev_rm rfl)) | ((with_reducible apply ev_pp); (· first | exact ky3)) | ((with_reducible apply ev_pi); (· first | exact ky3)) | ((with_reducible apply ev_gp); (· first | exact ky3); (· first | exact ky3)) | dsimp only [qa_rs])
  have hj3 := jm_wp (f := 196) (l := 140) (r := 144) hX3 (by omega) (by omega) (by rw [← (hX3.1 140 (by omega)).1, e3, ky3]; decide)
  rw [e3, ha3] at hj3
  have hE4 : Ex M 141 ad (qa_wp X3 196 m (some a3)) bd3 := Ex.trans hE3 hEX3 (by omega)
  have k4 : qa_k (qa_wp X3 196 m (some a3)) m = 7 := ky3
  have em4 : bd3 140 = m := e3
  have hJ4 : Jm (qa_wp X3 196 m (some a3)) 145 bd3 lM4 vl := hj3
  clear hj3 hX3 hEX3
  generalize qa_wp X3 196 m (some a3) = M4 at hE4 k4 hJ4 ⊢
  refine ev_newaJ hJ4 (by omega) (by omega) (by omega) (by decide) ?_
  intro a4 X4 bd4 hX4 ha4 hka4 hna4 hEX4
  have e4 : bd4 140 = m := by rw [(hEX4 140 (by omega)).1]; exact em4
  have ky4 : qa_k X4 m = 7 := by
    have := (hEX4 140 (by omega)).2
    rw [em4] at this
    exact this.trans k4
  repeat (first | (with_reducible apply ev_ic) | ((with_reducible apply ev_aload); (· exact rfl)) | ((with_reducible apply ev_iload); (· exact rfl)) | ((with_reducible apply ev_istore); (· exact rfl)) | ((with_reducible apply ev_astore); (· exact rfl)) | (with_reducible apply ev_dup_r) | (with_reducible apply ev_dup_i) | ((with_reducible apply ev_oinit); (· exact ev_rm rfl)) | ((with_reducible apply ev_pp); (· first | exact ky4)) | ((with_reducible apply ev_pi); (· first | exact ky4)) | ((with_reducible apply ev_gp); (· first | exact ky4); (· first | exact ky4)) | dsimp only [qa_rs])
  have hj4 := jm_wp (f := 197) (l := 140) (r := 145) hX4 (by omega) (by omega) (by rw [← (hX4.1 140 (by omega)).1, e4, ky4]; decide)
  rw [e4, ha4] at hj4
  have hE5 : Ex M 141 ad (qa_wp X4 197 m (some a4)) bd4 := Ex.trans hE4 hEX4 (by omega)
  have k5 : qa_k (qa_wp X4 197 m (some a4)) m = 7 := ky4
  have em5 : bd4 140 = m := e4
  have hJ5 : Jm (qa_wp X4 197 m (some a4)) 146 bd4 lM5 vl := hj4
  clear hj4 hX4 hEX4
  generalize qa_wp X4 197 m (some a4) = M5 at hE5 k5 hJ5 ⊢
  refine ev_newaJ hJ5 (by omega) (by omega) (by omega) (by decide) ?_
  intro a5 X5 bd5 hX5 ha5 hka5 hna5 hEX5
  have e5 : bd5 140 = m := by rw [(hEX5 140 (by omega)).1]; exact em5
  have ky5 : qa_k X5 m = 7 := by
    have := (hEX5 140 (by omega)).2
    rw [em5] at this
    exact this.trans k5
  repeat (first | (with_reducible apply ev_ic) | ((with_reducible apply ev_aload); (· exact rfl)) | ((with_reducible apply ev_iload); (· exact rfl)) | ((with_reducible apply ev_istore); (· exact rfl)) | ((with_reducible apply ev_astore); (· exact rfl)) | (with_reducible apply ev_dup_r) | (with_reducible apply ev_dup_i) | ((with_reducible apply ev_oinit); (· exact ev_rm rfl)) | ((with_reducible apply ev_pp); (· first | exact ky5)) | ((with_reducible apply ev_pi); (· first | exact ky5)) | ((with_reducible apply ev_gp); (· first | exact ky5); (· first | exact ky5)) | dsimp only [qa_rs])
  have hj5 := jm_wp (f := 198) (l := 140) (r := 146) hX5 (by omega) (by omega) (by rw [← (hX5.1 140 (by omega)).1, e5, ky5]; decide)
  rw [e5, ha5] at hj5
  have hE6 : Ex M 141 ad (qa_wp X5 198 m (some a5)) bd5 := Ex.trans hE5 hEX5 (by omega)
  have k6 : qa_k (qa_wp X5 198 m (some a5)) m = 7 := ky5
  have em6 : bd5 140 = m := e5
  have hJ6 : Jm (qa_wp X5 198 m (some a5)) 147 bd5 lM6 vl := hj5
  clear hj5 hX5 hEX5
  generalize qa_wp X5 198 m (some a5) = M6 at hE6 k6 hJ6 ⊢
  refine ev_newaJ hJ6 (by omega) (by omega) (by omega) (by decide) ?_
  intro a6 X6 bd6 hX6 ha6 hka6 hna6 hEX6
  have e6 : bd6 140 = m := by rw [(hEX6 140 (by omega)).1]; exact em6
  have ky6 : qa_k X6 m = 7 := by
    have := (hEX6 140 (by omega)).2
    rw [em6] at this
    exact this.trans k6
  repeat (first | (with_reducible apply ev_ic) | ((with_reducible apply ev_aload); (· exact rfl)) | ((with_reducible apply ev_iload); (· exact rfl)) | ((with_reducible apply ev_istore); (· exact rfl)) | ((with_reducible apply ev_astore); (· exact rfl)) | (with_reducible apply ev_dup_r) | (with_reducible apply ev_dup_i) | ((with_reducible apply ev_oinit); (· exact ev_rm rfl)) | ((with_reducible apply ev_pp); (· first | exact ky6)) | ((with_reducible apply ev_pi); (· first | exact ky6)) | ((with_reducible apply ev_gp); (· first | exact ky6); (· first | exact ky6)) | dsimp only [qa_rs])
  have hj6 := jm_wp (f := 199) (l := 140) (r := 147) hX6 (by omega) (by omega) (by rw [← (hX6.1 140 (by omega)).1, e6, ky6]; decide)
  rw [e6, ha6] at hj6
  have hE7 : Ex M 141 ad (qa_wp X6 199 m (some a6)) bd6 := Ex.trans hE6 hEX6 (by omega)
  have k7 : qa_k (qa_wp X6 199 m (some a6)) m = 7 := ky6
  have em7 : bd6 140 = m := e6
  have hJ7 : Jm (qa_wp X6 199 m (some a6)) 148 bd6 lM7 vl := hj6
  clear hj6 hX6 hEX6
  generalize qa_wp X6 199 m (some a6) = M7 at hE7 k7 hJ7 ⊢
  refine ev_newaJ hJ7 (by omega) (by omega) (by omega) (by decide) ?_
  intro a7 X7 bd7 hX7 ha7 hka7 hna7 hEX7
  have e7 : bd7 140 = m := by rw [(hEX7 140 (by omega)).1]; exact em7
  have ky7 : qa_k X7 m = 7 := by
    have := (hEX7 140 (by omega)).2
    rw [em7] at this
    exact this.trans k7
  repeat (first | (with_reducible apply ev_ic) | ((with_reducible apply ev_aload); (· exact rfl)) | ((with_reducible apply ev_iload); (· exact rfl)) | ((with_reducible apply ev_istore); (· exact rfl)) | ((with_reducible apply ev_astore); (· exact rfl)) | (with_reducible apply ev_dup_r) | (with_reducible apply ev_dup_i) | ((with_reducible apply ev_oinit); (· exact ev_rm rfl)) | ((with_reducible apply ev_pp); (· first | exact ky7)) | ((with_reducible apply ev_pi); (· first | exact ky7)) | ((with_reducible apply ev_gp); (· first | exact ky7); (· first | exact ky7)) | dsimp only [qa_rs])
  have hj7 := jm_wp (f := 200) (l := 140) (r := 148) hX7 (by omega) (by omega) (by rw [← (hX7.1 140 (by omega)).1, e7, ky7]; decide)
  rw [e7, ha7] at hj7
  have hE8 : Ex M 141 ad (qa_wp X7 200 m (some a7)) bd7 := Ex.trans hE7 hEX7 (by omega)
  have k8 : qa_k (qa_wp X7 200 m (some a7)) m = 7 := ky7
  have em8 : bd7 140 = m := e7
  have hJ8 : Jm (qa_wp X7 200 m (some a7)) 149 bd7 lM8 vl := hj7
  clear hj7 hX7 hEX7
  generalize qa_wp X7 200 m (some a7) = M8 at hE8 k8 hJ8 ⊢
  refine ev_newaJ hJ8 (by omega) (by omega) (by omega) (by decide) ?_
  intro a8 X8 bd8 hX8 ha8 hka8 hna8 hEX8
  have e8 : bd8 140 = m := by rw [(hEX8 140 (by omega)).1]; exact em8
  have ky8 : qa_k X8 m = 7 := by
    have := (hEX8 140 (by omega)).2
    rw [em8] at this
    exact this.trans k8
  repeat (first | (with_reducible apply ev_ic) | ((with_reducible apply ev_aload); (· exact rfl)) | ((with_reducible apply ev_iload); (· exact rfl)) | ((with_reducible apply ev_istore); (· exact rfl)) | ((with_reducible apply ev_astore); (· exact rfl)) | (with_reducible apply ev_dup_r) | (with_reducible apply ev_dup_i) | ((with_reducible apply ev_oinit); (· exact ev_rm rfl)) | ((with_reducible apply ev_pp); (· first | exact ky8)) | ((with_reducible apply ev_pi); (· first | exact ky8)) | ((with_reducible apply ev_gp); (· first | exact ky8); (· first | exact ky8)) | dsimp only [qa_rs])
  have hj8 := jm_wp (f := 201) (l := 140) (r := 149) hX8 (by omega) (by omega) (by rw [← (hX8.1 140 (by omega)).1, e8, ky8]; decide)
  rw [e8, ha8] at hj8
  have hE9 : Ex M 141 ad (qa_wp X8 201 m (some a8)) bd8 := Ex.trans hE8 hEX8 (by omega)
  have k9 : qa_k (qa_wp X8 201 m (some a8)) m = 7 := ky8
  have em9 : bd8 140 = m := e8
  have hJ9 : Jm (qa_wp X8 201 m (some a8)) 150 bd8 lM9 vl := hj8
  clear hj8 hX8 hEX8
  generalize qa_wp X8 201 m (some a8) = M9 at hE9 k9 hJ9 ⊢
  refine ev_newaJ hJ9 (by omega) (by omega) (by omega) (by decide) ?_
  intro a9 X9 bd9 hX9 ha9 hka9 hna9 hEX9
  have e9 : bd9 140 = m := by rw [(hEX9 140 (by omega)).1]; exact em9
  have ky9 : qa_k X9 m = 7 := by
    have := (hEX9 140 (by omega)).2
    rw [em9] at this
    exact this.trans k9
  repeat (first | (with_reducible apply ev_ic) | ((with_reducible apply ev_aload); (· exact rfl)) | ((with_reducible apply ev_iload); (· exact rfl)) | ((with_reducible apply ev_istore); (· exact rfl)) | ((with_reducible apply ev_astore); (· exact rfl)) | (with_reducible apply ev_dup_r) | (with_reducible apply ev_dup_i) | ((with_reducible apply ev_oinit); (· exact ev_rm rfl)) | ((with_reducible apply ev_pp); (· first | exact ky9)) | ((with_reducible apply ev_pi); (· first | exact ky9)) | ((with_reducible apply ev_gp); (· first | exact ky9); (· first | exact ky9)) | dsimp only [qa_rs])
  have hj9 := jm_wp (f := 202) (l := 140) (r := 150) hX9 (by omega) (by omega) (by rw [← (hX9.1 140 (by omega)).1, e9, ky9]; decide)
  rw [e9, ha9] at hj9
  have hE10 : Ex M 141 ad (qa_wp X9 202 m (some a9)) bd9 := Ex.trans hE9 hEX9 (by omega)
  have k10 : qa_k (qa_wp X9 202 m (some a9)) m = 7 := ky9
  have em10 : bd9 140 = m := e9
  have hJ10 : Jm (qa_wp X9 202 m (some a9)) 151 bd9 lM10 vl := hj9
  clear hj9 hX9 hEX9
  generalize qa_wp X9 202 m (some a9) = M10 at hE10 k10 hJ10 ⊢
  refine ev_newaJ hJ10 (by omega) (by omega) (by omega) (by decide) ?_
  intro a10 X10 bd10 hX10 ha10 hka10 hna10 hEX10
  have e10 : bd10 140 = m := by rw [(hEX10 140 (by omega)).1]; exact em10
  have ky10 : qa_k X10 m = 7 := by
    have := (hEX10 140 (by omega)).2
    rw [em10] at this
    exact this.trans k10
  repeat (first | (with_reducible apply ev_ic) | ((with_reducible apply ev_aload); (· exact rfl)) | ((with_reducible apply ev_iload); (· exact rfl)) | ((with_reducible apply ev_istore); (· exact rfl)) | ((with_reducible apply ev_astore); (· exact rfl)) | (with_reducible apply ev_dup_r) | (with_reducible apply ev_dup_i) | ((with_reducible apply ev_oinit); (· exact ev_rm rfl)) | ((with_reducible apply ev_pp); (· first | exact ky10)) | ((with_reducible apply ev_pi); (· first | exact ky10)) | ((with_reducible apply ev_gp); (· first | exact ky10); (· first | exact ky10)) | dsimp only [qa_rs])
  have hj10 := jm_wp (f := 203) (l := 140) (r := 151) hX10 (by omega) (by omega) (by rw [← (hX10.1 140 (by omega)).1, e10, ky10]; decide)
  rw [e10, ha10] at hj10
  have hE11 : Ex M 141 ad (qa_wp X10 203 m (some a10)) bd10 := Ex.trans hE10 hEX10 (by omega)
  have k11 : qa_k (qa_wp X10 203 m (some a10)) m = 7 := ky10
  have em11 : bd10 140 = m := e10
  have hJ11 : Jm (qa_wp X10 203 m (some a10)) 152 bd10 lM11 vl := hj10
  clear hj10 hX10 hEX10
  generalize qa_wp X10 203 m (some a10) = M11 at hE11 k11 hJ11 ⊢
  refine ev_newaJ hJ11 (by omega) (by omega) (by omega) (by decide) ?_
  intro a11 X11 bd11 hX11 ha11 hka11 hna11 hEX11
  have e11 : bd11 140 = m := by rw [(hEX11 140 (by omega)).1]; exact em11
  have ky11 : qa_k X11 m = 7 := by
    have := (hEX11 140 (by omega)).2
    rw [em11] at this
    exact this.trans k11
  repeat (first | (with_reducible apply ev_ic) | ((with_reducible apply ev_aload); (· exact rfl)) | ((with_reducible apply ev_iload); (· exact rfl)) | ((with_reducible apply ev_istore); (· exact rfl)) | ((with_reducible apply ev_astore); (· exact rfl)) | (with_reducible apply ev_dup_r) | (with_reducible apply ev_dup_i) | ((with_reducible apply ev_oinit); (· exact ev_rm rfl)) | ((with_reducible apply ev_pp); (· first | exact ky11)) | ((with_reducible apply ev_pi); (· first | exact ky11)) | ((with_reducible apply ev_gp); (· first | exact ky11); (· first | exact ky11)) | dsimp only [qa_rs])
  have hj11 := jm_wp (f := 204) (l := 140) (r := 152) hX11 (by omega) (by omega) (by rw [← (hX11.1 140 (by omega)).1, e11, ky11]; decide)
  rw [e11, ha11] at hj11
  have hE12 : Ex M 141 ad (qa_wp X11 204 m (some a11)) bd11 := Ex.trans hE11 hEX11 (by omega)
  have k12 : qa_k (qa_wp X11 204 m (some a11)) m = 7 := ky11
  have em12 : bd11 140 = m := e11
  have hJ12 : Jm (qa_wp X11 204 m (some a11)) 153 bd11 lM12 vl := hj11
  clear hj11 hX11 hEX11
  generalize qa_wp X11 204 m (some a11) = M12 at hE12 k12 hJ12 ⊢
  refine ev_newaJ hJ12 (by omega) (by omega) (by omega) (by decide) ?_
  intro a12 X12 bd12 hX12 ha12 hka12 hna12 hEX12
  have e12 : bd12 140 = m := by rw [(hEX12 140 (by omega)).1]; exact em12
  have ky12 : qa_k X12 m = 7 := by
    have := (hEX12 140 (by omega)).2
    rw [em12] at this
    exact this.trans k12
  repeat (first | (with_reducible apply ev_ic) | ((with_reducible apply ev_aload); (· exact rfl)) | ((with_reducible apply ev_iload); (· exact rfl)) | ((with_reducible apply ev_istore); (· exact rfl)) | ((with_reducible apply ev_astore); (· exact rfl)) | (with_reducible apply ev_dup_r) | (with_reducible apply ev_dup_i) | ((with_reducible apply ev_oinit); (· exact ev_rm rfl)) | ((with_reducible apply ev_pp); (· first | exact ky12)) | ((with_reducible apply ev_pi); (· first | exact ky12)) | ((with_reducible apply ev_gp); (· first | exact ky12); (· first | exact ky12)) | dsimp only [qa_rs])
  have hj12 := jm_wp (f := 205) (l := 140) (r := 153) hX12 (by omega) (by omega) (by rw [← (hX12.1 140 (by omega)).1, e12, ky12]; decide)
  rw [e12, ha12] at hj12
  have hE13 : Ex M 141 ad (qa_wp X12 205 m (some a12)) bd12 := Ex.trans hE12 hEX12 (by omega)
  have k13 : qa_k (qa_wp X12 205 m (some a12)) m = 7 := ky12
  have em13 : bd12 140 = m := e12
  have hJ13 : Jm (qa_wp X12 205 m (some a12)) 154 bd12 lM13 vl := hj12
  clear hj12 hX12 hEX12
  generalize qa_wp X12 205 m (some a12) = M13 at hE13 k13 hJ13 ⊢
  refine ev_newaJ hJ13 (by omega) (by omega) (by omega) (by decide) ?_
  intro a13 X13 bd13 hX13 ha13 hka13 hna13 hEX13
  have e13 : bd13 140 = m := by rw [(hEX13 140 (by omega)).1]; exact em13
  have ky13 : qa_k X13 m = 7 := by
    have := (hEX13 140 (by omega)).2
    rw [em13] at this
    exact this.trans k13
  repeat (first | (with_reducible apply ev_ic) | ((with_reducible apply ev_aload); (· exact rfl)) | ((with_reducible apply ev_iload); (· exact rfl)) | ((with_reducible apply ev_istore); (· exact rfl)) | ((with_reducible apply ev_astore); (· exact rfl)) | (with_reducible apply ev_dup_r) | (with_reducible apply ev_dup_i) | ((with_reducible apply ev_oinit); (· exact ev_rm rfl)) | ((with_reducible apply ev_pp); (· first | exact ky13)) | ((with_reducible apply ev_pi); (· first | exact ky13)) | ((with_reducible apply ev_gp); (· first | exact ky13); (· first | exact ky13)) | dsimp only [qa_rs])
  have hj13 := jm_wp (f := 206) (l := 140) (r := 154) hX13 (by omega) (by omega) (by rw [← (hX13.1 140 (by omega)).1, e13, ky13]; decide)
  rw [e13, ha13] at hj13
  have hE14 : Ex M 141 ad (qa_wp X13 206 m (some a13)) bd13 := Ex.trans hE13 hEX13 (by omega)
  have k14 : qa_k (qa_wp X13 206 m (some a13)) m = 7 := ky13
  have em14 : bd13 140 = m := e13
  have hJ14 : Jm (qa_wp X13 206 m (some a13)) 155 bd13 lM14 vl := hj13
  clear hj13 hX13 hEX13
  generalize qa_wp X13 206 m (some a13) = M14 at hE14 k14 hJ14 ⊢
  refine ev_newaJ hJ14 (by omega) (by omega) (by omega) (by decide) ?_
  intro a14 X14 bd14 hX14 ha14 hka14 hna14 hEX14
  have e14 : bd14 140 = m := by rw [(hEX14 140 (by omega)).1]; exact em14
  have ky14 : qa_k X14 m = 7 := by
    have := (hEX14 140 (by omega)).2
    rw [em14] at this
    exact this.trans k14
  repeat (first | (with_reducible apply ev_ic) | ((with_reducible apply ev_aload); (· exact rfl)) | ((with_reducible apply ev_iload); (· exact rfl)) | ((with_reducible apply ev_istore); (· exact rfl)) | ((with_reducible apply ev_astore); (· exact rfl)) | (with_reducible apply ev_dup_r) | (with_reducible apply ev_dup_i) | ((with_reducible apply ev_oinit); (· exact ev_rm rfl)) | ((with_reducible apply ev_pp); (· first | exact ky14)) | ((with_reducible apply ev_pi); (· first | exact ky14)) | ((with_reducible apply ev_gp); (· first | exact ky14); (· first | exact ky14)) | dsimp only [qa_rs])
  have hj14 := jm_wp (f := 207) (l := 140) (r := 155) hX14 (by omega) (by omega) (by rw [← (hX14.1 140 (by omega)).1, e14, ky14]; decide)
  rw [e14, ha14] at hj14
  have hE15 : Ex M 141 ad (qa_wp X14 207 m (some a14)) bd14 := Ex.trans hE14 hEX14 (by omega)
  have k15 : qa_k (qa_wp X14 207 m (some a14)) m = 7 := ky14
  have em15 : bd14 140 = m := e14
  have hJ15 : Jm (qa_wp X14 207 m (some a14)) 156 bd14 lM15 vl := hj14
  clear hj14 hX14 hEX14
  generalize qa_wp X14 207 m (some a14) = M15 at hE15 k15 hJ15 ⊢
  refine ev_newaJ hJ15 (by omega) (by omega) (by omega) (by decide) ?_
  intro a15 X15 bd15 hX15 ha15 hka15 hna15 hEX15
  have e15 : bd15 140 = m := by rw [(hEX15 140 (by omega)).1]; exact em15
  have ky15 : qa_k X15 m = 7 := by
    have := (hEX15 140 (by omega)).2
    rw [em15] at this
    exact this.trans k15
  repeat (first | (with_reducible apply ev_ic) | ((with_reducible apply ev_aload); (· exact rfl)) | ((with_reducible apply ev_iload); (· exact rfl)) | ((with_reducible apply ev_istore); (· exact rfl)) | ((with_reducible apply ev_astore); (· exact rfl)) | (with_reducible apply ev_dup_r) | (with_reducible apply ev_dup_i) | ((with_reducible apply ev_oinit); (· exact ev_rm rfl)) | ((with_reducible apply ev_pp); (· first | exact ky15)) | ((with_reducible apply ev_pi); (· first | exact ky15)) | ((with_reducible apply ev_gp); (· first | exact ky15); (· first | exact ky15)) | dsimp only [qa_rs])
  have hj15 := jm_wp (f := 208) (l := 140) (r := 156) hX15 (by omega) (by omega) (by rw [← (hX15.1 140 (by omega)).1, e15, ky15]; decide)
  rw [e15, ha15] at hj15
  have hE16 : Ex M 141 ad (qa_wp X15 208 m (some a15)) bd15 := Ex.trans hE15 hEX15 (by omega)
  have k16 : qa_k (qa_wp X15 208 m (some a15)) m = 7 := ky15
  have em16 : bd15 140 = m := e15
  have hJ16 : Jm (qa_wp X15 208 m (some a15)) 157 bd15 lM16 vl := hj15
  clear hj15 hX15 hEX15
  generalize qa_wp X15 208 m (some a15) = M16 at hE16 k16 hJ16 ⊢
  refine ev_newaJ hJ16 (by omega) (by omega) (by omega) (by decide) ?_
  intro a16 X16 bd16 hX16 ha16 hka16 hna16 hEX16
  have e16 : bd16 140 = m := by rw [(hEX16 140 (by omega)).1]; exact em16
  have ky16 : qa_k X16 m = 7 := by
    have := (hEX16 140 (by omega)).2
    rw [em16] at this
    exact this.trans k16
  repeat (first | (with_reducible apply ev_ic) | ((with_reducible apply ev_aload); (· exact rfl)) | ((with_reducible apply ev_iload); (· exact rfl)) | ((with_reducible apply ev_istore); (· exact rfl)) | ((with_reducible apply ev_astore); (· exact rfl)) | (with_reducible apply ev_dup_r) | (with_reducible apply ev_dup_i) | ((with_reducible apply ev_oinit); (· exact ev_rm rfl)) | ((with_reducible apply ev_pp); (· first | exact ky16)) | ((with_reducible apply ev_pi); (· first | exact ky16)) | ((with_reducible apply ev_gp); (· first | exact ky16); (· first | exact ky16)) | dsimp only [qa_rs])
  have hj16 := jm_wp (f := 209) (l := 140) (r := 157) hX16 (by omega) (by omega) (by rw [← (hX16.1 140 (by omega)).1, e16, ky16]; decide)
  rw [e16, ha16] at hj16
  have hE17 : Ex M 141 ad (qa_wp X16 209 m (some a16)) bd16 := Ex.trans hE16 hEX16 (by omega)
  have k17 : qa_k (qa_wp X16 209 m (some a16)) m = 7 := ky16
  have em17 : bd16 140 = m := e16
  have hJ17 : Jm (qa_wp X16 209 m (some a16)) 158 bd16 lM17 vl := hj16
  clear hj16 hX16 hEX16
  generalize qa_wp X16 209 m (some a16) = M17 at hE17 k17 hJ17 ⊢
  refine ev_newaJ hJ17 (by omega) (by omega) (by omega) (by decide) ?_
  intro a17 X17 bd17 hX17 ha17 hka17 hna17 hEX17
  have e17 : bd17 140 = m := by rw [(hEX17 140 (by omega)).1]; exact em17
  have ky17 : qa_k X17 m = 7 := by
    have := (hEX17 140 (by omega)).2
    rw [em17] at this
    exact this.trans k17
  repeat (first | (with_reducible apply ev_ic) | ((with_reducible apply ev_aload); (· exact rfl)) | ((with_reducible apply ev_iload); (· exact rfl)) | ((with_reducible apply ev_istore); (· exact rfl)) | ((with_reducible apply ev_astore); (· exact rfl)) | (with_reducible apply ev_dup_r) | (with_reducible apply ev_dup_i) | ((with_reducible apply ev_oinit); (· exact ev_rm rfl)) | ((with_reducible apply ev_pp); (· first | exact ky17)) | ((with_reducible apply ev_pi); (· first | exact ky17)) | ((with_reducible apply ev_gp); (· first | exact ky17); (· first | exact ky17)) | dsimp only [qa_rs])
  have hj17 := jm_wp (f := 210) (l := 140) (r := 158) hX17 (by omega) (by omega) (by rw [← (hX17.1 140 (by omega)).1, e17, ky17]; decide)
  rw [e17, ha17] at hj17
  have hE18 : Ex M 141 ad (qa_wp X17 210 m (some a17)) bd17 := Ex.trans hE17 hEX17 (by omega)
  have k18 : qa_k (qa_wp X17 210 m (some a17)) m = 7 := ky17
  have em18 : bd17 140 = m := e17
  have hJ18 : Jm (qa_wp X17 210 m (some a17)) 159 bd17 lM18 vl := hj17
  clear hj17 hX17 hEX17
  generalize qa_wp X17 210 m (some a17) = M18 at hE18 k18 hJ18 ⊢
  refine ev_newaJ hJ18 (by omega) (by omega) (by omega) (by decide) ?_
  intro a18 X18 bd18 hX18 ha18 hka18 hna18 hEX18
  have e18 : bd18 140 = m := by rw [(hEX18 140 (by omega)).1]; exact em18
  have ky18 : qa_k X18 m = 7 := by
    have := (hEX18 140 (by omega)).2
    rw [em18] at this
    exact this.trans k18
  repeat (first | (with_reducible apply ev_ic) | ((with_reducible apply ev_aload); (· exact rfl)) | ((with_reducible apply ev_iload); (· exact rfl)) | ((with_reducible apply ev_istore); (· exact rfl)) | ((with_reducible apply ev_astore); (· exact rfl)) | (with_reducible apply ev_dup_r) | (with_reducible apply ev_dup_i) | ((with_reducible apply ev_oinit); (· exact ev_rm rfl)) | ((with_reducible apply ev_pp); (· first | exact ky18)) | ((with_reducible apply ev_pi); (· first | exact ky18)) | ((with_reducible apply ev_gp); (· first | exact ky18); (· first | exact ky18)) | dsimp only [qa_rs])
  have hj18 := jm_wp (f := 211) (l := 140) (r := 159) hX18 (by omega) (by omega) (by rw [← (hX18.1 140 (by omega)).1, e18, ky18]; decide)
  rw [e18, ha18] at hj18
  have hE19 : Ex M 141 ad (qa_wp X18 211 m (some a18)) bd18 := Ex.trans hE18 hEX18 (by omega)
  have k19 : qa_k (qa_wp X18 211 m (some a18)) m = 7 := ky18
  have em19 : bd18 140 = m := e18
  have hJ19 : Jm (qa_wp X18 211 m (some a18)) 160 bd18 lM19 vl := hj18
  clear hj18 hX18 hEX18
  generalize qa_wp X18 211 m (some a18) = M19 at hE19 k19 hJ19 ⊢
  refine ev_newaJ hJ19 (by omega) (by omega) (by omega) (by decide) ?_
  intro a19 X19 bd19 hX19 ha19 hka19 hna19 hEX19
  have e19 : bd19 140 = m := by rw [(hEX19 140 (by omega)).1]; exact em19
  have ky19 : qa_k X19 m = 7 := by
    have := (hEX19 140 (by omega)).2
    rw [em19] at this
    exact this.trans k19
  repeat (first | (with_reducible apply ev_ic) | ((with_reducible apply ev_aload); (· exact rfl)) | ((with_reducible apply ev_iload); (· exact rfl)) | ((with_reducible apply ev_istore); (· exact rfl)) | ((with_reducible apply ev_astore); (· exact rfl)) | (with_reducible apply ev_dup_r) | (with_reducible apply ev_dup_i) | ((with_reducible apply ev_oinit); (· exact ev_rm rfl)) | ((with_reducible apply ev_pp); (· first | exact ky19)) | ((with_reducible apply ev_pi); (· first | exact ky19)) | ((with_reducible apply ev_gp); (· first | exact ky19); (· first | exact ky19)) | dsimp only [qa_rs])
  have hj19 := jm_wp (f := 212) (l := 140) (r := 160) hX19 (by omega) (by omega) (by rw [← (hX19.1 140 (by omega)).1, e19, ky19]; decide)
  rw [e19, ha19] at hj19
  have hE20 : Ex M 141 ad (qa_wp X19 212 m (some a19)) bd19 := Ex.trans hE19 hEX19 (by omega)
  have k20 : qa_k (qa_wp X19 212 m (some a19)) m = 7 := ky19
  have em20 : bd19 140 = m := e19
  have hJ20 : Jm (qa_wp X19 212 m (some a19)) 161 bd19 lM20 vl := hj19
  clear hj19 hX19 hEX19
  generalize qa_wp X19 212 m (some a19) = M20 at hE20 k20 hJ20 ⊢
  refine ev_newaJ hJ20 (by omega) (by omega) (by omega) (by decide) ?_
  intro a20 X20 bd20 hX20 ha20 hka20 hna20 hEX20
  have e20 : bd20 140 = m := by rw [(hEX20 140 (by omega)).1]; exact em20
  have ky20 : qa_k X20 m = 7 := by
    have := (hEX20 140 (by omega)).2
    rw [em20] at this
    exact this.trans k20
  repeat (first | (with_reducible apply ev_ic) | ((with_reducible apply ev_aload); (· exact rfl)) | ((with_reducible apply ev_iload); (· exact rfl)) | ((with_reducible apply ev_istore); (· exact rfl)) | ((with_reducible apply ev_astore); (· exact rfl)) | (with_reducible apply ev_dup_r) | (with_reducible apply ev_dup_i) | ((with_reducible apply ev_oinit); (· exact ev_rm rfl)) | ((with_reducible apply ev_pp); (· first | exact ky20)) | ((with_reducible apply ev_pi); (· first | exact ky20)) | ((with_reducible apply ev_gp); (· first | exact ky20); (· first | exact ky20)) | dsimp only [qa_rs])
  have hj20 := jm_wp (f := 215) (l := 140) (r := 161) hX20 (by omega) (by omega) (by rw [← (hX20.1 140 (by omega)).1, e20, ky20]; decide)
  rw [e20, ha20] at hj20
  have hE21 : Ex M 141 ad (qa_wp X20 215 m (some a20)) bd20 := Ex.trans hE20 hEX20 (by omega)
  have k21 : qa_k (qa_wp X20 215 m (some a20)) m = 7 := ky20
  have em21 : bd20 140 = m := e20
  have hJ21 : Jm (qa_wp X20 215 m (some a20)) 162 bd20 lM21 vl := hj20
  clear hj20 hX20 hEX20
  generalize qa_wp X20 215 m (some a20) = M21 at hE21 k21 hJ21 ⊢
  have go : ∀ v : Int32, v = liv l → Po none (qa_wi M21 192 m v) := fun v hv => h _ bd20 (jm_192 hJ21) hE21 (by simp [qa_k_wi, qa_n_wi, qa_i_wi, qa_j_wi, qa_p_wi, qa_ia_wi, qa_ja_wi, qa_pa_wi, qa_k_wj, qa_n_wj, qa_i_wj, qa_j_wj, qa_p_wj, qa_ia_wj, qa_ja_wj, qa_pa_wj, qa_k_wp, qa_n_wp, qa_i_wp, qa_j_wp, qa_p_wp, qa_ia_wp, qa_ja_wp, qa_pa_wp, qa_k_wia, qa_n_wia, qa_i_wia, qa_j_wia, qa_p_wia, qa_ia_wia, qa_ja_wia, qa_pa_wia, qa_k_wja, qa_n_wja, qa_i_wja, qa_j_wja, qa_p_wja, qa_ia_wja, qa_ja_wja, qa_pa_wja, qa_k_wpa, qa_n_wpa, qa_i_wpa, qa_j_wpa, qa_p_wpa, qa_ia_wpa, qa_ja_wpa, qa_pa_wpa, qa_k_nw, qa_n_nw, qa_i_nw, qa_j_nw, qa_p_nw, qa_ia_nw, qa_ja_nw, qa_pa_nw, qa_k_na, qa_n_na, qa_i_na, qa_j_na, qa_p_na, qa_ia_na, qa_ja_na, qa_pa_na, hv])
  by_cases h1 : l < nI 1
  · refine ev_iclt_T h1 ?_
    unfold kc_Mo_init_180 kc_Mo_init_182
    repeat (first | (with_reducible apply ev_ic) | ((with_reducible apply ev_aload); (· exact rfl)) | ((with_reducible apply ev_iload); (· exact rfl)) | ((with_reducible apply ev_istore); (· exact rfl)) | ((with_reducible apply ev_astore); (· exact rfl)) | (with_reducible apply ev_dup_r) | (with_reducible apply ev_dup_i) | ((with_reducible apply ev_oinit); (· exact ev_rm rfl)) | ((with_reducible apply ev_pp); (· first | exact k21)) | ((with_reducible apply ev_pi); (· first | exact k21)) | ((with_reducible apply ev_gp); (· first | exact k21); (· first | exact k21)) | dsimp only [qa_rs])
    exact ev_vret ⟨by decide, by decide⟩ (go (nI 100) (by unfold liv; rw [if_pos h1]))
  · refine ev_iclt_F h1 ?_
    repeat (first | (with_reducible apply ev_ic) | ((with_reducible apply ev_aload); (· exact rfl)) | ((with_reducible apply ev_iload); (· exact rfl)) | ((with_reducible apply ev_istore); (· exact rfl)) | ((with_reducible apply ev_astore); (· exact rfl)) | (with_reducible apply ev_dup_r) | (with_reducible apply ev_dup_i) | ((with_reducible apply ev_oinit); (· exact ev_rm rfl)) | dsimp only [qa_rs])
    by_cases h2 : nI 1000 < l
    · refine ev_icgt_T h2 ?_
      unfold kc_Mo_init_180 kc_Mo_init_182
      repeat (first | (with_reducible apply ev_ic) | ((with_reducible apply ev_aload); (· exact rfl)) | ((with_reducible apply ev_iload); (· exact rfl)) | ((with_reducible apply ev_istore); (· exact rfl)) | ((with_reducible apply ev_astore); (· exact rfl)) | (with_reducible apply ev_dup_r) | (with_reducible apply ev_dup_i) | ((with_reducible apply ev_oinit); (· exact ev_rm rfl)) | ((with_reducible apply ev_pp); (· first | exact k21)) | ((with_reducible apply ev_pi); (· first | exact k21)) | ((with_reducible apply ev_gp); (· first | exact k21); (· first | exact k21)) | dsimp only [qa_rs])
      exact ev_vret ⟨by decide, by decide⟩ (go (nI 100) (by unfold liv; rw [if_neg h1, if_pos h2]))
    · refine ev_icgt_F h2 ?_
      unfold kc_Mo_init_182
      repeat (first | (with_reducible apply ev_ic) | ((with_reducible apply ev_aload); (· exact rfl)) | ((with_reducible apply ev_iload); (· exact rfl)) | ((with_reducible apply ev_istore); (· exact rfl)) | ((with_reducible apply ev_astore); (· exact rfl)) | (with_reducible apply ev_dup_r) | (with_reducible apply ev_dup_i) | ((with_reducible apply ev_oinit); (· exact ev_rm rfl)) | ((with_reducible apply ev_pp); (· first | exact k21)) | ((with_reducible apply ev_pi); (· first | exact k21)) | ((with_reducible apply ev_gp); (· first | exact k21); (· first | exact k21)) | dsimp only [qa_rs])
      exact ev_vret ⟨by decide, by decide⟩ (go l (by unfold liv; rw [if_neg h1, if_neg h2]))
