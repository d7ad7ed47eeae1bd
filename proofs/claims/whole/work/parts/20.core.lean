/-! when a heap holds a memory -/
abbrev qa_Z : Type := Option (Nat × Nat × (Nat → Int32))
def qa_fv (ty : FieldType) (M : qa_M) (f a : Nat) : Value := match ty with
  | .long => .long (qa_j M f a)
  | .object _ => va_rf (qa_p M f a)
  | .array _ => va_rf (qa_p M f a)
  | _ => .int (qa_i M f a)
def qa_ac (E : Nat → ClassId) (M : qa_M) (κ a : Nat) : Cell := match q_at κ with
  | 0 => arrV (E 0) (qa_n M a) (fun j => .int (qa_ia M κ a j))
  | 1 => arrV (E 1) (qa_n M a) (fun j => .long (qa_ja M κ a j))
  | 2 => arrV (E 2) (qa_n M a) (fun j => .int (qa_ia M κ a j))
  | t => arrV (E t) (qa_n M a) (fun j => va_rf (qa_pa M κ a j))
def qa_H (D : va_G) (E : Nat → ClassId) (B : Nat) (M : qa_M) (H : Heap) : Prop := B ≤ H.size ∧ (∀ (a c : Nat) (r : vw_C), qa_k M a = c + 1 → q_cl[c]? = some r → B ≤ a ∧ t_OB a (D.1 c) r.2.2 (D.2 c) H (fun k => qa_fv (q_ty c k) M (32 * c + k) a)) ∧
  (∀ a κ : Nat, qa_k M a = κ → 100 ≤ κ → B ≤ a ∧ H[a]? = some (qa_ac E M κ a)) ∧ ∀ a : Nat, H.size ≤ a → qa_k M a = 0
def qa_cs (sc : qa_Z) (B : Nat) (U : State) : Prop := ∀ z, sc = some z → va_X z.1 z.2.1 z.2.2 U U.heap ∧ z.1 < B
def qa_F (D : va_G) (E : Nat → ClassId) (B : Nat) (sc : qa_Z) (U : State) : Prop := va_K D q_cl (q_tys E) U ∧ ((∀ w ∈ q_nw, va_Nw w U) ∧ ∀ C ∈ q_ao, va_AO C U) ∧ qa_cs sc B U
def qa_P (D : va_G) (E : Nat → ClassId) (B : Nat) (sc : qa_Z) (args : List Value) (M : qa_M) : Array Value → State → Prop := fun v U => v = args.toArray ∧ qa_H D E B M U.heap ∧ qa_F D E B sc U
def qa_Q (D : va_G) (E : Nat → ClassId) (B : Nat) (Po : Option Value → qa_M → Prop) : Array Value → State → Outcome → State → Prop := fun _ st oc t => (∃ (r : Option Value) (M : qa_M), oc = .returned r ∧ Po r M ∧ qa_H D E B M t.heap) ∧ va_F (fun q => B ≤ q) st t
abbrev qa_sp : Type := List Value → qa_M → (Option Value → qa_M → Prop) → Prop
def qa_T (l : Launch) (y : MethodName) (ws : List Cond) (rm : Room) (sc : qa_Z) (sp : qa_sp) : Prop := ∀ (D : va_G) (E : Nat → ClassId) (B : Nat) (args : List Value) (M : qa_M) (Po : Option Value → qa_M → Prop), sp args M Po → Met l y ws rm (qa_P D E B sc args M) (qa_Q D E B Po) rm.cells rm.slots (fun q => B ≤ q)
def qa_X (p : Program) (s : State) (m : MethodId) (args : Array Value) (meth : Method) (c : Code) (own : String) (cc : ByteArray) (nL : Nat) (ret : Option FieldType) (ini : Bool) (D : va_G) (E : Nat → ClassId) (B : Nat) (sc : qa_Z) : Prop :=
  p.tables.exec = Jvm.exec ∧ c.code = cc ∧ c.maxLocals = nL ∧ s.vm.findClass own = some m.cls ∧ (∀ w ∈ q_W0, w.before args s = true) ∧ meth.locks = false ∧ meth.sig.returnType = ret ∧ (ini = true → meth.name = "<init>") ∧ B ≤ s.heap.size ∧ qa_F D E B sc s
abbrev qa_K : Type := Nat × Nat → qa_L → List Value → qa_M → Prop
abbrev qa_R : Type := List Frame → Array Value → State → State → Prop
def qa_S (l : Launch) (own : String) (cc : ByteArray) (nL : Nat) (ret : Option FieldType) (ini : Bool) (D : va_G) (E : Nat → ClassId) (B : Nat) (R : Room) (sc : qa_Z) (Qf : qa_R) (pc : Nat) (k : qa_K) : Prop :=
  ∀ (p : Program) (e : Env) (s : State) (m : MethodId) (args : Array Value) (below : List Frame) (meth : Method) (c : Code), qa_X p s m args meth c own cc nL ret ini D E B sc → ∀ (u : Nat × Nat) (lv : qa_L) (st : List Value) (M : qa_M), k u lv st M →
    ∀ (H : Heap) (locs : List Loc) (ls : Array Slot), qa_H D E B M H → va_S (fun q => B ≤ q) s.heap H locs → qa_V ls nL lv → W p l e R s m args below meth c H locs u.1 u.2 (Qf below args s) (F0 m pc ls st)
def qa_rm (st : List Value) : Prop := (st.map fun v => v.category).sum ≤ 8
def qa_pop : Nat → List Value → List Value → (List Value → List Value → Prop) → Prop
  | 0, acc, st, f => f acc st
  | _ + 1, _, [], _ => False
  | n + 1, acc, v :: st, f => qa_pop n (v :: acc) st f
def qa_rs (r : Option Value) (st : List Value) : List Value := match r with
  | none => st
  | some v => v :: st
theorem qa_pop_inv (n : Nat) : ∀ (acc st : List Value) (f : List Value → List Value → Prop), qa_pop n acc st f → ∃ as r, as.length = n ∧ st = as.reverse ++ r ∧ f (as ++ acc) r := by
  induction n with
  | zero => intro acc st f h; exact ⟨[], st, rfl, rfl, h⟩
  | succ n ih =>
    intro acc st f h
    cases st with
    | nil => exact h.elim
    | cons v st =>
      obtain ⟨as, r, h1, h2, h3⟩ := ih (v :: acc) st f h
      refine ⟨as ++ [v], r, by simp [h1], by simp [h2], by simpa using h3⟩
theorem qa_rs_eq (r : Option Value) (st : List Value) : r.toList ++ st = qa_rs r st := by cases r <;> rfl
/-! a write to one address -/
theorem qa_H.set {D : va_G} {E : Nat → ClassId} {B : Nat} {M M1 : qa_M} {H H1 : Heap} {a : Nat} (h : qa_H D E B M H) (hkk : qa_k M1 = qa_k M) (z : H1.size = H.size) (oq : ∀ q : Nat, q ≠ a → H1[q]? = H[q]?)
    (hi : ∀ f b, b ≠ a → qa_i M1 f b = qa_i M f b) (hj : ∀ f b, b ≠ a → qa_j M1 f b = qa_j M f b) (hp : ∀ f b, b ≠ a → qa_p M1 f b = qa_p M f b) (hn : ∀ b, b ≠ a → qa_n M1 b = qa_n M b)
    (hia : ∀ κ b, b ≠ a → qa_ia M1 κ b = qa_ia M κ b) (hja : ∀ κ b, b ≠ a → qa_ja M1 κ b = qa_ja M κ b) (hpa : ∀ κ b, b ≠ a → qa_pa M1 κ b = qa_pa M κ b)
    (hc : ∀ (c : Nat) (r : vw_C), qa_k M a = c + 1 → q_cl[c]? = some r → t_OB a (D.1 c) r.2.2 (D.2 c) H1 (fun k => qa_fv (q_ty c k) M1 (32 * c + k) a))
    (ha : ∀ κ : Nat, qa_k M a = κ → 100 ≤ κ → H1[a]? = some (qa_ac E M1 κ a)) : qa_H D E B M1 H1 := by
  obtain ⟨h1, h2, h3, h4⟩ := h
  refine ⟨by rw [z]; exact h1, fun b c r hb hr => ?_, fun b κ hb hκ => ?_, fun b hb => by rw [hkk]; exact h4 b (by rw [← z]; exact hb)⟩
  · rw [hkk] at hb
    obtain ⟨g1, g2⟩ := h2 b c r hb hr
    refine ⟨g1, ?_⟩
    by_cases hba : b = a
    · subst hba
      exact hc c r hb hr
    · refine (g2.kept (oq b hba)).to fun k _ => ?_
      unfold qa_fv
      rw [hi _ _ hba, hj _ _ hba, hp _ _ hba]
  · rw [hkk] at hb
    obtain ⟨g1, g2⟩ := h3 b κ hb hκ
    refine ⟨g1, ?_⟩
    by_cases hba : b = a
    · subst hba
      exact ha κ hb hκ
    · rw [oq b hba, g2]
      unfold qa_ac
      rw [hn b hba, hia κ b hba, hja κ b hba, hpa κ b hba]
theorem qa_H.grow {D : va_G} {E : Nat → ClassId} {B : Nat} {M M1 : qa_M} {H H1 : Heap} {a x : Nat} (h : qa_H D E B M H) (he : H.size = a) (hkk : ∀ b, qa_k M1 b = if b = a then x else qa_k M b) (z : H1.size = a + 1) (oq : ∀ q : Nat, q < a → H1[q]? = H[q]?)
    (hi : ∀ f b, b ≠ a → qa_i M1 f b = qa_i M f b) (hj : ∀ f b, b ≠ a → qa_j M1 f b = qa_j M f b) (hp : ∀ f b, b ≠ a → qa_p M1 f b = qa_p M f b) (hn : ∀ b, b ≠ a → qa_n M1 b = qa_n M b)
    (hia : ∀ κ b, b ≠ a → qa_ia M1 κ b = qa_ia M κ b) (hja : ∀ κ b, b ≠ a → qa_ja M1 κ b = qa_ja M κ b) (hpa : ∀ κ b, b ≠ a → qa_pa M1 κ b = qa_pa M κ b)
    (hc : ∀ (c : Nat) (r : vw_C), x = c + 1 → q_cl[c]? = some r → t_OB a (D.1 c) r.2.2 (D.2 c) H1 (fun k => qa_fv (q_ty c k) M1 (32 * c + k) a))
    (ha : 100 ≤ x → H1[a]? = some (qa_ac E M1 x a)) : qa_H D E B M1 H1 := by
  obtain ⟨h1, h2, h3, h4⟩ := h
  have lt : ∀ b, b ≠ a → qa_k M b ≠ 0 → b < a := fun b hb hz => by
    rcases Nat.lt_or_ge b a with h | h
    · exact h
    · exact absurd (h4 b (by omega)) hz
  refine ⟨by omega, fun b c r hb hr => ?_, fun b κ hb hκ => ?_, fun b hb => ?_⟩
  · rw [hkk] at hb
    by_cases hba : b = a
    · rw [if_pos hba] at hb
      subst hba
      exact ⟨by omega, hc c r hb hr⟩
    · rw [if_neg hba] at hb
      obtain ⟨g1, g2⟩ := h2 b c r hb hr
      refine ⟨g1, (g2.kept (oq b (lt b hba (by omega)))).to fun k _ => ?_⟩
      unfold qa_fv
      rw [hi _ _ hba, hj _ _ hba, hp _ _ hba]
  · rw [hkk] at hb
    by_cases hba : b = a
    · rw [if_pos hba] at hb
      subst hb
      subst hba
      exact ⟨by omega, ha hκ⟩
    · rw [if_neg hba] at hb
      obtain ⟨g1, g2⟩ := h3 b κ hb hκ
      refine ⟨g1, ?_⟩
      rw [oq b (lt b hba (by omega)), g2]
      unfold qa_ac
      rw [hn b hba, hia κ b hba, hja κ b hba, hpa κ b hba]
  · rw [hkk, if_neg (by omega)]
    exact h4 b (by omega)
theorem qa_clt {c : Nat} {r : vw_C} (h : q_cl[c]? = some r) : c < 50 := Nat.lt_of_lt_of_le (List.getElem?_eq_some_iff.mp h).1 (by decide)

section QS
variable {l : Launch} {own : String} {cc : ByteArray} {nL : Nat} {ret : Option FieldType} {ini : Bool} {D : va_G} {E : Nat → ClassId} {B : Nat} {R : Room} {sc : qa_Z} {Qf : qa_R} {pc : Nat}
def qi_ic (v : Int32) (k : qa_K) : qa_K := fun u lv st M => k u lv (.int v :: st) M
def qi_lc (v : Int64) (k : qa_K) : qa_K := fun u lv st M => k u lv (.long v :: st) M
theorem qs_iconst {k : qa_K} {n : Int} {v : Int32} (hd : decode cc pc = .ok (.iconst n, 1)) (hv : Int32.ofInt n = v) (h : qa_S l own cc nL ret ini D E B R sc Qf (pc + 1) k) : qa_S l own cc nL ret ini D E B R sc Qf pc (qi_ic v k) := by
  intro p e s m args below meth c X u lv st M hk H locs ls hH hS hV
  exact lv_iconst X.1 X.2.1 hd hv (h p e s m args below meth c X _ _ _ _ hk _ _ _ hH hS hV)
theorem qs_bipush {k : qa_K} {n : Int} {v : Int32} (hd : decode cc pc = .ok (.bipush n, 2)) (hv : (Int8.ofInt n).toInt32 = v) (h : qa_S l own cc nL ret ini D E B R sc Qf (pc + 2) k) : qa_S l own cc nL ret ini D E B R sc Qf pc (qi_ic v k) := by
  intro p e s m args below meth c X u lv st M hk H locs ls hH hS hV
  exact lv_bipush X.1 X.2.1 hd hv (h p e s m args below meth c X _ _ _ _ hk _ _ _ hH hS hV)
theorem qs_sipush {k : qa_K} {n : Int} {v : Int32} (hd : decode cc pc = .ok (.sipush n, 3)) (hv : (Int16.ofInt n).toInt32 = v) (h : qa_S l own cc nL ret ini D E B R sc Qf (pc + 3) k) : qa_S l own cc nL ret ini D E B R sc Qf pc (qi_ic v k) := by
  intro p e s m args below meth c X u lv st M hk H locs ls hH hS hV
  exact lv_sipush X.1 X.2.1 hd hv (h p e s m args below meth c X _ _ _ _ hk _ _ _ hH hS hV)
theorem qs_lconst {k : qa_K} {n : Fin 2} {v : Int64} (hd : decode cc pc = .ok (.lconst n, 1)) (hv : Int64.ofNat (n : Nat) = v) (h : qa_S l own cc nL ret ini D E B R sc Qf (pc + 1) k) : qa_S l own cc nL ret ini D E B R sc Qf pc (qi_lc v k) := by
  intro p e s m args below meth c X u lv st M hk H locs ls hH hS hV
  exact lv_lconst X.1 X.2.1 hd hv (h p e s m args below meth c X _ _ _ _ hk _ _ _ hH hS hV)
theorem qs_ldc {k : qa_K} {index : Nat} {v : Int32} (hw : Cond.constant own index v ∈ q_W0) (hd : decode cc pc = .ok (.ldc index, 2)) (h : qa_S l own cc nL ret ini D E B R sc Qf (pc + 2) k) : qa_S l own cc nL ret ini D E B R sc Qf pc (qi_ic v k) := by
  intro p e s m args below meth c X u lv st M hk H locs ls hH hS hV
  exact lv_ldc X.1 X.2.1 X.2.2.2.1 (X.2.2.2.2.1 _ hw) hd (h p e s m args below meth c X _ _ _ _ hk _ _ _ hH hS hV)
theorem qs_ldc2 {k : qa_K} {index : Nat} {v : Int64} (hw : Cond.constantLong own index v ∈ q_W0) (hd : decode cc pc = .ok (.ldc2_w index, 3)) (h : qa_S l own cc nL ret ini D E B R sc Qf (pc + 3) k) : qa_S l own cc nL ret ini D E B R sc Qf pc (qi_lc v k) := by
  intro p e s m args below meth c X u lv st M hk H locs ls hH hS hV
  exact lv_ldc2 X.1 X.2.1 X.2.2.2.1 (X.2.2.2.2.1 _ hw) hd (h p e s m args below meth c X _ _ _ _ hk _ _ _ hH hS hV)
def qi_iload (i : Nat) (k : qa_K) : qa_K := fun u lv st M => qv_gi (qa_gt lv i) fun x => k u lv (.int x :: st) M
theorem qs_iload_n {k : qa_K} {j : Fin 4} {i : Nat} (hd : decode cc pc = .ok (.iload_n j, 1)) (hi : (j : Nat) = i) (h : qa_S l own cc nL ret ini D E B R sc Qf (pc + 1) k) : qa_S l own cc nL ret ini D E B R sc Qf pc (qi_iload i k) := by
  intro p e s m args below meth c X u lv st M hk H locs ls hH hS hV
  obtain ⟨x, hx, hk1_⟩ := qv_gi_inv hk
  exact lv_iload_n X.1 X.2.1 hd hi (hV.2.2 _ _ hx) (h p e s m args below meth c X _ _ _ _ hk1_ _ _ _ hH hS hV)
theorem qs_iload {k : qa_K} {i : Nat} (hd : decode cc pc = .ok (.iload i, 2)) (h : qa_S l own cc nL ret ini D E B R sc Qf (pc + 2) k) : qa_S l own cc nL ret ini D E B R sc Qf pc (qi_iload i k) := by
  intro p e s m args below meth c X u lv st M hk H locs ls hH hS hV
  obtain ⟨x, hx, hk1_⟩ := qv_gi_inv hk
  exact lv_iload X.1 X.2.1 hd (hV.2.2 _ _ hx) (h p e s m args below meth c X _ _ _ _ hk1_ _ _ _ hH hS hV)
def qi_lload (i : Nat) (k : qa_K) : qa_K := fun u lv st M => qv_gl (qa_gt lv i) fun x => k u lv (.long x :: st) M
theorem qs_lload_n {k : qa_K} {j : Fin 4} {i : Nat} (hd : decode cc pc = .ok (.lload_n j, 1)) (hi : (j : Nat) = i) (h : qa_S l own cc nL ret ini D E B R sc Qf (pc + 1) k) : qa_S l own cc nL ret ini D E B R sc Qf pc (qi_lload i k) := by
  intro p e s m args below meth c X u lv st M hk H locs ls hH hS hV
  obtain ⟨x, hx, hk1_⟩ := qv_gl_inv hk
  exact lv_lload_n X.1 X.2.1 hd hi (hV.2.2 _ _ hx) (h p e s m args below meth c X _ _ _ _ hk1_ _ _ _ hH hS hV)
theorem qs_lload {k : qa_K} {i : Nat} (hd : decode cc pc = .ok (.lload i, 2)) (h : qa_S l own cc nL ret ini D E B R sc Qf (pc + 2) k) : qa_S l own cc nL ret ini D E B R sc Qf pc (qi_lload i k) := by
  intro p e s m args below meth c X u lv st M hk H locs ls hH hS hV
  obtain ⟨x, hx, hk1_⟩ := qv_gl_inv hk
  exact lv_lload X.1 X.2.1 hd (hV.2.2 _ _ hx) (h p e s m args below meth c X _ _ _ _ hk1_ _ _ _ hH hS hV)
def qi_aload (i : Nat) (k : qa_K) : qa_K := fun u lv st M => qv_gr (qa_gt lv i) fun x => k u lv (.ref x :: st) M
theorem qs_aload_n {k : qa_K} {j : Fin 4} {i : Nat} (hd : decode cc pc = .ok (.aload_n j, 1)) (hi : (j : Nat) = i) (h : qa_S l own cc nL ret ini D E B R sc Qf (pc + 1) k) : qa_S l own cc nL ret ini D E B R sc Qf pc (qi_aload i k) := by
  intro p e s m args below meth c X u lv st M hk H locs ls hH hS hV
  obtain ⟨x, hx, hk1_⟩ := qv_gr_inv hk
  exact lv_aload_n X.1 X.2.1 hd hi (hV.2.2 _ _ hx) (h p e s m args below meth c X _ _ _ _ hk1_ _ _ _ hH hS hV)
theorem qs_aload {k : qa_K} {i : Nat} (hd : decode cc pc = .ok (.aload i, 2)) (h : qa_S l own cc nL ret ini D E B R sc Qf (pc + 2) k) : qa_S l own cc nL ret ini D E B R sc Qf pc (qi_aload i k) := by
  intro p e s m args below meth c X u lv st M hk H locs ls hH hS hV
  obtain ⟨x, hx, hk1_⟩ := qv_gr_inv hk
  exact lv_aload X.1 X.2.1 hd (hV.2.2 _ _ hx) (h p e s m args below meth c X _ _ _ _ hk1_ _ _ _ hH hS hV)
def qi_istore (i : Nat) (k : qa_K) : qa_K := fun u lv st M => qv_i st fun x st => k u (qa_u1 lv i (.int x)) st M
theorem qs_istore_n {k : qa_K} {j : Fin 4} {i : Nat} (hd : decode cc pc = .ok (.istore_n j, 1)) (hi : (j : Nat) = i) (hn : i < nL) (h : qa_S l own cc nL ret ini D E B R sc Qf (pc + 1) k) : qa_S l own cc nL ret ini D E B R sc Qf pc (qi_istore i k) := by
  intro p e s m args below meth c X u lv st M hk H locs ls hH hS hV
  obtain ⟨x, r, rfl, hk1_⟩ := qv_i_inv hk
  exact lv_istore_n X.1 X.2.1 hd hi hV.has hn rfl fun ls2 hV2 => (h p e s m args below meth c X _ _ _ _ hk1_ _ _ _ hH hS (qa_V.of1 hV2))
theorem qs_istore {k : qa_K} {i : Nat} (hd : decode cc pc = .ok (.istore i, 2)) (hn : i < nL) (h : qa_S l own cc nL ret ini D E B R sc Qf (pc + 2) k) : qa_S l own cc nL ret ini D E B R sc Qf pc (qi_istore i k) := by
  intro p e s m args below meth c X u lv st M hk H locs ls hH hS hV
  obtain ⟨x, r, rfl, hk1_⟩ := qv_i_inv hk
  exact lv_istore X.1 X.2.1 hd hV.has hn rfl fun ls2 hV2 => (h p e s m args below meth c X _ _ _ _ hk1_ _ _ _ hH hS (qa_V.of1 hV2))
def qi_lstore (i : Nat) (k : qa_K) : qa_K := fun u lv st M => qv_l st fun x st => k u (qa_u2 lv i (.long x)) st M
theorem qs_lstore_n {k : qa_K} {j : Fin 4} {i : Nat} (hd : decode cc pc = .ok (.lstore_n j, 1)) (hi : (j : Nat) = i) (hn : i + 1 < nL) (h : qa_S l own cc nL ret ini D E B R sc Qf (pc + 1) k) : qa_S l own cc nL ret ini D E B R sc Qf pc (qi_lstore i k) := by
  intro p e s m args below meth c X u lv st M hk H locs ls hH hS hV
  obtain ⟨x, r, rfl, hk1_⟩ := qv_l_inv hk
  exact lv_lstore_n X.1 X.2.1 hd hi hV.has hn rfl fun ls2 hV2 => (h p e s m args below meth c X _ _ _ _ hk1_ _ _ _ hH hS (qa_V.of2 hV2))
theorem qs_lstore {k : qa_K} {i : Nat} (hd : decode cc pc = .ok (.lstore i, 2)) (hn : i + 1 < nL) (h : qa_S l own cc nL ret ini D E B R sc Qf (pc + 2) k) : qa_S l own cc nL ret ini D E B R sc Qf pc (qi_lstore i k) := by
  intro p e s m args below meth c X u lv st M hk H locs ls hH hS hV
  obtain ⟨x, r, rfl, hk1_⟩ := qv_l_inv hk
  exact lv_lstore X.1 X.2.1 hd hV.has hn rfl fun ls2 hV2 => (h p e s m args below meth c X _ _ _ _ hk1_ _ _ _ hH hS (qa_V.of2 hV2))
def qi_astore (i : Nat) (k : qa_K) : qa_K := fun u lv st M => qv_r st fun x st => k u (qa_u1 lv i (.ref x)) st M
theorem qs_astore_n {k : qa_K} {j : Fin 4} {i : Nat} (hd : decode cc pc = .ok (.astore_n j, 1)) (hi : (j : Nat) = i) (hn : i < nL) (h : qa_S l own cc nL ret ini D E B R sc Qf (pc + 1) k) : qa_S l own cc nL ret ini D E B R sc Qf pc (qi_astore i k) := by
  intro p e s m args below meth c X u lv st M hk H locs ls hH hS hV
  obtain ⟨x, r, rfl, hk1_⟩ := qv_r_inv hk
  exact lv_astore_n X.1 X.2.1 hd hi hV.has hn rfl fun ls2 hV2 => (h p e s m args below meth c X _ _ _ _ hk1_ _ _ _ hH hS (qa_V.of1 hV2))
theorem qs_astore {k : qa_K} {i : Nat} (hd : decode cc pc = .ok (.astore i, 2)) (hn : i < nL) (h : qa_S l own cc nL ret ini D E B R sc Qf (pc + 2) k) : qa_S l own cc nL ret ini D E B R sc Qf pc (qi_astore i k) := by
  intro p e s m args below meth c X u lv st M hk H locs ls hH hS hV
  obtain ⟨x, r, rfl, hk1_⟩ := qv_r_inv hk
  exact lv_astore X.1 X.2.1 hd hV.has hn rfl fun ls2 hV2 => (h p e s m args below meth c X _ _ _ _ hk1_ _ _ _ hH hS (qa_V.of1 hV2))
def qi_iinc (i : Nat) (n : Int32) (k : qa_K) : qa_K := fun u lv st M => qv_gi (qa_gt lv i) fun x => k u (qa_u1 lv i (.int (x + n))) st M
theorem qs_iinc {k : qa_K} {i : Nat} {z : Int} {n : Int32} (hd : decode cc pc = .ok (.iinc i z, 3)) (hz : Int32.ofInt z = n) (hn : i < nL) (h : qa_S l own cc nL ret ini D E B R sc Qf (pc + 3) k) : qa_S l own cc nL ret ini D E B R sc Qf pc (qi_iinc i n k) := by
  intro p e s m args below meth c X u lv st M hk H locs ls hH hS hV
  subst hz
  obtain ⟨x, hx, hk1_⟩ := qv_gi_inv hk
  obtain ⟨q, hq⟩ := List.getElem?_of_mem ((qa_pr_mem lv 0 i (.int x)).mpr ⟨i, by omega, hx⟩)
  exact lv_iinc X.1 X.2.1 hd hV.has hq rfl hn rfl fun ls2 hV2 => (h p e s m args below meth c X _ _ _ _ hk1_ _ _ _ hH hS (qa_V.of1 hV2))
def qi_iadd (k : qa_K) : qa_K := fun u lv st M => qv_i st fun y st => qv_i st fun x st => k u lv (.int (x + y) :: st) M
theorem qs_iadd {k : qa_K} (hd : decode cc pc = .ok (.iadd, 1)) (h : qa_S l own cc nL ret ini D E B R sc Qf (pc + 1) k) : qa_S l own cc nL ret ini D E B R sc Qf pc (qi_iadd k) := by
  intro p e s m args below meth c X u lv st M hk H locs ls hH hS hV
  obtain ⟨y, r, rfl, hk1_⟩ := qv_i_inv hk
  obtain ⟨x, r, rfl, hk2_⟩ := qv_i_inv hk1_
  exact lv_iadd X.1 X.2.1 hd (h p e s m args below meth c X _ _ _ _ hk2_ _ _ _ hH hS hV)
def qi_isub (k : qa_K) : qa_K := fun u lv st M => qv_i st fun y st => qv_i st fun x st => k u lv (.int (x - y) :: st) M
theorem qs_isub {k : qa_K} (hd : decode cc pc = .ok (.isub, 1)) (h : qa_S l own cc nL ret ini D E B R sc Qf (pc + 1) k) : qa_S l own cc nL ret ini D E B R sc Qf pc (qi_isub k) := by
  intro p e s m args below meth c X u lv st M hk H locs ls hH hS hV
  obtain ⟨y, r, rfl, hk1_⟩ := qv_i_inv hk
  obtain ⟨x, r, rfl, hk2_⟩ := qv_i_inv hk1_
  exact lv_isub X.1 X.2.1 hd (h p e s m args below meth c X _ _ _ _ hk2_ _ _ _ hH hS hV)
def qi_imul (k : qa_K) : qa_K := fun u lv st M => qv_i st fun y st => qv_i st fun x st => k u lv (.int (x * y) :: st) M
theorem qs_imul {k : qa_K} (hd : decode cc pc = .ok (.imul, 1)) (h : qa_S l own cc nL ret ini D E B R sc Qf (pc + 1) k) : qa_S l own cc nL ret ini D E B R sc Qf pc (qi_imul k) := by
  intro p e s m args below meth c X u lv st M hk H locs ls hH hS hV
  obtain ⟨y, r, rfl, hk1_⟩ := qv_i_inv hk
  obtain ⟨x, r, rfl, hk2_⟩ := qv_i_inv hk1_
  exact lv_imul X.1 X.2.1 hd (h p e s m args below meth c X _ _ _ _ hk2_ _ _ _ hH hS hV)
def qi_iand (k : qa_K) : qa_K := fun u lv st M => qv_i st fun y st => qv_i st fun x st => k u lv (.int (x &&& y) :: st) M
theorem qs_iand {k : qa_K} (hd : decode cc pc = .ok (.iand, 1)) (h : qa_S l own cc nL ret ini D E B R sc Qf (pc + 1) k) : qa_S l own cc nL ret ini D E B R sc Qf pc (qi_iand k) := by
  intro p e s m args below meth c X u lv st M hk H locs ls hH hS hV
  obtain ⟨y, r, rfl, hk1_⟩ := qv_i_inv hk
  obtain ⟨x, r, rfl, hk2_⟩ := qv_i_inv hk1_
  exact lv_iand X.1 X.2.1 hd (h p e s m args below meth c X _ _ _ _ hk2_ _ _ _ hH hS hV)
def qi_ior (k : qa_K) : qa_K := fun u lv st M => qv_i st fun y st => qv_i st fun x st => k u lv (.int (x ||| y) :: st) M
theorem qs_ior {k : qa_K} (hd : decode cc pc = .ok (.ior, 1)) (h : qa_S l own cc nL ret ini D E B R sc Qf (pc + 1) k) : qa_S l own cc nL ret ini D E B R sc Qf pc (qi_ior k) := by
  intro p e s m args below meth c X u lv st M hk H locs ls hH hS hV
  obtain ⟨y, r, rfl, hk1_⟩ := qv_i_inv hk
  obtain ⟨x, r, rfl, hk2_⟩ := qv_i_inv hk1_
  exact lv_ior X.1 X.2.1 hd (h p e s m args below meth c X _ _ _ _ hk2_ _ _ _ hH hS hV)
def qi_ixor (k : qa_K) : qa_K := fun u lv st M => qv_i st fun y st => qv_i st fun x st => k u lv (.int (x ^^^ y) :: st) M
theorem qs_ixor {k : qa_K} (hd : decode cc pc = .ok (.ixor, 1)) (h : qa_S l own cc nL ret ini D E B R sc Qf (pc + 1) k) : qa_S l own cc nL ret ini D E B R sc Qf pc (qi_ixor k) := by
  intro p e s m args below meth c X u lv st M hk H locs ls hH hS hV
  obtain ⟨y, r, rfl, hk1_⟩ := qv_i_inv hk
  obtain ⟨x, r, rfl, hk2_⟩ := qv_i_inv hk1_
  exact lv_ixor X.1 X.2.1 hd (h p e s m args below meth c X _ _ _ _ hk2_ _ _ _ hH hS hV)
def qi_ishl (k : qa_K) : qa_K := fun u lv st M => qv_i st fun y st => qv_i st fun x st => k u lv (.int (x <<< (y &&& 31)) :: st) M
theorem qs_ishl {k : qa_K} (hd : decode cc pc = .ok (.ishl, 1)) (h : qa_S l own cc nL ret ini D E B R sc Qf (pc + 1) k) : qa_S l own cc nL ret ini D E B R sc Qf pc (qi_ishl k) := by
  intro p e s m args below meth c X u lv st M hk H locs ls hH hS hV
  obtain ⟨y, r, rfl, hk1_⟩ := qv_i_inv hk
  obtain ⟨x, r, rfl, hk2_⟩ := qv_i_inv hk1_
  exact lv_ishl X.1 X.2.1 hd (h p e s m args below meth c X _ _ _ _ hk2_ _ _ _ hH hS hV)
def qi_ladd (k : qa_K) : qa_K := fun u lv st M => qv_l st fun y st => qv_l st fun x st => k u lv (.long (x + y) :: st) M
theorem qs_ladd {k : qa_K} (hd : decode cc pc = .ok (.ladd, 1)) (h : qa_S l own cc nL ret ini D E B R sc Qf (pc + 1) k) : qa_S l own cc nL ret ini D E B R sc Qf pc (qi_ladd k) := by
  intro p e s m args below meth c X u lv st M hk H locs ls hH hS hV
  obtain ⟨y, r, rfl, hk1_⟩ := qv_l_inv hk
  obtain ⟨x, r, rfl, hk2_⟩ := qv_l_inv hk1_
  exact lv_ladd X.1 X.2.1 hd (h p e s m args below meth c X _ _ _ _ hk2_ _ _ _ hH hS hV)
def qi_lsub (k : qa_K) : qa_K := fun u lv st M => qv_l st fun y st => qv_l st fun x st => k u lv (.long (x - y) :: st) M
theorem qs_lsub {k : qa_K} (hd : decode cc pc = .ok (.lsub, 1)) (h : qa_S l own cc nL ret ini D E B R sc Qf (pc + 1) k) : qa_S l own cc nL ret ini D E B R sc Qf pc (qi_lsub k) := by
  intro p e s m args below meth c X u lv st M hk H locs ls hH hS hV
  obtain ⟨y, r, rfl, hk1_⟩ := qv_l_inv hk
  obtain ⟨x, r, rfl, hk2_⟩ := qv_l_inv hk1_
  exact lv_lsub X.1 X.2.1 hd (h p e s m args below meth c X _ _ _ _ hk2_ _ _ _ hH hS hV)
def qi_lmul (k : qa_K) : qa_K := fun u lv st M => qv_l st fun y st => qv_l st fun x st => k u lv (.long (x * y) :: st) M
theorem qs_lmul {k : qa_K} (hd : decode cc pc = .ok (.lmul, 1)) (h : qa_S l own cc nL ret ini D E B R sc Qf (pc + 1) k) : qa_S l own cc nL ret ini D E B R sc Qf pc (qi_lmul k) := by
  intro p e s m args below meth c X u lv st M hk H locs ls hH hS hV
  obtain ⟨y, r, rfl, hk1_⟩ := qv_l_inv hk
  obtain ⟨x, r, rfl, hk2_⟩ := qv_l_inv hk1_
  exact lv_lmul X.1 X.2.1 hd (h p e s m args below meth c X _ _ _ _ hk2_ _ _ _ hH hS hV)
def qi_land (k : qa_K) : qa_K := fun u lv st M => qv_l st fun y st => qv_l st fun x st => k u lv (.long (x &&& y) :: st) M
theorem qs_land {k : qa_K} (hd : decode cc pc = .ok (.land, 1)) (h : qa_S l own cc nL ret ini D E B R sc Qf (pc + 1) k) : qa_S l own cc nL ret ini D E B R sc Qf pc (qi_land k) := by
  intro p e s m args below meth c X u lv st M hk H locs ls hH hS hV
  obtain ⟨y, r, rfl, hk1_⟩ := qv_l_inv hk
  obtain ⟨x, r, rfl, hk2_⟩ := qv_l_inv hk1_
  exact lv_land X.1 X.2.1 hd (h p e s m args below meth c X _ _ _ _ hk2_ _ _ _ hH hS hV)
def qi_lor (k : qa_K) : qa_K := fun u lv st M => qv_l st fun y st => qv_l st fun x st => k u lv (.long (x ||| y) :: st) M
theorem qs_lor {k : qa_K} (hd : decode cc pc = .ok (.lor, 1)) (h : qa_S l own cc nL ret ini D E B R sc Qf (pc + 1) k) : qa_S l own cc nL ret ini D E B R sc Qf pc (qi_lor k) := by
  intro p e s m args below meth c X u lv st M hk H locs ls hH hS hV
  obtain ⟨y, r, rfl, hk1_⟩ := qv_l_inv hk
  obtain ⟨x, r, rfl, hk2_⟩ := qv_l_inv hk1_
  exact lv_lor X.1 X.2.1 hd (h p e s m args below meth c X _ _ _ _ hk2_ _ _ _ hH hS hV)
def qi_lxor (k : qa_K) : qa_K := fun u lv st M => qv_l st fun y st => qv_l st fun x st => k u lv (.long (x ^^^ y) :: st) M
theorem qs_lxor {k : qa_K} (hd : decode cc pc = .ok (.lxor, 1)) (h : qa_S l own cc nL ret ini D E B R sc Qf (pc + 1) k) : qa_S l own cc nL ret ini D E B R sc Qf pc (qi_lxor k) := by
  intro p e s m args below meth c X u lv st M hk H locs ls hH hS hV
  obtain ⟨y, r, rfl, hk1_⟩ := qv_l_inv hk
  obtain ⟨x, r, rfl, hk2_⟩ := qv_l_inv hk1_
  exact lv_lxor X.1 X.2.1 hd (h p e s m args below meth c X _ _ _ _ hk2_ _ _ _ hH hS hV)
def qi_lushr (k : qa_K) : qa_K := fun u lv st M => qv_i st fun y st => qv_l st fun x st => k u lv (.long ((x.toUInt64 >>> (y.toInt64.toUInt64 &&& Int64.toUInt64 63)).toInt64) :: st) M
theorem qs_lushr {k : qa_K} (hd : decode cc pc = .ok (.lushr, 1)) (h : qa_S l own cc nL ret ini D E B R sc Qf (pc + 1) k) : qa_S l own cc nL ret ini D E B R sc Qf pc (qi_lushr k) := by
  intro p e s m args below meth c X u lv st M hk H locs ls hH hS hV
  obtain ⟨y, r, rfl, hk1_⟩ := qv_i_inv hk
  obtain ⟨x, r, rfl, hk2_⟩ := qv_l_inv hk1_
  exact lv_lushr X.1 X.2.1 hd rfl (h p e s m args below meth c X _ _ _ _ hk2_ _ _ _ hH hS hV)
def qi_lshl (k : qa_K) : qa_K := fun u lv st M => qv_i st fun y st => qv_l st fun x st => k u lv (.long (x <<< (y.toInt64 &&& 63)) :: st) M
theorem qs_lshl {k : qa_K} (hd : decode cc pc = .ok (.lshl, 1)) (h : qa_S l own cc nL ret ini D E B R sc Qf (pc + 1) k) : qa_S l own cc nL ret ini D E B R sc Qf pc (qi_lshl k) := by
  intro p e s m args below meth c X u lv st M hk H locs ls hH hS hV
  obtain ⟨y, r, rfl, hk1_⟩ := qv_i_inv hk
  obtain ⟨x, r, rfl, hk2_⟩ := qv_l_inv hk1_
  exact lv_lshl X.1 X.2.1 hd rfl (h p e s m args below meth c X _ _ _ _ hk2_ _ _ _ hH hS hV)
def qi_lshr (k : qa_K) : qa_K := fun u lv st M => qv_i st fun y st => qv_l st fun x st => k u lv (.long (x >>> (y.toInt64 &&& 63)) :: st) M
theorem qs_lshr {k : qa_K} (hd : decode cc pc = .ok (.lshr, 1)) (h : qa_S l own cc nL ret ini D E B R sc Qf (pc + 1) k) : qa_S l own cc nL ret ini D E B R sc Qf pc (qi_lshr k) := by
  intro p e s m args below meth c X u lv st M hk H locs ls hH hS hV
  obtain ⟨y, r, rfl, hk1_⟩ := qv_i_inv hk
  obtain ⟨x, r, rfl, hk2_⟩ := qv_l_inv hk1_
  exact lv_lshr X.1 X.2.1 hd rfl (h p e s m args below meth c X _ _ _ _ hk2_ _ _ _ hH hS hV)
def qi_lcmp (k : qa_K) : qa_K := fun u lv st M => qv_l st fun y st => qv_l st fun x st => k u lv (.int (lg_cmp x y) :: st) M
theorem qs_lcmp {k : qa_K} (hd : decode cc pc = .ok (.lcmp, 1)) (h : qa_S l own cc nL ret ini D E B R sc Qf (pc + 1) k) : qa_S l own cc nL ret ini D E B R sc Qf pc (qi_lcmp k) := by
  intro p e s m args below meth c X u lv st M hk H locs ls hH hS hV
  obtain ⟨y, r, rfl, hk1_⟩ := qv_l_inv hk
  obtain ⟨x, r, rfl, hk2_⟩ := qv_l_inv hk1_
  exact W.lcmp X.1 X.2.1 hd (h p e s m args below meth c X _ _ _ _ hk2_ _ _ _ hH hS hV)
def qi_i2l (k : qa_K) : qa_K := fun u lv st M => qv_i st fun x st => k u lv (.long x.toInt64 :: st) M
theorem qs_i2l {k : qa_K} (hd : decode cc pc = .ok (.i2l, 1)) (h : qa_S l own cc nL ret ini D E B R sc Qf (pc + 1) k) : qa_S l own cc nL ret ini D E B R sc Qf pc (qi_i2l k) := by
  intro p e s m args below meth c X u lv st M hk H locs ls hH hS hV
  obtain ⟨x, r, rfl, hk1_⟩ := qv_i_inv hk
  exact lv_i2l X.1 X.2.1 hd rfl (h p e s m args below meth c X _ _ _ _ hk1_ _ _ _ hH hS hV)
def qi_l2i (k : qa_K) : qa_K := fun u lv st M => qv_l st fun x st => k u lv (.int x.toInt32 :: st) M
theorem qs_l2i {k : qa_K} (hd : decode cc pc = .ok (.l2i, 1)) (h : qa_S l own cc nL ret ini D E B R sc Qf (pc + 1) k) : qa_S l own cc nL ret ini D E B R sc Qf pc (qi_l2i k) := by
  intro p e s m args below meth c X u lv st M hk H locs ls hH hS hV
  obtain ⟨x, r, rfl, hk1_⟩ := qv_l_inv hk
  exact lv_l2i X.1 X.2.1 hd rfl (h p e s m args below meth c X _ _ _ _ hk1_ _ _ _ hH hS hV)
def qi_dup (k : qa_K) : qa_K := fun u lv st M => qv_1 st fun a st => k u lv (a :: a :: st) M
theorem qs_dup {k : qa_K} (hd : decode cc pc = .ok (.dup, 1)) (h : qa_S l own cc nL ret ini D E B R sc Qf (pc + 1) k) : qa_S l own cc nL ret ini D E B R sc Qf pc (qi_dup k) := by
  intro p e s m args below meth c X u lv st M hk H locs ls hH hS hV
  obtain ⟨a, r, rfl, ha, hk1_⟩ := qv_1_inv hk
  exact lv_dup X.1 X.2.1 hd ha (h p e s m args below meth c X _ _ _ _ hk1_ _ _ _ hH hS hV)
def qi_pop (k : qa_K) : qa_K := fun u lv st M => qv_1 st fun _ st => k u lv st M
theorem qs_pop {k : qa_K} (hd : decode cc pc = .ok (.pop, 1)) (h : qa_S l own cc nL ret ini D E B R sc Qf (pc + 1) k) : qa_S l own cc nL ret ini D E B R sc Qf pc (qi_pop k) := by
  intro p e s m args below meth c X u lv st M hk H locs ls hH hS hV
  obtain ⟨a, r, rfl, ha, hk1_⟩ := qv_1_inv hk
  exact lv_pop X.1 X.2.1 hd ha (h p e s m args below meth c X _ _ _ _ hk1_ _ _ _ hH hS hV)
def qi_dup_x1 (k : qa_K) : qa_K := fun u lv st M => qv_1 st fun a st => qv_1 st fun b st => k u lv (a :: b :: a :: st) M
theorem qs_dup_x1 {k : qa_K} (hd : decode cc pc = .ok (.dup_x1, 1)) (h : qa_S l own cc nL ret ini D E B R sc Qf (pc + 1) k) : qa_S l own cc nL ret ini D E B R sc Qf pc (qi_dup_x1 k) := by
  intro p e s m args below meth c X u lv st M hk H locs ls hH hS hV
  obtain ⟨a, r, rfl, ha, hk1_⟩ := qv_1_inv hk
  obtain ⟨b, r, rfl, hb, hk2_⟩ := qv_1_inv hk1_
  exact lv_dup_x1 X.1 X.2.1 hd ha hb (h p e s m args below meth c X _ _ _ _ hk2_ _ _ _ hH hS hV)
def qi_dup2 (k : qa_K) : qa_K := fun u lv st M => qv_1 st fun a st => qv_1 st fun b st => k u lv (a :: b :: a :: b :: st) M
theorem qs_dup2 {k : qa_K} (hd : decode cc pc = .ok (.dup2, 1)) (h : qa_S l own cc nL ret ini D E B R sc Qf (pc + 1) k) : qa_S l own cc nL ret ini D E B R sc Qf pc (qi_dup2 k) := by
  intro p e s m args below meth c X u lv st M hk H locs ls hH hS hV
  obtain ⟨a, r, rfl, ha, hk1_⟩ := qv_1_inv hk
  obtain ⟨b, r, rfl, hb, hk2_⟩ := qv_1_inv hk1_
  exact lv_dup2_11 X.1 X.2.1 hd ha hb (h p e s m args below meth c X _ _ _ _ hk2_ _ _ _ hH hS hV)
def qi_ifeq (kt kf : qa_K) : qa_K := fun u lv st M => qv_i st fun x st => (x = 0 → kt u lv st M) ∧ (¬ x = 0 → kf u lv st M)
theorem qs_ifeq {kt kf : qa_K} {off : Int} {tgt : Nat} (hd : decode cc pc = .ok (.ifCond .eq off, 3)) (ht : (pc : Int) + off = (tgt : Int)) (h1 : qa_S l own cc nL ret ini D E B R sc Qf tgt kt) (h2 : qa_S l own cc nL ret ini D E B R sc Qf (pc + 3) kf) : qa_S l own cc nL ret ini D E B R sc Qf pc (qi_ifeq kt kf) := by
  intro p e s m args below meth c X u lv st M hk H locs ls hH hS hV
  obtain ⟨x, r, rfl, hk1_⟩ := qv_i_inv hk
  exact lv_if_eq X.1 X.2.1 hd ht (fun z => (h1 p e s m args below meth c X _ _ _ _ (hk1_.1 z) _ _ _ hH hS hV)) (fun z => (h2 p e s m args below meth c X _ _ _ _ (hk1_.2 z) _ _ _ hH hS hV))
def qi_ifne (kt kf : qa_K) : qa_K := fun u lv st M => qv_i st fun x st => (¬ x = 0 → kt u lv st M) ∧ (x = 0 → kf u lv st M)
theorem qs_ifne {kt kf : qa_K} {off : Int} {tgt : Nat} (hd : decode cc pc = .ok (.ifCond .ne off, 3)) (ht : (pc : Int) + off = (tgt : Int)) (h1 : qa_S l own cc nL ret ini D E B R sc Qf tgt kt) (h2 : qa_S l own cc nL ret ini D E B R sc Qf (pc + 3) kf) : qa_S l own cc nL ret ini D E B R sc Qf pc (qi_ifne kt kf) := by
  intro p e s m args below meth c X u lv st M hk H locs ls hH hS hV
  obtain ⟨x, r, rfl, hk1_⟩ := qv_i_inv hk
  exact lv_if_ne X.1 X.2.1 hd ht (fun z => (h1 p e s m args below meth c X _ _ _ _ (hk1_.1 z) _ _ _ hH hS hV)) (fun z => (h2 p e s m args below meth c X _ _ _ _ (hk1_.2 z) _ _ _ hH hS hV))
def qi_iflt (kt kf : qa_K) : qa_K := fun u lv st M => qv_i st fun x st => (x < 0 → kt u lv st M) ∧ (¬ x < 0 → kf u lv st M)
theorem qs_iflt {kt kf : qa_K} {off : Int} {tgt : Nat} (hd : decode cc pc = .ok (.ifCond .lt off, 3)) (ht : (pc : Int) + off = (tgt : Int)) (h1 : qa_S l own cc nL ret ini D E B R sc Qf tgt kt) (h2 : qa_S l own cc nL ret ini D E B R sc Qf (pc + 3) kf) : qa_S l own cc nL ret ini D E B R sc Qf pc (qi_iflt kt kf) := by
  intro p e s m args below meth c X u lv st M hk H locs ls hH hS hV
  obtain ⟨x, r, rfl, hk1_⟩ := qv_i_inv hk
  exact lv_if_lt X.1 X.2.1 hd ht (fun z => (h1 p e s m args below meth c X _ _ _ _ (hk1_.1 z) _ _ _ hH hS hV)) (fun z => (h2 p e s m args below meth c X _ _ _ _ (hk1_.2 z) _ _ _ hH hS hV))
def qi_ifge (kt kf : qa_K) : qa_K := fun u lv st M => qv_i st fun x st => (0 ≤ x → kt u lv st M) ∧ (¬ 0 ≤ x → kf u lv st M)
theorem qs_ifge {kt kf : qa_K} {off : Int} {tgt : Nat} (hd : decode cc pc = .ok (.ifCond .ge off, 3)) (ht : (pc : Int) + off = (tgt : Int)) (h1 : qa_S l own cc nL ret ini D E B R sc Qf tgt kt) (h2 : qa_S l own cc nL ret ini D E B R sc Qf (pc + 3) kf) : qa_S l own cc nL ret ini D E B R sc Qf pc (qi_ifge kt kf) := by
  intro p e s m args below meth c X u lv st M hk H locs ls hH hS hV
  obtain ⟨x, r, rfl, hk1_⟩ := qv_i_inv hk
  exact lv_if_ge X.1 X.2.1 hd ht (fun z => (h1 p e s m args below meth c X _ _ _ _ (hk1_.1 z) _ _ _ hH hS hV)) (fun z => (h2 p e s m args below meth c X _ _ _ _ (hk1_.2 z) _ _ _ hH hS hV))
def qi_ifgt (kt kf : qa_K) : qa_K := fun u lv st M => qv_i st fun x st => (0 < x → kt u lv st M) ∧ (¬ 0 < x → kf u lv st M)
theorem qs_ifgt {kt kf : qa_K} {off : Int} {tgt : Nat} (hd : decode cc pc = .ok (.ifCond .gt off, 3)) (ht : (pc : Int) + off = (tgt : Int)) (h1 : qa_S l own cc nL ret ini D E B R sc Qf tgt kt) (h2 : qa_S l own cc nL ret ini D E B R sc Qf (pc + 3) kf) : qa_S l own cc nL ret ini D E B R sc Qf pc (qi_ifgt kt kf) := by
  intro p e s m args below meth c X u lv st M hk H locs ls hH hS hV
  obtain ⟨x, r, rfl, hk1_⟩ := qv_i_inv hk
  exact lv_if_gt X.1 X.2.1 hd ht (fun z => (h1 p e s m args below meth c X _ _ _ _ (hk1_.1 z) _ _ _ hH hS hV)) (fun z => (h2 p e s m args below meth c X _ _ _ _ (hk1_.2 z) _ _ _ hH hS hV))
def qi_ifle (kt kf : qa_K) : qa_K := fun u lv st M => qv_i st fun x st => (x ≤ 0 → kt u lv st M) ∧ (¬ x ≤ 0 → kf u lv st M)
theorem qs_ifle {kt kf : qa_K} {off : Int} {tgt : Nat} (hd : decode cc pc = .ok (.ifCond .le off, 3)) (ht : (pc : Int) + off = (tgt : Int)) (h1 : qa_S l own cc nL ret ini D E B R sc Qf tgt kt) (h2 : qa_S l own cc nL ret ini D E B R sc Qf (pc + 3) kf) : qa_S l own cc nL ret ini D E B R sc Qf pc (qi_ifle kt kf) := by
  intro p e s m args below meth c X u lv st M hk H locs ls hH hS hV
  obtain ⟨x, r, rfl, hk1_⟩ := qv_i_inv hk
  exact lv_if_le X.1 X.2.1 hd ht (fun z => (h1 p e s m args below meth c X _ _ _ _ (hk1_.1 z) _ _ _ hH hS hV)) (fun z => (h2 p e s m args below meth c X _ _ _ _ (hk1_.2 z) _ _ _ hH hS hV))
def qi_iceq (kt kf : qa_K) : qa_K := fun u lv st M => qv_i st fun y st => qv_i st fun x st => (x = y → kt u lv st M) ∧ (¬ x = y → kf u lv st M)
theorem qs_iceq {kt kf : qa_K} {off : Int} {tgt : Nat} (hd : decode cc pc = .ok (.if_icmp .eq off, 3)) (ht : (pc : Int) + off = (tgt : Int)) (h1 : qa_S l own cc nL ret ini D E B R sc Qf tgt kt) (h2 : qa_S l own cc nL ret ini D E B R sc Qf (pc + 3) kf) : qa_S l own cc nL ret ini D E B R sc Qf pc (qi_iceq kt kf) := by
  intro p e s m args below meth c X u lv st M hk H locs ls hH hS hV
  obtain ⟨y, r, rfl, hk1_⟩ := qv_i_inv hk
  obtain ⟨x, r, rfl, hk2_⟩ := qv_i_inv hk1_
  exact lv_icmp_eq X.1 X.2.1 hd ht (fun z => (h1 p e s m args below meth c X _ _ _ _ (hk2_.1 z) _ _ _ hH hS hV)) (fun z => (h2 p e s m args below meth c X _ _ _ _ (hk2_.2 z) _ _ _ hH hS hV))
def qi_icne (kt kf : qa_K) : qa_K := fun u lv st M => qv_i st fun y st => qv_i st fun x st => (¬ x = y → kt u lv st M) ∧ (x = y → kf u lv st M)
theorem qs_icne {kt kf : qa_K} {off : Int} {tgt : Nat} (hd : decode cc pc = .ok (.if_icmp .ne off, 3)) (ht : (pc : Int) + off = (tgt : Int)) (h1 : qa_S l own cc nL ret ini D E B R sc Qf tgt kt) (h2 : qa_S l own cc nL ret ini D E B R sc Qf (pc + 3) kf) : qa_S l own cc nL ret ini D E B R sc Qf pc (qi_icne kt kf) := by
  intro p e s m args below meth c X u lv st M hk H locs ls hH hS hV
  obtain ⟨y, r, rfl, hk1_⟩ := qv_i_inv hk
  obtain ⟨x, r, rfl, hk2_⟩ := qv_i_inv hk1_
  exact lv_icmp_ne X.1 X.2.1 hd ht (fun z => (h1 p e s m args below meth c X _ _ _ _ (hk2_.1 z) _ _ _ hH hS hV)) (fun z => (h2 p e s m args below meth c X _ _ _ _ (hk2_.2 z) _ _ _ hH hS hV))
def qi_iclt (kt kf : qa_K) : qa_K := fun u lv st M => qv_i st fun y st => qv_i st fun x st => (x < y → kt u lv st M) ∧ (¬ x < y → kf u lv st M)
theorem qs_iclt {kt kf : qa_K} {off : Int} {tgt : Nat} (hd : decode cc pc = .ok (.if_icmp .lt off, 3)) (ht : (pc : Int) + off = (tgt : Int)) (h1 : qa_S l own cc nL ret ini D E B R sc Qf tgt kt) (h2 : qa_S l own cc nL ret ini D E B R sc Qf (pc + 3) kf) : qa_S l own cc nL ret ini D E B R sc Qf pc (qi_iclt kt kf) := by
  intro p e s m args below meth c X u lv st M hk H locs ls hH hS hV
  obtain ⟨y, r, rfl, hk1_⟩ := qv_i_inv hk
  obtain ⟨x, r, rfl, hk2_⟩ := qv_i_inv hk1_
  exact lv_icmp_lt X.1 X.2.1 hd ht (fun z => (h1 p e s m args below meth c X _ _ _ _ (hk2_.1 z) _ _ _ hH hS hV)) (fun z => (h2 p e s m args below meth c X _ _ _ _ (hk2_.2 z) _ _ _ hH hS hV))
def qi_icge (kt kf : qa_K) : qa_K := fun u lv st M => qv_i st fun y st => qv_i st fun x st => (y ≤ x → kt u lv st M) ∧ (¬ y ≤ x → kf u lv st M)
theorem qs_icge {kt kf : qa_K} {off : Int} {tgt : Nat} (hd : decode cc pc = .ok (.if_icmp .ge off, 3)) (ht : (pc : Int) + off = (tgt : Int)) (h1 : qa_S l own cc nL ret ini D E B R sc Qf tgt kt) (h2 : qa_S l own cc nL ret ini D E B R sc Qf (pc + 3) kf) : qa_S l own cc nL ret ini D E B R sc Qf pc (qi_icge kt kf) := by
  intro p e s m args below meth c X u lv st M hk H locs ls hH hS hV
  obtain ⟨y, r, rfl, hk1_⟩ := qv_i_inv hk
  obtain ⟨x, r, rfl, hk2_⟩ := qv_i_inv hk1_
  exact lv_icmp_ge X.1 X.2.1 hd ht (fun z => (h1 p e s m args below meth c X _ _ _ _ (hk2_.1 z) _ _ _ hH hS hV)) (fun z => (h2 p e s m args below meth c X _ _ _ _ (hk2_.2 z) _ _ _ hH hS hV))
def qi_icgt (kt kf : qa_K) : qa_K := fun u lv st M => qv_i st fun y st => qv_i st fun x st => (y < x → kt u lv st M) ∧ (¬ y < x → kf u lv st M)
theorem qs_icgt {kt kf : qa_K} {off : Int} {tgt : Nat} (hd : decode cc pc = .ok (.if_icmp .gt off, 3)) (ht : (pc : Int) + off = (tgt : Int)) (h1 : qa_S l own cc nL ret ini D E B R sc Qf tgt kt) (h2 : qa_S l own cc nL ret ini D E B R sc Qf (pc + 3) kf) : qa_S l own cc nL ret ini D E B R sc Qf pc (qi_icgt kt kf) := by
  intro p e s m args below meth c X u lv st M hk H locs ls hH hS hV
  obtain ⟨y, r, rfl, hk1_⟩ := qv_i_inv hk
  obtain ⟨x, r, rfl, hk2_⟩ := qv_i_inv hk1_
  exact lv_icmp_gt X.1 X.2.1 hd ht (fun z => (h1 p e s m args below meth c X _ _ _ _ (hk2_.1 z) _ _ _ hH hS hV)) (fun z => (h2 p e s m args below meth c X _ _ _ _ (hk2_.2 z) _ _ _ hH hS hV))
def qi_icle (kt kf : qa_K) : qa_K := fun u lv st M => qv_i st fun y st => qv_i st fun x st => (x ≤ y → kt u lv st M) ∧ (¬ x ≤ y → kf u lv st M)
theorem qs_icle {kt kf : qa_K} {off : Int} {tgt : Nat} (hd : decode cc pc = .ok (.if_icmp .le off, 3)) (ht : (pc : Int) + off = (tgt : Int)) (h1 : qa_S l own cc nL ret ini D E B R sc Qf tgt kt) (h2 : qa_S l own cc nL ret ini D E B R sc Qf (pc + 3) kf) : qa_S l own cc nL ret ini D E B R sc Qf pc (qi_icle kt kf) := by
  intro p e s m args below meth c X u lv st M hk H locs ls hH hS hV
  obtain ⟨y, r, rfl, hk1_⟩ := qv_i_inv hk
  obtain ⟨x, r, rfl, hk2_⟩ := qv_i_inv hk1_
  exact lv_icmp_le X.1 X.2.1 hd ht (fun z => (h1 p e s m args below meth c X _ _ _ _ (hk2_.1 z) _ _ _ hH hS hV)) (fun z => (h2 p e s m args below meth c X _ _ _ _ (hk2_.2 z) _ _ _ hH hS hV))
theorem qs_goto {k : qa_K} {off : Int} {tgt : Nat} (hd : decode cc pc = .ok (.goto off, 3)) (ht : (pc : Int) + off = (tgt : Int)) (h : qa_S l own cc nL ret ini D E B R sc Qf tgt k) : qa_S l own cc nL ret ini D E B R sc Qf pc k := by
  intro p e s m args below meth c X u lv st M hk H locs ls hH hS hV
  exact lv_goto X.1 X.2.1 hd ht (h p e s m args below meth c X _ _ _ _ hk _ _ _ hH hS hV)
def qi_loop (bd : qa_K → qa_K) : qa_K := fun u lv st M => ∃ I : Nat → qa_K, (∃ n, I n u lv st M) ∧ ∀ n u lv st M, I n u lv st M → bd (fun u lv st M => ∃ n2, n2 < n ∧ I n2 u lv st M) u lv st M
theorem qs_loop {bd : qa_K → qa_K} (h : ∀ kb, qa_S l own cc nL ret ini D E B R sc Qf pc kb → qa_S l own cc nL ret ini D E B R sc Qf pc (bd kb)) : qa_S l own cc nL ret ini D E B R sc Qf pc (qi_loop bd) := by
  intro p e s m args below meth c X u lv st M hk H locs ls hH hS hV
  obtain ⟨I, ⟨n, hn⟩, hI⟩ := hk
  have key : ∀ n, qa_S l own cc nL ret ini D E B R sc Qf pc (I n) := by
    intro n
    induction n using Nat.strongRecOn with
    | ind n ih =>
      have h1 : qa_S l own cc nL ret ini D E B R sc Qf pc (fun u lv st M => ∃ n2, n2 < n ∧ I n2 u lv st M) := by
        intro p e s m args below meth c X u lv st M hk H locs ls hH hS hV
        obtain ⟨n2, hl, hk1_⟩ := hk
        exact ih n2 hl p e s m args below meth c X u lv st M hk1_ H locs ls hH hS hV
      have h2 := h _ h1
      intro p e s m args below meth c X u lv st M hk1_ H locs ls hH hS hV
      exact h2 p e s m args below meth c X u lv st M (hI n u lv st M hk1_) H locs ls hH hS hV
  exact key n p e s m args below meth c X u lv st M hn H locs ls hH hS hV
theorem qs_mono {k k2 : qa_K} (hm : ∀ u lv st M, k u lv st M → k2 u lv st M) (h : qa_S l own cc nL ret ini D E B R sc Qf pc k2) : qa_S l own cc nL ret ini D E B R sc Qf pc k := by
  intro p e s m args below meth c X u lv st M hk H locs ls hH hS hV
  exact h p e s m args below meth c X _ _ _ _ (hm _ _ _ _ hk) _ _ _ hH hS hV
def qi_gi (c f : Nat) (k : qa_K) : qa_K := fun u lv st M => qv_r st fun a st => qa_k M a = c ∧ k u lv (.int (qa_i M f a) :: st) M
def qi_gj (c f : Nat) (k : qa_K) : qa_K := fun u lv st M => qv_r st fun a st => qa_k M a = c ∧ k u lv (.long (qa_j M f a) :: st) M
def qi_gp (c f : Nat) (k : qa_K) : qa_K := fun u lv st M => qv_r st fun a st => qa_k M a = c ∧ ∃ b, qa_p M f a = some b ∧ k u lv (.ref b :: st) M
def qi_pi (c f : Nat) (k : qa_K) : qa_K := fun u lv st M => qv_i st fun v st => qv_r st fun a st => qa_k M a = c ∧ k u lv st (qa_wi M f a v)
def qi_pz (c f : Nat) (k : qa_K) : qa_K := fun u lv st M => qv_i st fun v st => qv_r st fun a st => qa_k M a = c ∧ (v = 0 ∨ v = 1) ∧ k u lv st (qa_wi M f a v)
def qi_pj (c f : Nat) (k : qa_K) : qa_K := fun u lv st M => qv_l st fun v st => qv_r st fun a st => qa_k M a = c ∧ k u lv st (qa_wj M f a v)
def qi_pp (c f : Nat) (k : qa_K) : qa_K := fun u lv st M => qv_r st fun v st => qv_r st fun a st => qa_k M a = c ∧ k u lv st (qa_wp M f a (some v))
theorem qa_in {c : Nat} {r : vw_C} (hr : q_cl[c]? = some r) : ∀ w ∈ u_ws r.1 r.2.1 r.2.2, w ∈ q_W0 := q_lay c r hr
theorem qa_get {p : Program} {e : Env} {s : State} {m : MethodId} {args : Array Value} {below : List Frame} {meth : Method} {c : Code} {H : Heap} {locs : List Loc} {cells slots : Nat} {Q : State → Prop} {ls : Array Slot} {rest : List Value} {M : qa_M} {a : Nat}
    {ci kf index : Nat} {r : vw_C} (hr : q_cl[ci]? = some r) (hkf : kf < r.2.2) (hl : Cond.fieldLink own index (r.2.1 kf).1 (r.2.1 kf).2.1 (r.2.1 kf).2.2.1 ∈ q_W0) (hd : decode cc pc = .ok (.getfield index, 3)) (X : qa_X p s m args meth c own cc nL ret ini D E B sc) (hH : qa_H D E B M H) (ha : qa_k M a = ci + 1)
    (k : W p l e R s m args below meth c H locs cells slots Q (F0 m (pc + 3) ls (qa_fv (q_ty ci kf) M (32 * ci + kf) a :: rest))) : W p l e R s m args below meth c H locs cells slots Q (F0 m pc ls (.ref a :: rest)) := by
  obtain ⟨hx, hb, hml, hown, hts, hlk, hret, hini, hB, hK, hN, hz⟩ := X
  obtain ⟨-, cell, q1, q2, q3, q4⟩ := hH.2.1 a ci r ha hr
  obtain ⟨hS, hfc, kC, hkC, hkind⟩ := hK.1 ci r hr
  obtain ⟨cf, kf', fi, f, hi, hsl⟩ := hS kf hkf
  refine W.getf hx hb hown (hts _ hl) hi (u_facts hfc hkC (u_lays hts (qa_in hr) hkf) hi).1 q1 (by rw [q3]; exact fun h => by cases h) (v := qa_fv (q_ty ci kf) M (32 * ci + kf) a) ?_ rfl rfl hd k
  rw [hsl, q4 kf hkf]
theorem qs_gi {k : qa_K} (ci kf : Nat) {index : Nat} {r : vw_C} (hr : q_cl[ci]? = some r) (hkf : kf < r.2.2) (hv : ∀ M a, qa_fv (q_ty ci kf) M (32 * ci + kf) a = .int (qa_i M (32 * ci + kf) a)) (hl : Cond.fieldLink own index (r.2.1 kf).1 (r.2.1 kf).2.1 (r.2.1 kf).2.2.1 ∈ q_W0) (hd : decode cc pc = .ok (.getfield index, 3)) (h : qa_S l own cc nL ret ini D E B R sc Qf (pc + 3) k) : qa_S l own cc nL ret ini D E B R sc Qf pc (qi_gi (ci + 1) (32 * ci + kf) k) := by
  intro p e s m args below meth c X u lv st M hk H locs ls hH hS hV
  obtain ⟨a, r2, rfl, ha, hk1_⟩ := qv_r_inv hk
  refine qa_get hr hkf hl hd X hH ha ?_
  rw [hv]
  exact (h p e s m args below meth c X _ _ _ _ hk1_ _ _ _ hH hS hV)
theorem qs_gj {k : qa_K} (ci kf : Nat) {index : Nat} {r : vw_C} (hr : q_cl[ci]? = some r) (hkf : kf < r.2.2) (hv : ∀ M a, qa_fv (q_ty ci kf) M (32 * ci + kf) a = .long (qa_j M (32 * ci + kf) a)) (hl : Cond.fieldLink own index (r.2.1 kf).1 (r.2.1 kf).2.1 (r.2.1 kf).2.2.1 ∈ q_W0) (hd : decode cc pc = .ok (.getfield index, 3)) (h : qa_S l own cc nL ret ini D E B R sc Qf (pc + 3) k) : qa_S l own cc nL ret ini D E B R sc Qf pc (qi_gj (ci + 1) (32 * ci + kf) k) := by
  intro p e s m args below meth c X u lv st M hk H locs ls hH hS hV
  obtain ⟨a, r2, rfl, ha, hk1_⟩ := qv_r_inv hk
  refine qa_get hr hkf hl hd X hH ha ?_
  rw [hv]
  exact (h p e s m args below meth c X _ _ _ _ hk1_ _ _ _ hH hS hV)
theorem qs_gp {k : qa_K} (ci kf : Nat) {index : Nat} {r : vw_C} (hr : q_cl[ci]? = some r) (hkf : kf < r.2.2) (hv : ∀ M a, qa_fv (q_ty ci kf) M (32 * ci + kf) a = va_rf (qa_p M (32 * ci + kf) a)) (hl : Cond.fieldLink own index (r.2.1 kf).1 (r.2.1 kf).2.1 (r.2.1 kf).2.2.1 ∈ q_W0) (hd : decode cc pc = .ok (.getfield index, 3)) (h : qa_S l own cc nL ret ini D E B R sc Qf (pc + 3) k) : qa_S l own cc nL ret ini D E B R sc Qf pc (qi_gp (ci + 1) (32 * ci + kf) k) := by
  intro p e s m args below meth c X u lv st M hk H locs ls hH hS hV
  obtain ⟨a, r2, rfl, ha, b, hb2, hk1_⟩ := qv_r_inv hk
  refine qa_get hr hkf hl hd X hH ha ?_
  rw [hv, hb2]
  exact (h p e s m args below meth c X _ _ _ _ hk1_ _ _ _ hH hS hV)
theorem qa_put {p : Program} {e : Env} {s : State} {m : MethodId} {args : Array Value} {below : List Frame} {meth : Method} {c : Code} {H : Heap} {locs : List Loc} {cells slots : Nat} {Q : State → Prop} {ls : Array Slot} {rest : List Value} {M M1 : qa_M} {a : Nat} {v : Value}
    {ci kf index : Nat} {r : vw_C} (hr : q_cl[ci]? = some r) (hkf : kf < r.2.2) (hl : Cond.fieldLink own index (r.2.1 kf).1 (r.2.1 kf).2.1 (r.2.1 kf).2.2.1 ∈ q_W0) (hfin : (r.2.1 kf).2.2.2 = false) (hn : narrow (q_ty ci kf) v = v) (hfit : fits (q_ty ci kf) v = true) (hd : decode cc pc = .ok (.putfield index, 3)) (X : qa_X p s m args meth c own cc nL ret ini D E B sc) (hH : qa_H D E B M H) (hS0 : va_S (fun q => B ≤ q) s.heap H locs) (ha : qa_k M a = ci + 1)
    (hkk : qa_k M1 = qa_k M) (hi : ∀ f b, b ≠ a → qa_i M1 f b = qa_i M f b) (hj : ∀ f b, b ≠ a → qa_j M1 f b = qa_j M f b) (hp : ∀ f b, b ≠ a → qa_p M1 f b = qa_p M f b) (hn2 : ∀ b, b ≠ a → qa_n M1 b = qa_n M b) (hia : ∀ κ b, b ≠ a → qa_ia M1 κ b = qa_ia M κ b) (hja : ∀ κ b, b ≠ a → qa_ja M1 κ b = qa_ja M κ b) (hpa : ∀ κ b, b ≠ a → qa_pa M1 κ b = qa_pa M κ b)
    (hv1 : qa_fv (q_ty ci kf) M1 (32 * ci + kf) a = v) (hv2 : ∀ k, k ≠ kf → qa_fv (q_ty ci k) M1 (32 * ci + k) a = qa_fv (q_ty ci k) M (32 * ci + k) a)
    (kk : ∀ (H1 : Heap) (locs1 : List Loc), qa_H D E B M1 H1 → va_S (fun q => B ≤ q) s.heap H1 locs1 → W p l e R s m args below meth c H1 locs1 cells slots Q (F0 m (pc + 3) ls rest)) : W p l e R s m args below meth c H locs cells slots Q (F0 m pc ls (v :: .ref a :: rest)) := by
  obtain ⟨hx, hb, hml, hown, hts, hlk, hret, hini, hB, hK, hN, hz⟩ := X
  have hap := va_apart (own := own) hts (qa_in hr) (q_ty ci) (q_tyok ci r hr) (q_nmok ci r hr) hK hr
  obtain ⟨hBa, cell, q1, q2, q3, q4⟩ := hH.2.1 a ci r ha hr
  obtain ⟨hS, hfc, kC, hkC, hkind⟩ := hK.1 ci r hr
  obtain ⟨cf, kf', fi, f, hi9, hsl⟩ := hS kf hkf
  have hlay := hts _ (qa_in hr _ (u_in_lay hkf))
  unfold u_lay at hlay
  have hst := (u_facts hfc hkC (u_lays hts (qa_in hr) hkf) hi9).1
  rw [if_neg (by rw [hfin]; decide)] at hlay
  have h6 := u_store hfc hkC hkind hlay hi9 (q_tyok ci r hr kf hkf) hn hfit
  refine W.putK hx hb (f := f) ⟨hown, hts _ hl, ⟨_, _, _, hi9⟩, hst⟩ (by rw [q2]; exact h6) q1 q3 (by rw [hsl]; exact k2_hasslot (q4 kf hkf)) rfl rfl hd fun H' e1 e2 e3 => ?_
  rw [hsl] at e1 ⊢
  refine kk H' _ (hH.set hkk e2 e3 hi hj hp hn2 hia hja hpa (fun c2 r2 hc2 hr2 => ?_) (fun κ hκ h100 => ?_)) (hS0.put e2 e3 hBa)
  · have : c2 = ci := by omega
    subst this
    rw [hr] at hr2
    cases hr2
    refine t_OB.to (V := updV (fun k => qa_fv (q_ty c2 k) M (32 * c2 + k) a) kf v) ⟨_, e1, q2, q3, t_set q4 hap hkf v⟩ (fun j _ => ?_)
    by_cases hjk : j = kf
    · subst hjk
      simp [updV, hv1]
    · simp [updV, hjk, hv2 j hjk]
  · have := qa_clt hr
    omega
theorem qa_putF {p : Program} {e : Env} {s : State} {m : MethodId} {args : Array Value} {below : List Frame} {meth : Method} {c : Code} {H : Heap} {locs : List Loc} {cells slots : Nat} {Q : State → Prop} {ls : Array Slot} {rest : List Value} {M M1 : qa_M} {a : Nat} {v : Value}
    {ci kf index : Nat} {r : vw_C} (hr : q_cl[ci]? = some r) (hkf : kf < r.2.2) (hl : Cond.fieldLink own index (r.2.1 kf).1 (r.2.1 kf).2.1 (r.2.1 kf).2.2.1 ∈ q_W0) (hfin : (r.2.1 kf).2.2.2 = true) (hin2 : ini = true) (hdecl : (r.2.1 kf).1 = own) (hn : narrow (q_ty ci kf) v = v) (hfit : fits (q_ty ci kf) v = true) (hd : decode cc pc = .ok (.putfield index, 3)) (X : qa_X p s m args meth c own cc nL ret ini D E B sc) (hH : qa_H D E B M H) (hS0 : va_S (fun q => B ≤ q) s.heap H locs) (ha : qa_k M a = ci + 1)
    (hkk : qa_k M1 = qa_k M) (hi : ∀ f b, b ≠ a → qa_i M1 f b = qa_i M f b) (hj : ∀ f b, b ≠ a → qa_j M1 f b = qa_j M f b) (hp : ∀ f b, b ≠ a → qa_p M1 f b = qa_p M f b) (hn2 : ∀ b, b ≠ a → qa_n M1 b = qa_n M b) (hia : ∀ κ b, b ≠ a → qa_ia M1 κ b = qa_ia M κ b) (hja : ∀ κ b, b ≠ a → qa_ja M1 κ b = qa_ja M κ b) (hpa : ∀ κ b, b ≠ a → qa_pa M1 κ b = qa_pa M κ b)
    (hv1 : qa_fv (q_ty ci kf) M1 (32 * ci + kf) a = v) (hv2 : ∀ k, k ≠ kf → qa_fv (q_ty ci k) M1 (32 * ci + k) a = qa_fv (q_ty ci k) M (32 * ci + k) a)
    (kk : ∀ (H1 : Heap) (locs1 : List Loc), qa_H D E B M1 H1 → va_S (fun q => B ≤ q) s.heap H1 locs1 → W p l e R s m args below meth c H1 locs1 cells slots Q (F0 m (pc + 3) ls rest)) : W p l e R s m args below meth c H locs cells slots Q (F0 m pc ls (v :: .ref a :: rest)) := by
  obtain ⟨hx, hb, hml, hown, hts, hlk, hret, hini, hB, hK, hN, hz⟩ := X
  have hap := va_apart (own := own) hts (qa_in hr) (q_ty ci) (q_tyok ci r hr) (q_nmok ci r hr) hK hr
  obtain ⟨hBa, cell, q1, q2, q3, q4⟩ := hH.2.1 a ci r ha hr
  obtain ⟨hS, hfc, kC, hkC, hkind⟩ := hK.1 ci r hr
  obtain ⟨cf, kf', fi, f, hi9, hsl⟩ := hS kf hkf
  have hlay := hts _ (qa_in hr _ (u_in_lay hkf))
  unfold u_lay at hlay
  have hst := (u_facts hfc hkC (u_lays hts (qa_in hr) hkf) hi9).1
  rw [if_pos hfin] at hlay
  have hcf : m.cls = cf := by
    obtain ⟨_, _, c', _, _, _, -, -, hf', -, -, -, hown2, -⟩ := Cond.laysFinal_spec hlay
    have e1 : c' = cf := by have := hi9.symm.trans hf'; simp at this; exact this.1.symm
    rw [hdecl] at hown2
    rw [← e1]; exact Option.some.inj (hown.symm.trans hown2)
  have h6 := u_fits hfc hkC hkind (Or.inr hlay) hi9 (q_tyok ci r hr kf hkf) hn hfit
  refine W.putFinK hx hb hown (hts _ hl) hi9 hst hcf (hini hin2) (by rw [q2]; exact h6) q1 q3 (by rw [hsl]; exact k2_hasslot (q4 kf hkf)) rfl rfl hd fun H' e1 e2 e3 => ?_
  rw [hsl] at e1 ⊢
  refine kk H' _ (hH.set hkk e2 e3 hi hj hp hn2 hia hja hpa (fun c2 r2 hc2 hr2 => ?_) (fun κ hκ h100 => ?_)) (hS0.put e2 e3 hBa)
  · have : c2 = ci := by omega
    subst this
    rw [hr] at hr2
    cases hr2
    refine t_OB.to (V := updV (fun k => qa_fv (q_ty c2 k) M (32 * c2 + k) a) kf v) ⟨_, e1, q2, q3, t_set q4 hap hkf v⟩ (fun j _ => ?_)
    by_cases hjk : j = kf
    · subst hjk
      simp [updV, hv1]
    · simp [updV, hjk, hv2 j hjk]
  · have := qa_clt hr
    omega
theorem qs_pi {k : qa_K} (ci kf : Nat) {index : Nat} {r : vw_C} (hr : q_cl[ci]? = some r) (hkf : kf < r.2.2) (hv : ∀ M a, qa_fv (q_ty ci kf) M (32 * ci + kf) a = .int (qa_i M (32 * ci + kf) a)) (hnar : ∀ x : Int32, narrow (q_ty ci kf) (.int x) = .int x) (hfit : ∀ x : Int32, fits (q_ty ci kf) (.int x) = true) (hfin : (r.2.1 kf).2.2.2 = false) (hl : Cond.fieldLink own index (r.2.1 kf).1 (r.2.1 kf).2.1 (r.2.1 kf).2.2.1 ∈ q_W0) (hd : decode cc pc = .ok (.putfield index, 3)) (h : qa_S l own cc nL ret ini D E B R sc Qf (pc + 3) k) : qa_S l own cc nL ret ini D E B R sc Qf pc (qi_pi (ci + 1) (32 * ci + kf) k) := by
  intro p e s m args below meth c X u lv st M hk H locs ls hH hS hV
  obtain ⟨v, r1, rfl, hk1_⟩ := qv_i_inv hk
  obtain ⟨a, r2, rfl, ha, hk2_⟩ := qv_r_inv hk1_
  refine qa_put (M1 := qa_wi M (32 * ci + kf) a v) hr hkf hl hfin (hnar v) (hfit v) hd X hH hS ha rfl (fun f b hb => if_neg (fun q => hb q.2)) (fun _ _ _ => rfl) (fun _ _ _ => rfl) (fun _ _ => rfl) (fun _ _ _ => rfl) (fun _ _ _ => rfl) (fun _ _ _ => rfl) ?_ (fun k2 hk2 => ?_) fun H1 locs1 hH1 hS1 => (h p e s m args below meth c X _ _ _ _ hk2_ _ _ _ hH1 hS1 hV)
  · rw [hv]
    simp [qa_i_wi, qa_j_wj, qa_p_wp, va_rf]
  · have hne : ¬ 32 * ci + k2 = 32 * ci + kf := by omega
    unfold qa_fv
    simp [qa_i_wi, qa_i_wj, qa_i_wp, qa_j_wi, qa_j_wj, qa_j_wp, qa_p_wi, qa_p_wj, qa_p_wp, hne, hk2]
theorem qs_piF {k : qa_K} (ci kf : Nat) {index : Nat} {r : vw_C} (hr : q_cl[ci]? = some r) (hkf : kf < r.2.2) (hv : ∀ M a, qa_fv (q_ty ci kf) M (32 * ci + kf) a = .int (qa_i M (32 * ci + kf) a)) (hnar : ∀ x : Int32, narrow (q_ty ci kf) (.int x) = .int x) (hfit : ∀ x : Int32, fits (q_ty ci kf) (.int x) = true) (hfin : (r.2.1 kf).2.2.2 = true) (hin2 : ini = true) (hdecl : (r.2.1 kf).1 = own) (hl : Cond.fieldLink own index (r.2.1 kf).1 (r.2.1 kf).2.1 (r.2.1 kf).2.2.1 ∈ q_W0) (hd : decode cc pc = .ok (.putfield index, 3)) (h : qa_S l own cc nL ret ini D E B R sc Qf (pc + 3) k) : qa_S l own cc nL ret ini D E B R sc Qf pc (qi_pi (ci + 1) (32 * ci + kf) k) := by
  intro p e s m args below meth c X u lv st M hk H locs ls hH hS hV
  obtain ⟨v, r1, rfl, hk1_⟩ := qv_i_inv hk
  obtain ⟨a, r2, rfl, ha, hk2_⟩ := qv_r_inv hk1_
  refine qa_putF (M1 := qa_wi M (32 * ci + kf) a v) hr hkf hl hfin hin2 hdecl (hnar v) (hfit v) hd X hH hS ha rfl (fun f b hb => if_neg (fun q => hb q.2)) (fun _ _ _ => rfl) (fun _ _ _ => rfl) (fun _ _ => rfl) (fun _ _ _ => rfl) (fun _ _ _ => rfl) (fun _ _ _ => rfl) ?_ (fun k2 hk2 => ?_) fun H1 locs1 hH1 hS1 => (h p e s m args below meth c X _ _ _ _ hk2_ _ _ _ hH1 hS1 hV)
  · rw [hv]
    simp [qa_i_wi, qa_j_wj, qa_p_wp, va_rf]
  · have hne : ¬ 32 * ci + k2 = 32 * ci + kf := by omega
    unfold qa_fv
    simp [qa_i_wi, qa_i_wj, qa_i_wp, qa_j_wi, qa_j_wj, qa_j_wp, qa_p_wi, qa_p_wj, qa_p_wp, hne, hk2]
theorem qs_pz {k : qa_K} (ci kf : Nat) {index : Nat} {r : vw_C} (hr : q_cl[ci]? = some r) (hkf : kf < r.2.2) (hv : ∀ M a, qa_fv (q_ty ci kf) M (32 * ci + kf) a = .int (qa_i M (32 * ci + kf) a)) (hnar : ∀ x : Int32, (x = 0 ∨ x = 1) → narrow (q_ty ci kf) (.int x) = .int x) (hfit : ∀ x : Int32, (x = 0 ∨ x = 1) → fits (q_ty ci kf) (.int x) = true) (hfin : (r.2.1 kf).2.2.2 = false) (hl : Cond.fieldLink own index (r.2.1 kf).1 (r.2.1 kf).2.1 (r.2.1 kf).2.2.1 ∈ q_W0) (hd : decode cc pc = .ok (.putfield index, 3)) (h : qa_S l own cc nL ret ini D E B R sc Qf (pc + 3) k) : qa_S l own cc nL ret ini D E B R sc Qf pc (qi_pz (ci + 1) (32 * ci + kf) k) := by
  intro p e s m args below meth c X u lv st M hk H locs ls hH hS hV
  obtain ⟨v, r1, rfl, hk1_⟩ := qv_i_inv hk
  obtain ⟨a, r2, rfl, ha, hz, hk2_⟩ := qv_r_inv hk1_
  refine qa_put (M1 := qa_wi M (32 * ci + kf) a v) hr hkf hl hfin (hnar v hz) (hfit v hz) hd X hH hS ha rfl (fun f b hb => if_neg (fun q => hb q.2)) (fun _ _ _ => rfl) (fun _ _ _ => rfl) (fun _ _ => rfl) (fun _ _ _ => rfl) (fun _ _ _ => rfl) (fun _ _ _ => rfl) ?_ (fun k2 hk2 => ?_) fun H1 locs1 hH1 hS1 => (h p e s m args below meth c X _ _ _ _ hk2_ _ _ _ hH1 hS1 hV)
  · rw [hv]
    simp [qa_i_wi, qa_j_wj, qa_p_wp, va_rf]
  · have hne : ¬ 32 * ci + k2 = 32 * ci + kf := by omega
    unfold qa_fv
    simp [qa_i_wi, qa_i_wj, qa_i_wp, qa_j_wi, qa_j_wj, qa_j_wp, qa_p_wi, qa_p_wj, qa_p_wp, hne, hk2]
theorem qs_pzF {k : qa_K} (ci kf : Nat) {index : Nat} {r : vw_C} (hr : q_cl[ci]? = some r) (hkf : kf < r.2.2) (hv : ∀ M a, qa_fv (q_ty ci kf) M (32 * ci + kf) a = .int (qa_i M (32 * ci + kf) a)) (hnar : ∀ x : Int32, (x = 0 ∨ x = 1) → narrow (q_ty ci kf) (.int x) = .int x) (hfit : ∀ x : Int32, (x = 0 ∨ x = 1) → fits (q_ty ci kf) (.int x) = true) (hfin : (r.2.1 kf).2.2.2 = true) (hin2 : ini = true) (hdecl : (r.2.1 kf).1 = own) (hl : Cond.fieldLink own index (r.2.1 kf).1 (r.2.1 kf).2.1 (r.2.1 kf).2.2.1 ∈ q_W0) (hd : decode cc pc = .ok (.putfield index, 3)) (h : qa_S l own cc nL ret ini D E B R sc Qf (pc + 3) k) : qa_S l own cc nL ret ini D E B R sc Qf pc (qi_pz (ci + 1) (32 * ci + kf) k) := by
  intro p e s m args below meth c X u lv st M hk H locs ls hH hS hV
  obtain ⟨v, r1, rfl, hk1_⟩ := qv_i_inv hk
  obtain ⟨a, r2, rfl, ha, hz, hk2_⟩ := qv_r_inv hk1_
  refine qa_putF (M1 := qa_wi M (32 * ci + kf) a v) hr hkf hl hfin hin2 hdecl (hnar v hz) (hfit v hz) hd X hH hS ha rfl (fun f b hb => if_neg (fun q => hb q.2)) (fun _ _ _ => rfl) (fun _ _ _ => rfl) (fun _ _ => rfl) (fun _ _ _ => rfl) (fun _ _ _ => rfl) (fun _ _ _ => rfl) ?_ (fun k2 hk2 => ?_) fun H1 locs1 hH1 hS1 => (h p e s m args below meth c X _ _ _ _ hk2_ _ _ _ hH1 hS1 hV)
  · rw [hv]
    simp [qa_i_wi, qa_j_wj, qa_p_wp, va_rf]
  · have hne : ¬ 32 * ci + k2 = 32 * ci + kf := by omega
    unfold qa_fv
    simp [qa_i_wi, qa_i_wj, qa_i_wp, qa_j_wi, qa_j_wj, qa_j_wp, qa_p_wi, qa_p_wj, qa_p_wp, hne, hk2]
theorem qs_pj {k : qa_K} (ci kf : Nat) {index : Nat} {r : vw_C} (hr : q_cl[ci]? = some r) (hkf : kf < r.2.2) (hv : ∀ M a, qa_fv (q_ty ci kf) M (32 * ci + kf) a = .long (qa_j M (32 * ci + kf) a)) (hnar : ∀ x : Int64, narrow (q_ty ci kf) (.long x) = .long x) (hfit : ∀ x : Int64, fits (q_ty ci kf) (.long x) = true) (hfin : (r.2.1 kf).2.2.2 = false) (hl : Cond.fieldLink own index (r.2.1 kf).1 (r.2.1 kf).2.1 (r.2.1 kf).2.2.1 ∈ q_W0) (hd : decode cc pc = .ok (.putfield index, 3)) (h : qa_S l own cc nL ret ini D E B R sc Qf (pc + 3) k) : qa_S l own cc nL ret ini D E B R sc Qf pc (qi_pj (ci + 1) (32 * ci + kf) k) := by
  intro p e s m args below meth c X u lv st M hk H locs ls hH hS hV
  obtain ⟨v, r1, rfl, hk1_⟩ := qv_l_inv hk
  obtain ⟨a, r2, rfl, ha, hk2_⟩ := qv_r_inv hk1_
  refine qa_put (M1 := qa_wj M (32 * ci + kf) a v) hr hkf hl hfin (hnar v) (hfit v) hd X hH hS ha rfl (fun _ _ _ => rfl) (fun f b hb => if_neg (fun q => hb q.2)) (fun _ _ _ => rfl) (fun _ _ => rfl) (fun _ _ _ => rfl) (fun _ _ _ => rfl) (fun _ _ _ => rfl) ?_ (fun k2 hk2 => ?_) fun H1 locs1 hH1 hS1 => (h p e s m args below meth c X _ _ _ _ hk2_ _ _ _ hH1 hS1 hV)
  · rw [hv]
    simp [qa_i_wi, qa_j_wj, qa_p_wp, va_rf]
  · have hne : ¬ 32 * ci + k2 = 32 * ci + kf := by omega
    unfold qa_fv
    simp [qa_i_wi, qa_i_wj, qa_i_wp, qa_j_wi, qa_j_wj, qa_j_wp, qa_p_wi, qa_p_wj, qa_p_wp, hne, hk2]
theorem qs_pjF {k : qa_K} (ci kf : Nat) {index : Nat} {r : vw_C} (hr : q_cl[ci]? = some r) (hkf : kf < r.2.2) (hv : ∀ M a, qa_fv (q_ty ci kf) M (32 * ci + kf) a = .long (qa_j M (32 * ci + kf) a)) (hnar : ∀ x : Int64, narrow (q_ty ci kf) (.long x) = .long x) (hfit : ∀ x : Int64, fits (q_ty ci kf) (.long x) = true) (hfin : (r.2.1 kf).2.2.2 = true) (hin2 : ini = true) (hdecl : (r.2.1 kf).1 = own) (hl : Cond.fieldLink own index (r.2.1 kf).1 (r.2.1 kf).2.1 (r.2.1 kf).2.2.1 ∈ q_W0) (hd : decode cc pc = .ok (.putfield index, 3)) (h : qa_S l own cc nL ret ini D E B R sc Qf (pc + 3) k) : qa_S l own cc nL ret ini D E B R sc Qf pc (qi_pj (ci + 1) (32 * ci + kf) k) := by
  intro p e s m args below meth c X u lv st M hk H locs ls hH hS hV
  obtain ⟨v, r1, rfl, hk1_⟩ := qv_l_inv hk
  obtain ⟨a, r2, rfl, ha, hk2_⟩ := qv_r_inv hk1_
  refine qa_putF (M1 := qa_wj M (32 * ci + kf) a v) hr hkf hl hfin hin2 hdecl (hnar v) (hfit v) hd X hH hS ha rfl (fun _ _ _ => rfl) (fun f b hb => if_neg (fun q => hb q.2)) (fun _ _ _ => rfl) (fun _ _ => rfl) (fun _ _ _ => rfl) (fun _ _ _ => rfl) (fun _ _ _ => rfl) ?_ (fun k2 hk2 => ?_) fun H1 locs1 hH1 hS1 => (h p e s m args below meth c X _ _ _ _ hk2_ _ _ _ hH1 hS1 hV)
  · rw [hv]
    simp [qa_i_wi, qa_j_wj, qa_p_wp, va_rf]
  · have hne : ¬ 32 * ci + k2 = 32 * ci + kf := by omega
    unfold qa_fv
    simp [qa_i_wi, qa_i_wj, qa_i_wp, qa_j_wi, qa_j_wj, qa_j_wp, qa_p_wi, qa_p_wj, qa_p_wp, hne, hk2]
theorem qs_pp {k : qa_K} (ci kf : Nat) {index : Nat} {r : vw_C} (hr : q_cl[ci]? = some r) (hkf : kf < r.2.2) (hv : ∀ M a, qa_fv (q_ty ci kf) M (32 * ci + kf) a = va_rf (qa_p M (32 * ci + kf) a)) (hnar : ∀ x : Nat, narrow (q_ty ci kf) (.ref x) = .ref x) (hfit : ∀ x : Nat, fits (q_ty ci kf) (.ref x) = true) (hfin : (r.2.1 kf).2.2.2 = false) (hl : Cond.fieldLink own index (r.2.1 kf).1 (r.2.1 kf).2.1 (r.2.1 kf).2.2.1 ∈ q_W0) (hd : decode cc pc = .ok (.putfield index, 3)) (h : qa_S l own cc nL ret ini D E B R sc Qf (pc + 3) k) : qa_S l own cc nL ret ini D E B R sc Qf pc (qi_pp (ci + 1) (32 * ci + kf) k) := by
  intro p e s m args below meth c X u lv st M hk H locs ls hH hS hV
  obtain ⟨v, r1, rfl, hk1_⟩ := qv_r_inv hk
  obtain ⟨a, r2, rfl, ha, hk2_⟩ := qv_r_inv hk1_
  refine qa_put (M1 := qa_wp M (32 * ci + kf) a (some v)) hr hkf hl hfin (hnar v) (hfit v) hd X hH hS ha rfl (fun _ _ _ => rfl) (fun _ _ _ => rfl) (fun f b hb => if_neg (fun q => hb q.2)) (fun _ _ => rfl) (fun _ _ _ => rfl) (fun _ _ _ => rfl) (fun _ _ _ => rfl) ?_ (fun k2 hk2 => ?_) fun H1 locs1 hH1 hS1 => (h p e s m args below meth c X _ _ _ _ hk2_ _ _ _ hH1 hS1 hV)
  · rw [hv]
    simp [qa_i_wi, qa_j_wj, qa_p_wp, va_rf]
  · have hne : ¬ 32 * ci + k2 = 32 * ci + kf := by omega
    unfold qa_fv
    simp [qa_i_wi, qa_i_wj, qa_i_wp, qa_j_wi, qa_j_wj, qa_j_wp, qa_p_wi, qa_p_wj, qa_p_wp, hne, hk2]
theorem qs_ppF {k : qa_K} (ci kf : Nat) {index : Nat} {r : vw_C} (hr : q_cl[ci]? = some r) (hkf : kf < r.2.2) (hv : ∀ M a, qa_fv (q_ty ci kf) M (32 * ci + kf) a = va_rf (qa_p M (32 * ci + kf) a)) (hnar : ∀ x : Nat, narrow (q_ty ci kf) (.ref x) = .ref x) (hfit : ∀ x : Nat, fits (q_ty ci kf) (.ref x) = true) (hfin : (r.2.1 kf).2.2.2 = true) (hin2 : ini = true) (hdecl : (r.2.1 kf).1 = own) (hl : Cond.fieldLink own index (r.2.1 kf).1 (r.2.1 kf).2.1 (r.2.1 kf).2.2.1 ∈ q_W0) (hd : decode cc pc = .ok (.putfield index, 3)) (h : qa_S l own cc nL ret ini D E B R sc Qf (pc + 3) k) : qa_S l own cc nL ret ini D E B R sc Qf pc (qi_pp (ci + 1) (32 * ci + kf) k) := by
  intro p e s m args below meth c X u lv st M hk H locs ls hH hS hV
  obtain ⟨v, r1, rfl, hk1_⟩ := qv_r_inv hk
  obtain ⟨a, r2, rfl, ha, hk2_⟩ := qv_r_inv hk1_
  refine qa_putF (M1 := qa_wp M (32 * ci + kf) a (some v)) hr hkf hl hfin hin2 hdecl (hnar v) (hfit v) hd X hH hS ha rfl (fun _ _ _ => rfl) (fun _ _ _ => rfl) (fun f b hb => if_neg (fun q => hb q.2)) (fun _ _ => rfl) (fun _ _ _ => rfl) (fun _ _ _ => rfl) (fun _ _ _ => rfl) ?_ (fun k2 hk2 => ?_) fun H1 locs1 hH1 hS1 => (h p e s m args below meth c X _ _ _ _ hk2_ _ _ _ hH1 hS1 hV)
  · rw [hv]
    simp [qa_i_wi, qa_j_wj, qa_p_wp, va_rf]
  · have hne : ¬ 32 * ci + k2 = 32 * ci + kf := by omega
    unfold qa_fv
    simp [qa_i_wi, qa_i_wj, qa_i_wp, qa_j_wi, qa_j_wj, qa_j_wp, qa_p_wi, qa_p_wj, qa_p_wp, hne, hk2]
def qa_ok (i : Int32) (n : Nat) : Prop := ¬ i < 0 ∧ i.toNatClampNeg < n
def qi_iald (κ : Nat) (k : qa_K) : qa_K := fun u lv st M => qv_i st fun i st => qv_r st fun a st => qa_k M a = κ ∧ qa_ok i (qa_n M a) ∧ k u lv (.int (qa_ia M κ a i.toNatClampNeg) :: st) M
def qi_lald (κ : Nat) (k : qa_K) : qa_K := fun u lv st M => qv_i st fun i st => qv_r st fun a st => qa_k M a = κ ∧ qa_ok i (qa_n M a) ∧ k u lv (.long (qa_ja M κ a i.toNatClampNeg) :: st) M
def qi_aald (κ : Nat) (k : qa_K) : qa_K := fun u lv st M => qv_i st fun i st => qv_r st fun a st => qa_k M a = κ ∧ qa_ok i (qa_n M a) ∧ ∃ b, qa_pa M κ a i.toNatClampNeg = some b ∧ k u lv (.ref b :: st) M
def qi_alen (κ : Nat) (k : qa_K) : qa_K := fun u lv st M => qv_r st fun a st => qa_k M a = κ ∧ k u lv (.int (Int32.ofNat (qa_n M a)) :: st) M
def qi_iast (κ : Nat) (k : qa_K) : qa_K := fun u lv st M => qv_i st fun x st => qv_i st fun i st => qv_r st fun a st => qa_k M a = κ ∧ qa_ok i (qa_n M a) ∧ k u lv st (qa_wia M κ a i.toNatClampNeg x)
def qi_zast (κ : Nat) (k : qa_K) : qa_K := fun u lv st M => qv_i st fun x st => qv_i st fun i st => qv_r st fun a st => qa_k M a = κ ∧ qa_ok i (qa_n M a) ∧ (x = 0 ∨ x = 1) ∧ k u lv st (qa_wia M κ a i.toNatClampNeg x)
def qi_last (κ : Nat) (k : qa_K) : qa_K := fun u lv st M => qv_l st fun x st => qv_i st fun i st => qv_r st fun a st => qa_k M a = κ ∧ qa_ok i (qa_n M a) ∧ k u lv st (qa_wja M κ a i.toNatClampNeg x)
def qi_aast (κ c : Nat) (k : qa_K) : qa_K := fun u lv st M => qv_r st fun x st => qv_i st fun i st => qv_r st fun a st => qa_k M a = κ ∧ qa_ok i (qa_n M a) ∧ qa_k M x = c ∧ k u lv st (qa_wpa M κ a i.toNatClampNeg (some x))
theorem qa_ok.or {i : Int32} {n : Nat} (h : qa_ok i n) : ¬ (i < 0 ∨ n ≤ i.toNatClampNeg) := fun q => q.elim h.1 (fun z => absurd h.2 (Nat.not_lt.mpr z))
theorem qs_iald {k : qa_K} {κ : Nat} (hκ : q_at κ = 0) (h100 : 100 ≤ κ) (hd : decode cc pc = .ok (.iaload, 1)) (h : qa_S l own cc nL ret ini D E B R sc Qf (pc + 1) k) : qa_S l own cc nL ret ini D E B R sc Qf pc (qi_iald κ k) := by
  intro p e s m args below meth c X u lv st M hk H locs ls hH hS hV
  obtain ⟨i, r1, rfl, hk1_⟩ := qv_i_inv hk
  obtain ⟨a, r2, rfl, ha, hok, hk2_⟩ := qv_r_inv hk1_
  have hc := (hH.2.2.1 a κ ha h100).2
  have he : qa_ac E M κ a = arrV (E 0) (qa_n M a) (fun j => .int (qa_ia M κ a j)) := by unfold qa_ac; rw [hκ]; rfl
  rw [he] at hc
  exact W.iald (v := .int (qa_ia M κ a i.toNatClampNeg)) X.1 X.2.1 hc ((X.2.2.2.2.2.2.2.2.2.1.2 0 (E 0, .int) rfl).1 _ _) (fun q => by cases q) (by rw [arrV_size]; exact hok.or) (by rw [arrV_read _ _ hok.2]) rfl rfl hd (h p e s m args below meth c X _ _ _ _ hk2_ _ _ _ hH hS hV)
theorem qs_zald {k : qa_K} {κ : Nat} (hκ : q_at κ = 2) (h100 : 100 ≤ κ) (hd : decode cc pc = .ok (.baload, 1)) (h : qa_S l own cc nL ret ini D E B R sc Qf (pc + 1) k) : qa_S l own cc nL ret ini D E B R sc Qf pc (qi_iald κ k) := by
  intro p e s m args below meth c X u lv st M hk H locs ls hH hS hV
  obtain ⟨i, r1, rfl, hk1_⟩ := qv_i_inv hk
  obtain ⟨a, r2, rfl, ha, hok, hk2_⟩ := qv_r_inv hk1_
  have hc := (hH.2.2.1 a κ ha h100).2
  have he : qa_ac E M κ a = arrV (E 2) (qa_n M a) (fun j => .int (qa_ia M κ a j)) := by unfold qa_ac; rw [hκ]; rfl
  rw [he] at hc
  exact W.zald (v := .int (qa_ia M κ a i.toNatClampNeg)) X.1 X.2.1 hc ((X.2.2.2.2.2.2.2.2.2.1.2 2 (E 2, .boolean) rfl).1 _ _) (fun q => by cases q) (by rw [arrV_size]; exact hok.or) (by rw [arrV_read _ _ hok.2]) rfl rfl hd (h p e s m args below meth c X _ _ _ _ hk2_ _ _ _ hH hS hV)
theorem qs_lald {k : qa_K} {κ : Nat} (hκ : q_at κ = 1) (h100 : 100 ≤ κ) (hd : decode cc pc = .ok (.laload, 1)) (h : qa_S l own cc nL ret ini D E B R sc Qf (pc + 1) k) : qa_S l own cc nL ret ini D E B R sc Qf pc (qi_lald κ k) := by
  intro p e s m args below meth c X u lv st M hk H locs ls hH hS hV
  obtain ⟨i, r1, rfl, hk1_⟩ := qv_i_inv hk
  obtain ⟨a, r2, rfl, ha, hok, hk2_⟩ := qv_r_inv hk1_
  have hc := (hH.2.2.1 a κ ha h100).2
  have he : qa_ac E M κ a = arrV (E 1) (qa_n M a) (fun j => .long (qa_ja M κ a j)) := by unfold qa_ac; rw [hκ]; rfl
  rw [he] at hc
  exact W.lald (v := .long (qa_ja M κ a i.toNatClampNeg)) X.1 X.2.1 hc ((X.2.2.2.2.2.2.2.2.2.1.2 1 (E 1, .long) rfl).1 _ _) (fun q => by cases q) (by rw [arrV_size]; exact hok.or) (by rw [arrV_read _ _ hok.2]) rfl rfl hd (h p e s m args below meth c X _ _ _ _ hk2_ _ _ _ hH hS hV)
theorem qs_aald {k : qa_K} {κ t : Nat} {C : String} (hκ : q_at κ = t + 3) (ht : ∀ E, (q_tys E)[t + 3]? = some (E (t + 3), .object C)) (h100 : 100 ≤ κ) (hd : decode cc pc = .ok (.aaload, 1)) (h : qa_S l own cc nL ret ini D E B R sc Qf (pc + 1) k) : qa_S l own cc nL ret ini D E B R sc Qf pc (qi_aald κ k) := by
  intro p e s m args below meth c X u lv st M hk H locs ls hH hS hV
  obtain ⟨i, r1, rfl, hk1_⟩ := qv_i_inv hk
  obtain ⟨a, r2, rfl, ha, hok, b, hb2, hk2_⟩ := qv_r_inv hk1_
  have hc := (hH.2.2.1 a κ ha h100).2
  have he : qa_ac E M κ a = arrV (E (t + 3)) (qa_n M a) (fun j => va_rf (qa_pa M κ a j)) := by unfold qa_ac; rw [hκ]; rfl
  rw [he] at hc
  refine W.aald (v := .ref b) (ty := .object C) X.1 X.2.1 hc ((X.2.2.2.2.2.2.2.2.2.1.2 (t + 3) _ (ht E)).1 _ _) rfl (fun q => by cases q) (by rw [arrV_size]; exact hok.or) (by rw [arrV_read _ _ hok.2, hb2]; rfl) rfl rfl hd (h p e s m args below meth c X _ _ _ _ hk2_ _ _ _ hH hS hV)
theorem qs_alen {k : qa_K} {κ t : Nat} {ty : FieldType} (hκ : q_at κ = t) (ht : ∀ E, (q_tys E)[t]? = some (E t, ty)) (h100 : 100 ≤ κ) (hd : decode cc pc = .ok (.arraylength, 1)) (h : qa_S l own cc nL ret ini D E B R sc Qf (pc + 1) k) : qa_S l own cc nL ret ini D E B R sc Qf pc (qi_alen κ k) := by
  intro p e s m args below meth c X u lv st M hk H locs ls hH hS hV
  obtain ⟨a, r2, rfl, ha, hk1_⟩ := qv_r_inv hk
  have hc := (hH.2.2.1 a κ ha h100).2
  have he : ∃ f : Nat → Value, qa_ac E M κ a = arrV (E t) (qa_n M a) f := by
    unfold qa_ac
    rw [hκ]
    split <;> exact ⟨_, rfl⟩
  obtain ⟨f, he⟩ := he
  rw [he] at hc
  exact W.alen X.1 X.2.1 hc ((X.2.2.2.2.2.2.2.2.2.1.2 t _ (ht E)).1 _ _) (by rw [arrV_size] <;> rfl) rfl rfl hd (h p e s m args below meth c X _ _ _ _ hk1_ _ _ _ hH hS hV)
theorem qs_iast {k : qa_K} {κ : Nat} (hκ : q_at κ = 0) (h100 : 100 ≤ κ) (hd : decode cc pc = .ok (.iastore, 1)) (h : qa_S l own cc nL ret ini D E B R sc Qf (pc + 1) k) : qa_S l own cc nL ret ini D E B R sc Qf pc (qi_iast κ k) := by
  intro p e s m args below meth c X u lv st M hk H locs ls hH hS hV
  obtain ⟨x, r0, rfl, hk1_⟩ := qv_i_inv hk
  obtain ⟨i, r1, rfl, hk2_⟩ := qv_i_inv hk1_
  obtain ⟨a, r2, rfl, ha, hok, hk3_⟩ := qv_r_inv hk2_
  have hc := (hH.2.2.1 a κ ha h100).2
  have he : ∀ M, qa_ac E M κ a = arrV (E 0) (qa_n M a) (fun j => .int (qa_ia M κ a j)) := by intro M; unfold qa_ac; rw [hκ]; rfl
  rw [he] at hc
  refine W.iast X.1 X.2.1 hc ((X.2.2.2.2.2.2.2.2.2.1.2 0 (E 0, .int) rfl).1 _ _) (fun q => by cases q) (by rw [arrV_size]; exact hok.or) rfl rfl hd fun H1 e1 z oq => ?_
  refine h p e s m args below meth c X _ _ _ _ hk3_ _ _ _ (hH.set (a := a) rfl z oq (fun _ _ _ => rfl) (fun _ _ _ => rfl) (fun _ _ _ => rfl) (fun _ _ => rfl) (fun κ2 b hb => by funext j; exact if_neg (fun q => hb q.2.1)) (fun _ _ _ => rfl) (fun _ _ _ => rfl) (fun c2 r2 hc2 hr2 => ?_) (fun κ2 hκ2 _ => ?_)) (hS.put z oq (hH.2.2.1 a κ ha h100).1) hV
  · have := qa_clt hr2
    omega
  · have : κ2 = κ := by omega
    subst this
    rw [e1, he, arrV_store]
    congr 2
    funext q
    by_cases hq : q = i.toNatClampNeg
    · subst hq
      simp [updV, qa_ia_wia, qa_ja_wja]
    · simp [updV, hq, qa_ia_wia, qa_ja_wja]
theorem qs_zast {k : qa_K} {κ : Nat} (hκ : q_at κ = 2) (h100 : 100 ≤ κ) (hd : decode cc pc = .ok (.bastore, 1)) (h : qa_S l own cc nL ret ini D E B R sc Qf (pc + 1) k) : qa_S l own cc nL ret ini D E B R sc Qf pc (qi_zast κ k) := by
  intro p e s m args below meth c X u lv st M hk H locs ls hH hS hV
  obtain ⟨x, r0, rfl, hk1_⟩ := qv_i_inv hk
  obtain ⟨i, r1, rfl, hk2_⟩ := qv_i_inv hk1_
  obtain ⟨a, r2, rfl, ha, hok, hz, hk3_⟩ := qv_r_inv hk2_
  have hnz : narrow .boolean (.int x) = .int x := by rcases hz with rfl | rfl <;> rfl
  have hc := (hH.2.2.1 a κ ha h100).2
  have he : ∀ M, qa_ac E M κ a = arrV (E 2) (qa_n M a) (fun j => .int (qa_ia M κ a j)) := by intro M; unfold qa_ac; rw [hκ]; rfl
  rw [he] at hc
  refine W.zast X.1 X.2.1 hc ((X.2.2.2.2.2.2.2.2.2.1.2 2 (E 2, .boolean) rfl).1 _ _) (fun q => by cases q) (by rw [arrV_size]; exact hok.or) rfl rfl hd fun H1 e1 z oq => ?_
  rw [hnz] at e1
  refine h p e s m args below meth c X _ _ _ _ hk3_ _ _ _ (hH.set (a := a) rfl z oq (fun _ _ _ => rfl) (fun _ _ _ => rfl) (fun _ _ _ => rfl) (fun _ _ => rfl) (fun κ2 b hb => by funext j; exact if_neg (fun q => hb q.2.1)) (fun _ _ _ => rfl) (fun _ _ _ => rfl) (fun c2 r2 hc2 hr2 => ?_) (fun κ2 hκ2 _ => ?_)) (hS.put z oq (hH.2.2.1 a κ ha h100).1) hV
  · have := qa_clt hr2
    omega
  · have : κ2 = κ := by omega
    subst this
    rw [e1, he, arrV_store]
    congr 2
    funext q
    by_cases hq : q = i.toNatClampNeg
    · subst hq
      simp [updV, qa_ia_wia, qa_ja_wja]
    · simp [updV, hq, qa_ia_wia, qa_ja_wja]
theorem qs_last {k : qa_K} {κ : Nat} (hκ : q_at κ = 1) (h100 : 100 ≤ κ) (hd : decode cc pc = .ok (.lastore, 1)) (h : qa_S l own cc nL ret ini D E B R sc Qf (pc + 1) k) : qa_S l own cc nL ret ini D E B R sc Qf pc (qi_last κ k) := by
  intro p e s m args below meth c X u lv st M hk H locs ls hH hS hV
  obtain ⟨x, r0, rfl, hk1_⟩ := qv_l_inv hk
  obtain ⟨i, r1, rfl, hk2_⟩ := qv_i_inv hk1_
  obtain ⟨a, r2, rfl, ha, hok, hk3_⟩ := qv_r_inv hk2_
  have hc := (hH.2.2.1 a κ ha h100).2
  have he : ∀ M, qa_ac E M κ a = arrV (E 1) (qa_n M a) (fun j => .long (qa_ja M κ a j)) := by intro M; unfold qa_ac; rw [hκ]; rfl
  rw [he] at hc
  refine W.last X.1 X.2.1 hc ((X.2.2.2.2.2.2.2.2.2.1.2 1 (E 1, .long) rfl).1 _ _) (fun q => by cases q) (by rw [arrV_size]; exact hok.or) rfl rfl hd fun H1 e1 z oq => ?_
  refine h p e s m args below meth c X _ _ _ _ hk3_ _ _ _ (hH.set (a := a) rfl z oq (fun _ _ _ => rfl) (fun _ _ _ => rfl) (fun _ _ _ => rfl) (fun _ _ => rfl) (fun _ _ _ => rfl) (fun κ2 b hb => by funext j; exact if_neg (fun q => hb q.2.1)) (fun _ _ _ => rfl) (fun c2 r2 hc2 hr2 => ?_) (fun κ2 hκ2 _ => ?_)) (hS.put z oq (hH.2.2.1 a κ ha h100).1) hV
  · have := qa_clt hr2
    omega
  · have : κ2 = κ := by omega
    subst this
    rw [e1, he, arrV_store]
    congr 2
    funext q
    by_cases hq : q = i.toNatClampNeg
    · subst hq
      simp [updV, qa_ia_wia, qa_ja_wja]
    · simp [updV, hq, qa_ia_wia, qa_ja_wja]
theorem qs_aast {k : qa_K} {κ t ci : Nat} {r : vw_C} (hκ : q_at κ = t + 3) (hr : q_cl[ci]? = some r) (ht : ∀ E, (q_tys E)[t + 3]? = some (E (t + 3), .object r.1)) (h100 : 100 ≤ κ) (hd : decode cc pc = .ok (.aastore, 1)) (h : qa_S l own cc nL ret ini D E B R sc Qf (pc + 1) k) : qa_S l own cc nL ret ini D E B R sc Qf pc (qi_aast κ (ci + 1) k) := by
  intro p e s m args below meth c X u lv st M hk H locs ls hH hS hV
  obtain ⟨x, r0, rfl, hk1_⟩ := qv_r_inv hk
  obtain ⟨i, r1, rfl, hk2_⟩ := qv_i_inv hk1_
  obtain ⟨a, r2, rfl, ha, hok, hx, hk3_⟩ := qv_r_inv hk2_
  have hc := (hH.2.2.1 a κ ha h100).2
  have he : ∀ M, qa_ac E M κ a = arrV (E (t + 3)) (qa_n M a) (fun j => va_rf (qa_pa M κ a j)) := by intro M; unfold qa_ac; rw [hκ]; rfl
  rw [he] at hc
  obtain ⟨-, cellV, g1, g2, g3, -⟩ := hH.2.1 x ci r hx hr
  have hK := X.2.2.2.2.2.2.2.2.2.1
  have hcls := (hK.1 ci r hr).2
  obtain ⟨kA, comp, k1, k2, k3, -⟩ := (hK.2 (t + 3) _ (ht E)).2
  have hcomp : comp = D.1 ci := Option.some.inj (k3.symm.trans hcls.1)
  subst hcomp
  obtain ⟨kC, hkC, -⟩ := hcls.2
  refine W.aast X.1 X.2.1 hc (fun q h => by cases h) (fun h => by cases h) k1 k2 rfl hkC ⟨hok.1, by rw [arrV_size]; exact hok.2⟩ g1 (fun q h => by rw [g3] at h; cases h) (by rw [g2]; exact hkC) (by rw [g2]; exact va_assign hcls) rfl rfl hd fun H1 e1 z oq => ?_
  refine h p e s m args below meth c X _ _ _ _ hk3_ _ _ _ (hH.set (a := a) rfl z oq (fun _ _ _ => rfl) (fun _ _ _ => rfl) (fun _ _ _ => rfl) (fun _ _ => rfl) (fun _ _ _ => rfl) (fun _ _ _ => rfl) (fun κ2 b hb => by funext j; exact if_neg (fun q => hb q.2.1)) (fun c2 r2 hc2 hr2 => ?_) (fun κ2 hκ2 _ => ?_)) (hS.put z oq (hH.2.2.1 a κ ha h100).1) hV
  · have := qa_clt hr2
    omega
  · have : κ2 = κ := by omega
    subst this
    rw [e1, he, arrV_store]
    congr 2
    funext q
    by_cases hq : q = i.toNatClampNeg
    · subst hq
      simp [updV, qa_pa_wpa, va_rf]
    · simp [updV, hq, qa_pa_wpa]
def qi_sld (z : Nat × Nat × (Nat → Int32)) (k : qa_K) : qa_K := fun u lv st M => qv_i st fun i st => qv_r st fun a st => a = z.1 ∧ qa_ok i z.2.1 ∧ k u lv (.int (z.2.2 i.toNatClampNeg) :: st) M
def qi_sln (z : Nat × Nat × (Nat → Int32)) (k : qa_K) : qa_K := fun u lv st M => qv_r st fun a st => a = z.1 ∧ k u lv (.int (Int32.ofNat z.2.1) :: st) M
theorem qs_sld {k : qa_K} {z : Nat × Nat × (Nat → Int32)} (hz : sc = some z) (hd : decode cc pc = .ok (.iaload, 1)) (h : qa_S l own cc nL ret ini D E B R sc Qf (pc + 1) k) : qa_S l own cc nL ret ini D E B R sc Qf pc (qi_sld z k) := by
  intro p e s m args below meth c X u lv st M hk H locs ls hH hS hV
  obtain ⟨i, r1, rfl, hk1_⟩ := qv_i_inv hk
  obtain ⟨a, r2, rfl, rfl, hok, hk2_⟩ := qv_r_inv hk1_
  obtain ⟨h1, h2⟩ := X.2.2.2.2.2.2.2.2.2.2.2 z hz
  have hB := X.2.2.2.2.2.2.2.2.1
  exact va_sld X.1 X.2.1 h1 (by omega) (by show ¬ B ≤ z.1; omega) hS hok.or hd (h p e s m args below meth c X _ _ _ _ hk2_ _ _ _ hH hS hV)
theorem qs_sln {k : qa_K} {z : Nat × Nat × (Nat → Int32)} (hz : sc = some z) (hd : decode cc pc = .ok (.arraylength, 1)) (h : qa_S l own cc nL ret ini D E B R sc Qf (pc + 1) k) : qa_S l own cc nL ret ini D E B R sc Qf pc (qi_sln z k) := by
  intro p e s m args below meth c X u lv st M hk H locs ls hH hS hV
  obtain ⟨a, r2, rfl, rfl, hk1_⟩ := qv_r_inv hk
  obtain ⟨h1, h2⟩ := X.2.2.2.2.2.2.2.2.2.2.2 z hz
  have hB := X.2.2.2.2.2.2.2.2.1
  exact va_slen X.1 X.2.1 h1 (by omega) (by show ¬ B ≤ z.1; omega) hS hd (h p e s m args below meth c X _ _ _ _ hk1_ _ _ _ hH hS hV)
def qa_le (u v : Nat × Nat) : Prop := u.1 ≤ v.1 ∧ u.2 ≤ v.2
def qi_new (c N : Nat) (v : Nat × Nat) (k : qa_K) : qa_K := fun u lv st M => qa_le (u.1 + 1, u.2 + N) v ∧ ∀ a, qa_k M a = 0 → k (u.1 + 1, u.2 + N) lv (.ref a :: st) (qa_nw M c a)
theorem qs_new {k : qa_K} (ci : Nat) {index : Nat} {r : vw_C} (hr : q_cl[ci]? = some r) (hcl : Cond.classLink own index r.1 ∈ q_W0) (hin : Cond.instantiable r.1 r.2.2 ∈ q_W0) (hini : Cond.initialized r.1 ∈ q_W0) (hdv : ∀ M a b j, j < r.2.2 → defaultValue (q_ty ci j) = qa_fv (q_ty ci j) (qa_nw M b a) (32 * ci + j) a) (hd : decode cc pc = .ok (.new index, 3)) (h : qa_S l own cc nL ret ini D E B R sc Qf (pc + 3) k) : qa_S l own cc nL ret ini D E B R sc Qf pc (qi_new (ci + 1) r.2.2 (R.cells, R.slots) k) := by
  intro p e s m args below meth c X u lv st M hk H locs ls hH hS hV
  obtain ⟨hle, hk1_⟩ := hk
  have hts := X.2.2.2.2.1
  have hKn := X.2.2.2.2.2.2.2.2.2.1.1 ci r hr
  refine W.newcK X.1 X.2.1 X.2.2.2.1 (hts _ hcl) (hts _ hin) (hts _ hini) rfl hd hle.1 hle.2 hKn.2.1 rfl fun H1 kC hkC e1 z1 o1 => ?_
  have hS1 : va_S (fun q => B ≤ q) s.heap H1 locs := ⟨Nat.le_trans hS.1 (by omega), fun x h1 h2 => (o1 x (Nat.lt_of_lt_of_le h1 hS.1)).trans (hS.2.1 x h1 h2), hS.2.2⟩
  refine h p e s m args below meth c X (u.1 + 1, u.2 + r.2.2) _ _ _ (hk1_ H.size (hH.2.2.2 _ (Nat.le_refl _))) _ _ _ (hH.grow (x := ci + 1) rfl (fun _ => rfl) z1 o1 (fun _ b hb => if_neg hb) (fun _ b hb => if_neg hb) (fun _ b hb => if_neg hb) (fun _ _ => rfl) (fun _ _ _ => rfl) (fun _ _ _ => rfl) (fun _ _ _ => rfl) (fun c2 r2 hc2 hr2 => ?_) (fun h100 => ?_)) hS1 hV
  · have : c2 = ci := by omega
    subst this
    rw [hr] at hr2
    cases hr2
    exact (u_born (q_ty c2) hts (qa_in hr) hKn hkC e1 (q_tyok c2 r hr)).to fun j hj => hdv M H.size _ j hj
  · have := qa_clt hr
    omega
def qi_newa (κ : Nat) (v : Nat × Nat) (k : qa_K) : qa_K := fun u lv st M => qv_i st fun x st => ¬ x < 0 ∧ x.toNatClampNeg ≤ 1000000 ∧ qa_le (u.1 + 1, u.2 + x.toNatClampNeg) v ∧ ∀ a, qa_k M a = 0 → k (u.1 + 1, u.2 + x.toNatClampNeg) lv (.ref a :: st) (qa_na M κ a x.toNatClampNeg)
theorem qs_newa {k : qa_K} {κ t : Nat} {at_ : ArrayType} (hκ : q_at κ = t) (ht : ∀ E, (q_tys E)[t]? = some (E t, newarray.typeOf at_)) (h100 : 100 ≤ κ) (hcb : componentBytes (newarray.typeOf at_) ≤ 8) (hdv : ∀ (E : Nat → ClassId) (M : qa_M) (a n : Nat), qa_ac E (qa_na M κ a n) κ a = arrV (E t) n (fun _ => defaultValue (newarray.typeOf at_))) (hw : Cond.arrayClass (newarray.typeOf at_) ∈ q_W0) (hd : decode cc pc = .ok (.newarray at_, 2)) (h : qa_S l own cc nL ret ini D E B R sc Qf (pc + 2) k) : qa_S l own cc nL ret ini D E B R sc Qf pc (qi_newa κ (R.cells, R.slots) k) := by
  intro p e s m args below meth c X u lv st M hk H locs ls hH hS hV
  obtain ⟨x, r1, rfl, h0, hN, hle, hk1_⟩ := qv_i_inv hk
  have hts := X.2.2.2.2.1
  refine va_newaK X.1 X.2.1 (hts _ hw) rfl hd rfl h0 rfl (Nat.le_trans (Nat.mul_le_mul hN hcb) (by decide)) hle.1 hle.2 rfl fun H1 cA e1 z1 o1 hAr hnm => ?_
  have hra := (X.2.2.2.2.2.2.2.2.2.1.2 t _ (ht E)).2
  have hcA : cA = E t := by
    have h2 : s.vm.findClass ("[" ++ (newarray.typeOf at_).toString) = some (E t) := by cases at_ <;> exact hra
    exact Option.some.inj (hnm.symm.trans h2)
  have hS1 : va_S (fun q => B ≤ q) s.heap H1 locs := ⟨Nat.le_trans hS.1 (by omega), fun x h1 h2 => (o1 x (Nat.lt_of_lt_of_le h1 hS.1)).trans (hS.2.1 x h1 h2), hS.2.2⟩
  refine h p e s m args below meth c X (u.1 + 1, u.2 + x.toNatClampNeg) _ _ _ (hk1_ H.size (hH.2.2.2 _ (Nat.le_refl _))) _ _ _ (hH.grow (x := κ) rfl (fun _ => rfl) z1 o1 (fun _ _ _ => rfl) (fun _ _ _ => rfl) (fun _ _ _ => rfl) (fun b hb => if_neg hb) (fun _ b hb => by funext j; exact if_neg hb) (fun _ b hb => by funext j; exact if_neg hb) (fun _ b hb => by funext j; exact if_neg hb) (fun c2 r2 hc2 hr2 => ?_) (fun _ => ?_)) hS1 hV
  · have := qa_clt hr2
    omega
  · rw [hdv, ← hcA]
    exact e1
def qi_anew (κ : Nat) (v : Nat × Nat) (k : qa_K) : qa_K := qi_newa κ v k
theorem qs_anew {k : qa_K} {κ t index : Nat} {C : String} (hκ : q_at κ = t + 3) (ht : ∀ E, (q_tys E)[t + 3]? = some (E (t + 3), .object C)) (h100 : 100 ≤ κ) (hcl : Cond.classLink own index C ∈ q_W0) (hov : C ∈ q_ao) (hd : decode cc pc = .ok (.anewarray index, 3)) (h : qa_S l own cc nL ret ini D E B R sc Qf (pc + 3) k) : qa_S l own cc nL ret ini D E B R sc Qf pc (qi_anew κ (R.cells, R.slots) k) := by
  intro p e s m args below meth c X u lv st M hk H locs ls hH hS hV
  obtain ⟨x, r1, rfl, h0, hN, hle, hk1_⟩ := qv_i_inv hk
  have hts := X.2.2.2.2.1
  refine W.anew X.1 X.2.1 X.2.2.2.1 (hts _ hcl) (va_AO.use (X.2.2.2.2.2.2.2.2.2.2.1.2 _ hov)) rfl hd rfl h0 (Nat.le_trans (Nat.mul_le_mul hN (Nat.le_refl 4)) (by decide)) hle.1 hle.2 fun cA kA comp f1 f2 f3 f4 => ?_
  generalize hH1 : H.push ({ cls := cA, slots := Array.replicate x.toNatClampNeg .null, vm := .none } : Cell) = H1
  have z1 : H1.size = H.size + 1 := by rw [← hH1, Array.size_push]
  have e1 : H1[H.size]? = some (arrV cA x.toNatClampNeg (fun _ => .null)) := by rw [← hH1, Array.getElem?_push_size, ← arrV_new]
  have o1 : ∀ q : Nat, q < H.size → H1[q]? = H[q]? := fun q hq => by rw [← hH1, Array.getElem?_push, if_neg (Nat.ne_of_lt hq)]
  obtain ⟨kA2, comp2, g1, g2, g3, g4⟩ := (X.2.2.2.2.2.2.2.2.2.1.2 (t + 3) _ (ht E)).2
  have hcA : cA = E (t + 3) := Option.some.inj (f1.symm.trans g4)
  have hS1 : va_S (fun q => B ≤ q) s.heap H1 locs := ⟨Nat.le_trans hS.1 (by omega), fun x h1 h2 => (o1 x (Nat.lt_of_lt_of_le h1 hS.1)).trans (hS.2.1 x h1 h2), hS.2.2⟩
  refine h p e s m args below meth c X (u.1 + 1, u.2 + x.toNatClampNeg) _ _ _ (hk1_ H.size (hH.2.2.2 _ (Nat.le_refl _))) _ _ _ (hH.grow (x := κ) rfl (fun _ => rfl) z1 o1 (fun _ _ _ => rfl) (fun _ _ _ => rfl) (fun _ _ _ => rfl) (fun b hb => if_neg hb) (fun _ b hb => by funext j; exact if_neg hb) (fun _ b hb => by funext j; exact if_neg hb) (fun _ b hb => by funext j; exact if_neg hb) (fun c2 r2 hc2 hr2 => ?_) (fun _ => ?_)) hS1 hV
  · have := qa_clt hr2
    omega
  · rw [e1, hcA]
    unfold qa_ac
    rw [hκ]
    simp [qa_n_na, qa_pa_na, va_rf]
def qi_oinit (k : qa_K) : qa_K := fun u lv st M => qv_r st fun _ st => qa_rm st ∧ k u lv st M
theorem qs_oinit {k : qa_K} {index : Nat} (hw1 : Cond.methodLink own index Lib.objectInit ∈ q_W0) (hw2 : Cond.instanceMethod Lib.objectInit ∈ q_W0) (hw3 : Cond.code Lib.objectInit ⟨#[0xb1]⟩ 1 none ∈ q_W0) (hf : 1 ≤ R.frames) (hlo : 20 ≤ R.locals) (hd : decode cc pc = .ok (.invokespecial index, 3)) (h : qa_S l own cc nL ret ini D E B R sc Qf (pc + 3) k) : qa_S l own cc nL ret ini D E B R sc Qf pc (qi_oinit k) := by
  intro p e s m args below meth c X u lv st M hk H locs ls hH hS hV
  obtain ⟨a, r1, rfl, hrm, hk1_⟩ := qv_r_inv hk
  have hts := X.2.2.2.2.1
  refine W.objInit X.1 X.2.1 X.2.2.2.1 (hts _ hw1) (hts _ hw2) (hts _ hw3) rfl (by rw [X.2.2.1]; exact hV.1) rfl hd hf ?_ (h p e s m args below meth c X _ _ _ _ hk1_ _ _ _ hH hS hV)
  show 2 * 0 + _ + 12 ≤ _
  unfold qa_rm at hrm
  omega
theorem qa_F.moved {U : State} {s : State} {H : Heap} {locs : List Loc} (hF : qa_F D E B sc s) (hB : B ≤ s.heap.size) (hS : va_S (fun q => B ≤ q) s.heap H locs) (hU : U.heap = H) (hW : s.WarmedH U.vm) : qa_F D E B sc U := by
  obtain ⟨hK, hN, hz⟩ := hF
  refine ⟨hK.moved hW.alike, ⟨fun w hw => ?_, fun C hC => (hN.2 C hC).moved hW.alike⟩, fun z hzz => ?_⟩
  · obtain ⟨a, i, x, h, rfl⟩ := q_nwok w hw
    exact va_Nw.warmM hW (hN.1 _ hw)
  · obtain ⟨h1, h2⟩ := hz z hzz
    refine ⟨(h1.moved hW.alike).kept ?_, h2⟩
    rw [hU]
    exact hS.2.1 z.1 (by omega) (by show ¬ B ≤ z.1; omega)
theorem qa_F.blind {args : List Value} {M : qa_M} : FrameBlind (qa_P D E B sc args M) := by
  intro a U g mk h
  obtain ⟨h1, h2, hK, hN, hz⟩ := h
  refine ⟨h1, h2, hK.moved (u := U) (U := U.calling g mk a) (Vm.Alike.refl U.vm), ⟨fun w hw => ?_, fun C hC => va_AO.moved (u := U) (U := U.calling g mk a) (Vm.Alike.refl U.vm) (hN.2 C hC)⟩, fun z hzz => ?_⟩
  · obtain ⟨a9, i, x, h, rfl⟩ := q_nwok w hw
    exact va_Nw.same rfl (u := U) (U := U.calling g mk a) rfl (hN.1 _ hw)
  · obtain ⟨g1, g2⟩ := hz z hzz
    exact ⟨va_X.moved (u := U) (U := U.calling g mk a) (Vm.Alike.refl U.vm) g1, g2⟩
theorem qa_good {y2 : MethodName} {c2 : ByteArray} {n2 : Nat} {r2 : Option FieldType} (h : Cond.code y2 c2 n2 r2 ∈ q_W0) : GoodIn q_W0 (Cond.code y2 c2 n2 r2 :: q_W0) := by
  intro w hw
  rcases List.mem_cons.mp hw with rfl | hw
  · exact ⟨h, Or.inl rfl⟩
  · exact ⟨hw, q_good w hw⟩
def qi_call (n : Nat) (v : Nat × Nat) (sp : qa_sp) (k : qa_K) : qa_K := fun u lv st M => qa_pop n [] st fun as st => qa_rm st ∧ qa_le u v ∧ sp as M fun r M2 => k u lv (qa_rs r st) M2
def qi_callv (n c : Nat) (v : Nat × Nat) (sp : qa_sp) (k : qa_K) : qa_K := fun u lv st M => qa_pop n [] st fun as st => qv_r as fun b bs => qa_k M b = c ∧ qa_rm st ∧ qa_le u v ∧ sp (.ref b :: bs) M fun r M2 => k u lv (qa_rs r st) M2
def qi_callm (n : Nat) (v w : Nat × Nat) (sp : qa_sp) (k : qa_K) : qa_K := fun u lv st M => qa_pop n [] st fun as st => qv_r as fun b bs => qa_rm st ∧ qa_le (u.1 + w.1, u.2 + w.2) v ∧ sp (.ref b :: bs) M fun r M2 => k (u.1 + w.1, u.2 + w.2) lv (qa_rs r st) M2
theorem qa_after {p : Program} {e : Env} {s : State} {m : MethodId} {args : Array Value} {below : List Frame} {meth : Method} {c : Code} {H : Heap} {locs : List Loc} {cells slots mc ms : Nat} {Q : State → Prop} {ls : Array Slot} {rest st0 : List Value} {a : Array Value} {Po : Option Value → qa_M → Prop}
    (hr : va_Run p l e R s m args below meth c H locs cells slots mc ms (F0 m pc ls st0) rest (qa_Q D E B Po a) (fun q => B ≤ q)) (hS : va_S (fun q => B ≤ q) s.heap H locs)
    (kk : ∀ (r : Option Value) (M2 : qa_M) (H1 : Heap) (locs1 : List Loc), Po r M2 → qa_H D E B M2 H1 → va_S (fun q => B ≤ q) s.heap H1 locs1 → W p l e R s m args below meth c H1 locs1 (cells + mc) (slots + ms) Q (F0 m (pc + 3) ls (qa_rs r rest))) : W p l e R s m args below meth c H locs cells slots Q (F0 m pc ls st0) := by
  intro T hT X
  obtain ⟨v, st₀, t, T', L, h0, X', hL, e1, e2, ⟨⟨r, M2, hv, hp, hb⟩, hz, hk⟩, st⟩ := hr T hT X
  cases hv
  rw [h0] at hz hk
  obtain ⟨t2, a1, b1⟩ := kk v M2 T'.heap (locs ++ L) hp (by rw [e1]; exact hb)
    ⟨Nat.le_trans hS.1 (by rw [e1]; exact hz), fun q h1 h2 => by rw [e1, hk q (Nat.lt_of_lt_of_le h1 hS.1) h2]; exact hS.2.1 q h1 h2, fun q hq => by
      rcases List.mem_append.mp hq with h | h
      · exact hS.2.2 q h
      · exact hL q h⟩ T' rfl X'
  rw [← qa_rs_eq] at a1
  exact ⟨t2, st t2 a1, b1⟩

theorem qs_calls {k : qa_K} {y : MethodName} {bytes : ByteArray} {maxL : Nat} {rt : Option FieldType} {rm : Room} {sp : qa_sp} {index n : Nat} (hct : qa_T l y (Cond.code y bytes maxL rt :: q_W0) rm sc sp) (hcw : Cond.code y bytes maxL rt ∈ q_W0) (hR : rm.frames + 1 ≤ R.frames ∧ 8 + (maxL + 11) + rm.locals ≤ R.locals) (h0 : rm.cells = 0 ∧ rm.slots = 0) (hw1 : Cond.methodLink own index y ∈ q_W0) (hw2 : Cond.static y ∈ q_W0) (hw3 : Cond.initialized y.cls ∈ q_W0) (hyd : y.cls ≠ "java/lang/invoke/MethodHandle" ∧ y.cls ≠ "java/lang/invoke/VarHandle" ∧ (parseMethodDescriptor y.desc).map (fun d => d.parameters.length) = some n) (hd : decode cc pc = .ok (.invokestatic index, 3)) (h : qa_S l own cc nL ret ini D E B R sc Qf (pc + 3) k) : qa_S l own cc nL ret ini D E B R sc Qf pc (qi_call n (R.cells, R.slots) sp k) := by
  intro p e s m args below meth c X u lv st M hk H locs ls hH hS hV
  obtain ⟨as, r1, hlen, rfl, hk1_⟩ := qa_pop_inv n [] st _ hk
  rw [List.append_nil] at hk1_
  obtain ⟨hrm, hle, hk2_⟩ := hk1_
  obtain ⟨hx, hb, hml, hown, hts, hlk, hret, hini, hB, hF⟩ := X
  have X : qa_X p s m args meth c own cc nL ret ini D E B sc := ⟨hx, hb, hml, hown, hts, hlk, hret, hini, hB, hF⟩
  have hg : GoodIn q_W0 (Cond.code y bytes maxL rt :: q_W0) := qa_good hcw
  have hrun := va_runS (g := F0 m pc ls (as.reverse ++ r1)) (H := H) (locs := locs) (cells := u.1) (slots := u.2) (rest := r1) (below := below) (meth := meth) (e := e) (⟨hx, hb, hml, hown, hts⟩ : CallFix p m c cc nL s args q_W0 own) (hct D E B as M _ hk2_) ⟨callB_of n hts hg rfl rfl rfl (hts _ hw3) (hts _ hw1) hyd hR, hts _ hw2⟩ ⟨qa_F.blind, fun U hU hW => ⟨rfl, by rw [hU]; exact hH, hF.moved hB hS hU hW⟩⟩ rfl hlen hV.1 rfl (lv_room hrm) hd (by rw [h0.1, h0.2]; exact hle)
  refine qa_after hrun hS fun r M2 H1 locs1 hk2_ hH1 hS1 => ?_
  rw [h0.1, h0.2]
  exact h p e s m args below meth c X u _ _ _ hk2_ _ _ _ hH1 hS1 hV
theorem qs_calln {k : qa_K} {host : String} {y : MethodName} {bytes : ByteArray} {maxL : Nat} {rt : Option FieldType} {rm : Room} {sp : qa_sp} {index n : Nat} (hct : qa_T l y (Cond.code y bytes maxL rt :: q_W0) rm sc sp) (hcw : Cond.code y bytes maxL rt ∈ q_W0) (hR : rm.frames + 1 ≤ R.frames ∧ 8 + (maxL + 11) + rm.locals ≤ R.locals) (h0 : rm.cells = 0 ∧ rm.slots = 0) (hw1 : Cond.methodLinkNest own index y host ∈ q_nw) (hw2 : Cond.static y ∈ q_W0) (hw3 : Cond.initialized y.cls ∈ q_W0) (hyd : y.cls ≠ "java/lang/invoke/MethodHandle" ∧ y.cls ≠ "java/lang/invoke/VarHandle" ∧ (parseMethodDescriptor y.desc).map (fun d => d.parameters.length) = some n) (hd : decode cc pc = .ok (.invokestatic index, 3)) (h : qa_S l own cc nL ret ini D E B R sc Qf (pc + 3) k) : qa_S l own cc nL ret ini D E B R sc Qf pc (qi_call n (R.cells, R.slots) sp k) := by
  intro p e s m args below meth c X u lv st M hk H locs ls hH hS hV
  obtain ⟨as, r1, hlen, rfl, hk1_⟩ := qa_pop_inv n [] st _ hk
  rw [List.append_nil] at hk1_
  obtain ⟨hrm, hle, hk2_⟩ := hk1_
  obtain ⟨hx, hb, hml, hown, hts, hlk, hret, hini, hB, hF⟩ := X
  have X : qa_X p s m args meth c own cc nL ret ini D E B sc := ⟨hx, hb, hml, hown, hts, hlk, hret, hini, hB, hF⟩
  have hg : GoodIn q_W0 (Cond.code y bytes maxL rt :: q_W0) := qa_good hcw
  have hrun := va_runSN (g := F0 m pc ls (as.reverse ++ r1)) (H := H) (locs := locs) (cells := u.1) (slots := u.2) (rest := r1) (below := below) (meth := meth) (e := e) (⟨hx, hb, hml, hown, hts⟩ : CallFix p m c cc nL s args q_W0 own) (hct D E B as M _ hk2_) ⟨va_cnB n hts hg rfl rfl rfl (hF.2.1.1 _ hw1) (hts _ hw3) hyd hR, hts _ hw2, trivial⟩ ⟨qa_F.blind, fun U hU hW => ⟨rfl, by rw [hU]; exact hH, hF.moved hB hS hU hW⟩⟩ rfl hlen hV.1 rfl (lv_room hrm) hd (by rw [h0.1, h0.2]; exact hle)
  refine qa_after hrun hS fun r M2 H1 locs1 hk2_ hH1 hS1 => ?_
  rw [h0.1, h0.2]
  exact h p e s m args below meth c X u _ _ _ hk2_ _ _ _ hH1 hS1 hV
theorem qs_callv {k : qa_K} {ci : Nat} {r : vw_C} {y : MethodName} {bytes : ByteArray} {maxL : Nat} {rt : Option FieldType} {rm : Room} {sp : qa_sp} {index n : Nat} (hct : qa_T l y (Cond.code y bytes maxL rt :: q_W0) rm sc sp) (hcw : Cond.code y bytes maxL rt ∈ q_W0) (hR : rm.frames + 1 ≤ R.frames ∧ 8 + (maxL + 11) + rm.locals ≤ R.locals) (hr : q_cl[ci]? = some r) (h0 : rm.cells = 0 ∧ rm.slots = 0) (hw1 : Cond.methodLink own index y ∈ q_W0) (hw2 : Cond.instanceMethod y ∈ q_W0) (hw4 : Cond.selects r.1 y y ∈ q_W0) (hw3 : Cond.initialized y.cls ∈ q_W0) (hyd : y.cls ≠ "java/lang/invoke/MethodHandle" ∧ y.cls ≠ "java/lang/invoke/VarHandle" ∧ (parseMethodDescriptor y.desc).map (fun d => d.parameters.length) = some n) (hd : decode cc pc = .ok (.invokevirtual index, 3)) (h : qa_S l own cc nL ret ini D E B R sc Qf (pc + 3) k) : qa_S l own cc nL ret ini D E B R sc Qf pc (qi_callv (n + 1) (ci + 1) (R.cells, R.slots) sp k) := by
  intro p e s m args below meth c X u lv st M hk H locs ls hH hS hV
  obtain ⟨as, r1, hlen, rfl, hk1_⟩ := qa_pop_inv (n + 1) [] st _ hk
  rw [List.append_nil] at hk1_
  obtain ⟨b, bs, rfl, hkb, hrm, hle, hk2_⟩ := qv_r_inv hk1_
  have hlen : bs.length = n := by simpa using hlen
  obtain ⟨hx, hb, hml, hown, hts, hlk, hret, hini, hB, hF⟩ := X
  have X : qa_X p s m args meth c own cc nL ret ini D E B sc := ⟨hx, hb, hml, hown, hts, hlk, hret, hini, hB, hF⟩
  have hg : GoodIn q_W0 (Cond.code y bytes maxL rt :: q_W0) := qa_good hcw
  obtain ⟨-, cell, g1, g2, g3, -⟩ := hH.2.1 b ci r hkb hr
  have hrun := va_runV (g := F0 m pc ls ((Value.ref b :: bs).reverse ++ r1)) (H := H) (locs := locs) (cells := u.1) (slots := u.2) (rest := r1) (below := below) (meth := meth) (e := e) (⟨hx, hb, hml, hown, hts⟩ : CallFix p m c cc nL s args q_W0 own) (hct D E B (.ref b :: bs) M _ hk2_) ⟨callB_of n hts hg rfl rfl rfl (hts _ hw3) (hts _ hw1) hyd hR, hts _ hw2, hts _ hw4⟩ ⟨qa_F.blind, ⟨cell, g1, by rw [g3]; rfl, by rw [g2]; exact (hF.1.1 ci r hr).2.1⟩, fun U hU hW => ⟨rfl, by rw [hU]; exact hH, hF.moved hB hS hU hW⟩⟩ rfl hlen hV.1 (by simp) (lv_room hrm) hd (by rw [h0.1, h0.2]; exact hle)
  refine qa_after hrun hS fun r M2 H1 locs1 hk2_ hH1 hS1 => ?_
  rw [h0.1, h0.2]
  exact h p e s m args below meth c X u _ _ _ hk2_ _ _ _ hH1 hS1 hV
theorem qs_callc {k : qa_K} {y : MethodName} {bytes : ByteArray} {maxL : Nat} {rm : Room} {sp : qa_sp} {index n : Nat} (hct : qa_T l y (Cond.code y bytes maxL none :: q_W0) rm sc sp) (hcw : Cond.code y bytes maxL none ∈ q_W0) (hR : rm.frames + 1 ≤ R.frames ∧ 8 + (maxL + 11) + rm.locals ≤ R.locals) (w : Nat × Nat) (h0 : rm.cells = w.1 ∧ rm.slots = w.2) (hw1 : Cond.methodLink own index y ∈ q_W0) (hw2 : Cond.instanceMethod y ∈ q_W0) (hw3 : Cond.initialized y.cls ∈ q_W0) (hnm : y.name = "<init>") (hyd : y.cls ≠ "java/lang/invoke/MethodHandle" ∧ y.cls ≠ "java/lang/invoke/VarHandle" ∧ (parseMethodDescriptor y.desc).map (fun d => d.parameters.length) = some n) (hd : decode cc pc = .ok (.invokespecial index, 3)) (h : qa_S l own cc nL ret ini D E B R sc Qf (pc + 3) k) : qa_S l own cc nL ret ini D E B R sc Qf pc (qi_callm (n + 1) (R.cells, R.slots) w sp k) := by
  intro p e s m args below meth c X u lv st M hk H locs ls hH hS hV
  obtain ⟨as, r1, hlen, rfl, hk1_⟩ := qa_pop_inv (n + 1) [] st _ hk
  rw [List.append_nil] at hk1_
  obtain ⟨b, bs, rfl, hrm, hle, hk2_⟩ := qv_r_inv hk1_
  have hlen : bs.length = n := by simpa using hlen
  obtain ⟨hx, hb, hml, hown, hts, hlk, hret, hini, hB, hF⟩ := X
  have X : qa_X p s m args meth c own cc nL ret ini D E B sc := ⟨hx, hb, hml, hown, hts, hlk, hret, hini, hB, hF⟩
  have hg : GoodIn q_W0 (Cond.code y bytes maxL none :: q_W0) := qa_good hcw
  have hrun := va_runI (g := F0 m pc ls ((Value.ref b :: bs).reverse ++ r1)) (H := H) (locs := locs) (cells := u.1) (slots := u.2) (rest := r1) (below := below) (meth := meth) (e := e) (⟨hx, hb, hml, hown, hts⟩ : CallFix p m c cc nL s args q_W0 own) (hct D E B (.ref b :: bs) M _ hk2_) ⟨callB_of n hts hg rfl rfl rfl (hts _ hw3) (hts _ hw1) hyd hR, hnm, hts _ hw2⟩ ⟨qa_F.blind, fun U hU hW => ⟨rfl, by rw [hU]; exact hH, hF.moved hB hS hU hW⟩⟩ rfl hlen hV.1 (by simp) (lv_room hrm) hd (by rw [h0.1, h0.2]; exact hle)
  refine qa_after hrun hS fun r M2 H1 locs1 hk2_ hH1 hS1 => ?_
  rw [h0.1, h0.2]
  exact h p e s m args below meth c X (u.1 + w.1, u.2 + w.2) _ _ _ hk2_ _ _ _ hH1 hS1 hV
theorem qs_callk {k : qa_K} {host : String} {y : MethodName} {bytes : ByteArray} {maxL : Nat} {rm : Room} {sp : qa_sp} {index n : Nat} (hct : qa_T l y (Cond.code y bytes maxL none :: q_W0) rm sc sp) (hcw : Cond.code y bytes maxL none ∈ q_W0) (hR : rm.frames + 1 ≤ R.frames ∧ 8 + (maxL + 11) + rm.locals ≤ R.locals) (w : Nat × Nat) (h0 : rm.cells = w.1 ∧ rm.slots = w.2) (hw1 : Cond.methodLinkNest own index y host ∈ q_nw) (hw2 : Cond.instanceMethod y ∈ q_W0) (hw3 : Cond.initialized y.cls ∈ q_W0) (hnm : y.name = "<init>") (hyd : y.cls ≠ "java/lang/invoke/MethodHandle" ∧ y.cls ≠ "java/lang/invoke/VarHandle" ∧ (parseMethodDescriptor y.desc).map (fun d => d.parameters.length) = some n) (hd : decode cc pc = .ok (.invokespecial index, 3)) (h : qa_S l own cc nL ret ini D E B R sc Qf (pc + 3) k) : qa_S l own cc nL ret ini D E B R sc Qf pc (qi_callm (n + 1) (R.cells, R.slots) w sp k) := by
  intro p e s m args below meth c X u lv st M hk H locs ls hH hS hV
  obtain ⟨as, r1, hlen, rfl, hk1_⟩ := qa_pop_inv (n + 1) [] st _ hk
  rw [List.append_nil] at hk1_
  obtain ⟨b, bs, rfl, hrm, hle, hk2_⟩ := qv_r_inv hk1_
  have hlen : bs.length = n := by simpa using hlen
  obtain ⟨hx, hb, hml, hown, hts, hlk, hret, hini, hB, hF⟩ := X
  have X : qa_X p s m args meth c own cc nL ret ini D E B sc := ⟨hx, hb, hml, hown, hts, hlk, hret, hini, hB, hF⟩
  have hg : GoodIn q_W0 (Cond.code y bytes maxL none :: q_W0) := qa_good hcw
  have hrun := va_runIN (g := F0 m pc ls ((Value.ref b :: bs).reverse ++ r1)) (H := H) (locs := locs) (cells := u.1) (slots := u.2) (rest := r1) (below := below) (meth := meth) (e := e) (⟨hx, hb, hml, hown, hts⟩ : CallFix p m c cc nL s args q_W0 own) (hct D E B (.ref b :: bs) M _ hk2_) ⟨va_cnB n hts hg rfl rfl rfl (hF.2.1.1 _ hw1) (hts _ hw3) hyd hR, hnm, hts _ hw2⟩ ⟨qa_F.blind, fun U hU hW => ⟨rfl, by rw [hU]; exact hH, hF.moved hB hS hU hW⟩⟩ rfl hlen hV.1 (by simp) (lv_room hrm) hd (by rw [h0.1, h0.2]; exact hle)
  refine qa_after hrun hS fun r M2 H1 locs1 hk2_ hH1 hS1 => ?_
  rw [h0.1, h0.2]
  exact h p e s m args below meth c X (u.1 + w.1, u.2 + w.2) _ _ _ hk2_ _ _ _ hH1 hS1 hV
def qa_Qf (D : va_G) (E : Nat → ClassId) (B : Nat) (R : Room) (Po : Option Value → qa_M → Prop) : qa_R := fun below args s => MQ below (qa_Q D E B Po) args s R.cells R.slots (fun q => B ≤ q)
def qi_iret (v : Nat × Nat) (Po : Option Value → qa_M → Prop) : qa_K := fun u _ st M => qv_i st fun x st => st = [] ∧ qa_le u v ∧ Po (some (.int x)) M
def qi_zret (v : Nat × Nat) (Po : Option Value → qa_M → Prop) : qa_K := fun u _ st M => qv_i st fun x st => st = [] ∧ qa_le u v ∧ (x = 0 ∨ x = 1) ∧ Po (some (.int x)) M
def qi_lret (v : Nat × Nat) (Po : Option Value → qa_M → Prop) : qa_K := fun u _ st M => qv_l st fun x st => st = [] ∧ qa_le u v ∧ Po (some (.long x)) M
def qi_aret (v : Nat × Nat) (Po : Option Value → qa_M → Prop) : qa_K := fun u _ st M => qv_r st fun x st => st = [] ∧ qa_le u v ∧ Po (some (.ref x)) M
def qi_vret (v : Nat × Nat) (Po : Option Value → qa_M → Prop) : qa_K := fun u _ st M => st = [] ∧ qa_le u v ∧ Po none M
theorem qs_iret {Po : Option Value → qa_M → Prop} (hd : decode cc pc = .ok (.ireturn, 1)) : qa_S l own cc nL (some .int) ini D E B R sc (qa_Qf D E B R Po) pc (qi_iret (R.cells, R.slots) Po) := by
  intro p e s m args below meth c X u lv st M hk H locs ls hH hS hV
  obtain ⟨x, r, rfl, rfl, hle, hk1_⟩ := qv_i_inv hk
  have hlocks := X.2.2.2.2.2.1
  exact W.widen hle.1 hle.2 (W.iret X.1 X.2.1 X.2.2.2.2.2.2.1 (fun t ht _ => ⟨⟨_, M, rfl, hk1_, by rw [ht]; exact hH⟩, hS.F ht⟩) hS.2.2 hd)
theorem qs_lret {Po : Option Value → qa_M → Prop} (hd : decode cc pc = .ok (.lreturn, 1)) : qa_S l own cc nL (some .long) ini D E B R sc (qa_Qf D E B R Po) pc (qi_lret (R.cells, R.slots) Po) := by
  intro p e s m args below meth c X u lv st M hk H locs ls hH hS hV
  obtain ⟨x, r, rfl, rfl, hle, hk1_⟩ := qv_l_inv hk
  have hlocks := X.2.2.2.2.2.1
  exact W.widen hle.1 hle.2 (W.lret X.1 X.2.1 X.2.2.2.2.2.2.1 (fun t ht _ => ⟨⟨_, M, rfl, hk1_, by rw [ht]; exact hH⟩, hS.F ht⟩) hS.2.2 hd)
theorem qs_zret {Po : Option Value → qa_M → Prop} (hd : decode cc pc = .ok (.ireturn, 1)) : qa_S l own cc nL (some .boolean) ini D E B R sc (qa_Qf D E B R Po) pc (qi_zret (R.cells, R.slots) Po) := by
  intro p e s m args below meth c X u lv st M hk H locs ls hH hS hV
  obtain ⟨x, r, rfl, rfl, hle, hz, hk1_⟩ := qv_i_inv hk
  have hlocks := X.2.2.2.2.2.1
  exact W.widen hle.1 hle.2 (W.zret X.1 X.2.1 X.2.2.2.2.2.2.1 (by rcases hz with rfl | rfl <;> rfl) (fun t ht _ => ⟨⟨_, M, rfl, hk1_, by rw [ht]; exact hH⟩, hS.F ht⟩) hS.2.2 hd)
theorem qs_aret {C : String} {Po : Option Value → qa_M → Prop} (hd : decode cc pc = .ok (.areturn, 1)) : qa_S l own cc nL (some (.object C)) ini D E B R sc (qa_Qf D E B R Po) pc (qi_aret (R.cells, R.slots) Po) := by
  intro p e s m args below meth c X u lv st M hk H locs ls hH hS hV
  obtain ⟨x, r, rfl, rfl, hle, hk1_⟩ := qv_r_inv hk
  have hlocks := X.2.2.2.2.2.1
  exact W.widen hle.1 hle.2 (W.aret X.1 X.2.1 X.2.2.2.2.2.2.1 (Or.inl ⟨_, rfl⟩) (Or.inr ⟨_, rfl⟩) (fun t ht _ => ⟨⟨_, M, rfl, hk1_, by rw [ht]; exact hH⟩, hS.F ht⟩) hS.2.2 hd)
theorem qs_vret {Po : Option Value → qa_M → Prop} (hd : decode cc pc = .ok (.return_, 1)) : qa_S l own cc nL none ini D E B R sc (qa_Qf D E B R Po) pc (qi_vret (R.cells, R.slots) Po) := by
  intro p e s m args below meth c X u lv st M hk H locs ls hH hS hV
  obtain ⟨rfl, hle, hk1_⟩ := hk
  have hlocks := X.2.2.2.2.2.1
  exact W.widen hle.1 hle.2 (W.vret X.1 X.2.1 X.2.2.2.2.2.2.1 (fun t ht _ => ⟨⟨_, M, rfl, hk1_, by rw [ht]; exact hH⟩, hS.F ht⟩) hS.2.2 hd)
def qi_tsw (lo : Int) (ks : List qa_K) (kd : qa_K) : qa_K := fun u lv st M => qv_i st fun x st => ((x.toInt < lo ∨ lo + ks.length ≤ x.toInt) → kd u lv st M) ∧ ∀ (j : Nat) (k : qa_K), ks[j]? = some k → x.toInt = lo + (j : Int) → k u lv st M
theorem qs_tsw {lo hi dflt : Int} {offs : Array Int} {len : Nat} {ks : List qa_K} {kd : qa_K} {tgd : Nat} (hd : decode cc pc = .ok (.tableswitch dflt lo hi offs, len)) (hhi : hi + 1 = lo + ks.length) (htd : (pc : Int) + dflt = (tgd : Int)) (hdef : qa_S l own cc nL ret ini D E B R sc Qf tgd kd)
    (hks : ∀ (j : Nat) (k : qa_K), ks[j]? = some k → ∃ (off : Int) (tgt : Nat), offs[j]? = some off ∧ (pc : Int) + off = (tgt : Int) ∧ qa_S l own cc nL ret ini D E B R sc Qf tgt k) : qa_S l own cc nL ret ini D E B R sc Qf pc (qi_tsw lo ks kd) := by
  intro p e s m args below meth c X u lv st M hk H locs ls hH hS hV
  obtain ⟨x, r, rfl, hk1, hk2⟩ := qv_i_inv hk
  by_cases hx : x.toInt < lo ∨ hi < x.toInt
  · exact lv_tableOut X.1 X.2.1 hd hx htd (hdef p e s m args below meth c X _ _ _ _ (hk1 (by omega)) _ _ _ hH hS hV)
  · have h1 : ¬ x.toInt < lo := fun q => hx (Or.inl q)
    have h2 : ¬ hi < x.toInt := fun q => hx (Or.inr q)
    have hj : (x.toInt - lo).toNat < ks.length := by omega
    obtain ⟨off, tgt, g1, g2, g3⟩ := hks _ _ (List.getElem?_eq_getElem hj)
    exact lv_tableIn X.1 X.2.1 hd h1 h2 g1 g2 (g3 p e s m args below meth c X _ _ _ _ (hk2 _ _ (List.getElem?_eq_getElem hj) (by omega)) _ _ _ hH hS hV)
theorem qa_ct {y : MethodName} {rm : Room} {maxL : Nat} {args : List Value} {M : qa_M} {Po : Option Value → qa_M → Prop} {lv : qa_L} {k : qa_K} (hy : plainName y.cls = true) (hini : ini = true → y.name = "<init>") (hlen : (lg_sl args).length ≤ maxL) (hlv : ∀ i v, qa_gt lv i = some v → (i, v) ∈ lv_args 0 args)
    (h : qa_S l y.cls cc maxL ret ini D E B rm sc (qa_Qf D E B rm Po) 0 k) (hk : k (0, 0) lv [] M) : Met l y (Cond.code y cc maxL ret :: q_W0) rm (qa_P D E B sc args M) (qa_Q D E B Po) rm.cells rm.slots (fun q => B ≤ q) := by
  refine Met.ofW (cc := cc) (maxL := maxL) (ret := ret) hy rfl ?_
  intro p e s m args2 below meth c s₁ Bd hml hv
  obtain ⟨rfl, hH, hF⟩ := hv
  have hl := lv_entry args (n := maxL) hlen
  rw [lg_entry_eq]
  refine h p e s m _ below meth c ⟨Bd.exec, Bd.bytes, hml, findClass_of_methodNamed Bd.named, fun w hw => atoms_spec (ws := Cond.code y cc maxL ret :: q_W0) Bd.pre w (List.mem_cons_of_mem _ hw), Bd.notSynchronized, Bd.returns, fun q => ?_, hH.1, hF⟩ (0, 0) lv [] M hk s.heap [] _ hH va_S.rf ⟨hl.1, hl.2.1, fun i v hi => hl.2.2 (i, v) (hlv i v hi)⟩
  rw [(name_of_methodNamed Bd.named Bd.method).1]
  exact hini q
end QS
