theorem qa_inst : ∀ (c : Nat) (r : vw_C), q_cl[c]? = some r → Cond.instantiable r.1 r.2.2 ∈ q_W0 := by
  intro c r h
  match c, h with
  | 0, h => have h2 : r = ("SealedRecords", qF_0, 2) := (Option.some.inj h).symm
            subst h2; exact (show Cond.instantiable "SealedRecords" 2 ∈ q_W0 by decide +kernel)
  | 1, h => have h2 : r = ("SealedRecords$Packet", qF_1, 3) := (Option.some.inj h).symm
            subst h2; exact (show Cond.instantiable "SealedRecords$Packet" 3 ∈ q_W0 by decide +kernel)
  | 2, h => have h2 : r = ("SealedRecords$Row", qF_2, 2) := (Option.some.inj h).symm
            subst h2; exact (show Cond.instantiable "SealedRecords$Row" 2 ∈ q_W0 by decide +kernel)
  | 3, h => have h2 : r = ("SealedRecords$Side", qF_3, 4) := (Option.some.inj h).symm
            subst h2; exact (show Cond.instantiable "SealedRecords$Side" 4 ∈ q_W0 by decide +kernel)
  | 4, h => have h2 : r = ("SealedRecords$Messages", qF_4, 3) := (Option.some.inj h).symm
            subst h2; exact (show Cond.instantiable "SealedRecords$Messages" 3 ∈ q_W0 by decide +kernel)
  | 5, h => have h2 : r = ("SealedRecords$End", qF_5, 13) := (Option.some.inj h).symm
            subst h2; exact (show Cond.instantiable "SealedRecords$End" 13 ∈ q_W0 by decide +kernel)
  | 6, h => have h2 : r = ("SealedRecordsModel", qF_6, 28) := (Option.some.inj h).symm
            subst h2; exact (show Cond.instantiable "SealedRecordsModel" 28 ∈ q_W0 by decide +kernel)
  | n + 7, h => simp [q_cl] at h
theorem qa_nwt : ∀ w ∈ q_nw, w ∈ lw_tbl ∧ w.onTables = true := by decide +kernel
theorem qa_aot : ∀ C ∈ q_ao, Cond.arrayOver (.object C) ∈ lw_tbl := by decide +kernel
theorem qa_act : Cond.arrayClass .int ∈ lw_tbl ∧ Cond.arrayClass .long ∈ lw_tbl ∧ Cond.arrayClass .boolean ∈ lw_tbl := by decide +kernel
theorem qa_arrP {s : State} {args : Array Value} {ty : FieldType} (hty : ∀ cA, s.vm.findClass ("[" ++ ty.toString) = some cA → va_RA s cA ty) (h : (Cond.arrayClass ty).before args s = true) : ∃ cA : ClassId, ArrOfT s cA ty ∧ va_RA s cA ty := by
  obtain ⟨c, k, comp, h1, h2, h3⟩ := Cond.arrayClass_spec h
  exact ⟨c, fun n z => ⟨fun k h => (by cases h), k, h2, comp, h3⟩, hty c h1⟩
theorem qa_arrQ {s : State} {args : Array Value} {C : String} (h : (Cond.arrayOver (.object C)).before args s = true) : ∃ cA : ClassId, ArrOfT s cA (.object C) ∧ va_RA s cA (.object C) := by
  obtain ⟨comp, c, k, h1, h2, h3, h4, h5⟩ := Cond.arrayOver_spec h
  exact ⟨c, fun n z => ⟨fun k h => (by cases h), k, h3, comp, h4⟩, k, comp, h3, h4, h1, h5⟩
def qa_M0 : qa_M := ((fun _ => 0), (fun _ => 0), (fun _ _ => 0), (fun _ _ => 0), (fun _ _ => none), (fun _ _ _ => 0), (fun _ _ _ => 0), (fun _ _ _ => none))
theorem qa_start {p : Program} {e : Env} {s : State} {m : MethodId} {below : List Frame} {meth : Method} {c : Code} (l : Launch) {b L : Nat} {xs : Nat → Int32} (C0 : lw_At p s m meth c b L xs)
    (hp : kc_Lw_law_0 (b, L, xs) (fun _ _ => True) (0, 0) [some (.ref b), none, none, none] [] qa_M0) : W p l e room_1 s m #[Value.ref b] below meth c s.heap [] 0 0 (lw_Z below #[Value.ref b] s) (entryFrame m ([Value.ref b] : List Value).toArray 4) := by
  obtain ⟨hx, hb, hr, hml, hown, hts, hX, hbl, hlk, hgv⟩ := C0
  have hts0 : ∀ w ∈ q_W0, w.before #[Value.ref b] s = true := fun w hw => hts w (List.mem_filter.mp hw).1
  have hD : ∀ c : Nat, ∃ q : ClassId × (Nat → Nat), ∀ r, q_cl[c]? = some r → u_Kn s r.1 r.2.1 r.2.2 q.1 q.2 := by
    intro c
    by_cases h : ∃ r, q_cl[c]? = some r
    · obtain ⟨r, hr⟩ := h
      obtain ⟨cC, iS, hk⟩ := u_known (n := r.2.2) hts0 (q_lay c r hr) (hts0 _ (qa_inst c r hr))
      exact ⟨(cC, iS), fun r2 h2 => by rw [hr] at h2; cases h2; exact hk⟩
    · exact ⟨(m.cls, fun _ => 0), fun r h2 => absurd ⟨r, h2⟩ h⟩
  obtain ⟨c0, a0⟩ := qa_arrP (s := s) (ty := .int) (fun _ h => h) (hts _ qa_act.1)
  obtain ⟨c1, a1⟩ := qa_arrP (s := s) (ty := .long) (fun _ h => h) (hts _ qa_act.2.1)
  obtain ⟨c2, a2⟩ := qa_arrP (s := s) (ty := .boolean) (fun _ h => h) (hts _ qa_act.2.2)
  obtain ⟨c3, a3⟩ := qa_arrQ (hts _ (qa_aot "SealedRecords$End" (by decide)))
  obtain ⟨c4, a4⟩ := qa_arrQ (hts _ (qa_aot "SealedRecords$Packet" (by decide)))
  have hE : ∃ E : Nat → ClassId, E 0 = c0 ∧ E 1 = c1 ∧ E 2 = c2 ∧ E 3 = c3 ∧ E 4 = c4 := ⟨fun t => if t = 0 then c0 else if t = 1 then c1 else if t = 2 then c2 else if t = 3 then c3 else c4, by simp⟩
  obtain ⟨E, rfl, rfl, rfl, rfl, rfl⟩ := hE
  have hK : va_K (fun c => (Classical.choose (hD c)).1, fun c => (Classical.choose (hD c)).2) q_cl (q_tys E) s := by
    refine ⟨fun c q hq => Classical.choose_spec (hD c) q hq, fun k q hk => ?_⟩
    match k, hk with
    | 0, hk => cases hk; exact a0
    | 1, hk => cases hk; exact a1
    | 2, hk => cases hk; exact a2
    | 3, hk => cases hk; exact a3
    | 4, hk => cases hk; exact a4
    | n + 5, hk => simp [q_tys] at hk
  generalize ((fun c => (Classical.choose (hD c)).1, fun c => (Classical.choose (hD c)).2) : va_G) = D at hK
  have hF : qa_F D E s.heap.size (some (b, L, xs)) s := by
    refine ⟨hK, ⟨fun w hw => va_Nw.of (qa_nwt w hw).2 (hts w (qa_nwt w hw).1), fun C hC => va_AO.of (hts _ (qa_aot C hC))⟩, fun z hz => ?_⟩
    cases hz
    exact ⟨hX, hbl⟩
  have hH : qa_H D E s.heap.size qa_M0 s.heap := by
    refine ⟨Nat.le_refl _, fun a c r h _ => ?_, fun a κ h h2 => ?_, fun a _ => rfl⟩
    · have h3 : (0 : Nat) = c + 1 := h
      omega
    · have h3 : (0 : Nat) = κ := h
      omega
  have hl := lv_entry ([Value.ref b]) (n := 4) (Nat.le_of_ble_eq_true rfl)
  rw [lg_entry_eq]
  have key := ks_Lw_law_0 l D E s.heap.size (b, L, xs) (fun _ _ => True) p e s m #[Value.ref b] below meth c ⟨hx, hb, hml, hown, hts0, hlk, hr, (fun h => by cases h), Nat.le_refl _, hF⟩ (0, 0) [some (.ref b), none, none, none] [] qa_M0 hp s.heap [] _ hH va_S.rf ⟨hl.1, hl.2.1, fun i v hi => hl.2.2 (i, v) (qa_lvok (lv := [some (.ref b), none, none, none]) (args := [.ref b]) rfl i v hi)⟩
  intro T hT S0
  obtain ⟨t, h1, h2⟩ := key T hT S0
  exact ⟨t, h1, h2 ⟨rfl, Nat.le_refl _⟩⟩
