def qF_0 : u_T := fun k => match k with
  | 0 => ("SealedRecords", "limit", "I", true)
  | _ => ("SealedRecords", "ends", "[LSealedRecords$End;", true)
def qt_0 : Nat → FieldType := fun k => match k with
  | 0 => .int
  | _ => .array (.object "SealedRecords$End")
def qF_1 : u_T := fun k => match k with
  | 0 => ("SealedRecords$Packet", "bytes", "[I", true)
  | 1 => ("SealedRecords$Packet", "type", "I", false)
  | _ => ("SealedRecords$Packet", "size", "I", false)
def qt_1 : Nat → FieldType := fun k => match k with
  | 0 => .array .int
  | 1 => .int
  | _ => .int
def qF_2 : u_T := fun k => match k with
  | 0 => ("SealedRecords$Row", "slots", "[LSealedRecords$Packet;", true)
  | _ => ("SealedRecords$Row", "size", "I", false)
def qt_2 : Nat → FieldType := fun k => match k with
  | 0 => .array (.object "SealedRecords$Packet")
  | _ => .int
def qF_3 : u_T := fun k => match k with
  | 0 => ("SealedRecords$Side", "stage", "I", false)
  | 1 => ("SealedRecords$Side", "secret", "J", false)
  | 2 => ("SealedRecords$Side", "count", "I", false)
  | _ => ("SealedRecords$Side", "closed", "Z", false)
def qt_3 : Nat → FieldType := fun k => match k with
  | 0 => .int
  | 1 => .long
  | 2 => .int
  | _ => .boolean
def qF_4 : u_T := fun k => match k with
  | 0 => ("SealedRecords$Messages", "kind", "I", false)
  | 1 => ("SealedRecords$Messages", "length", "I", false)
  | _ => ("SealedRecords$Messages", "come", "I", false)
def qt_4 : Nat → FieldType := fun k => match k with
  | 0 => .int
  | 1 => .int
  | _ => .int
def qF_5 : u_T := fun k => match k with
  | 0 => ("SealedRecords$End", "number", "I", true)
  | 1 => ("SealedRecords$End", "sending", "LSealedRecords$Side;", true)
  | 2 => ("SealedRecords$End", "receiving", "LSealedRecords$Side;", true)
  | 3 => ("SealedRecords$End", "draft", "LSealedRecords$Packet;", true)
  | 4 => ("SealedRecords$End", "arriving", "LSealedRecords$Row;", true)
  | 5 => ("SealedRecords$End", "delivered", "LSealedRecords$Row;", true)
  | 6 => ("SealedRecords$End", "messages", "LSealedRecords$Messages;", true)
  | 7 => ("SealedRecords$End", "ahead", "LSealedRecords$Messages;", true)
  | 8 => ("SealedRecords$End", "opened", "LSealedRecords$Packet;", true)
  | 9 => ("SealedRecords$End", "chain", "J", false)
  | 10 => ("SealedRecords$End", "chainStage", "I", false)
  | 11 => ("SealedRecords$End", "reason", "I", false)
  | _ => ("SealedRecords$End", "owesChange", "Z", false)
def qt_5 : Nat → FieldType := fun k => match k with
  | 0 => .int
  | 1 => .object "SealedRecords$Side"
  | 2 => .object "SealedRecords$Side"
  | 3 => .object "SealedRecords$Packet"
  | 4 => .object "SealedRecords$Row"
  | 5 => .object "SealedRecords$Row"
  | 6 => .object "SealedRecords$Messages"
  | 7 => .object "SealedRecords$Messages"
  | 8 => .object "SealedRecords$Packet"
  | 9 => .long
  | 10 => .int
  | 11 => .int
  | _ => .boolean
def qF_6 : u_T := fun k => match k with
  | 0 => ("SealedRecordsModel", "limit", "I", true)
  | 1 => ("SealedRecordsModel", "chain", "[J", true)
  | 2 => ("SealedRecordsModel", "chainStage", "[I", true)
  | 3 => ("SealedRecordsModel", "stage", "[I", true)
  | 4 => ("SealedRecordsModel", "secrets", "[J", true)
  | 5 => ("SealedRecordsModel", "count", "[I", true)
  | 6 => ("SealedRecordsModel", "closed", "[Z", true)
  | 7 => ("SealedRecordsModel", "reason", "[I", true)
  | 8 => ("SealedRecordsModel", "owes", "[Z", true)
  | 9 => ("SealedRecordsModel", "draft", "[I", true)
  | 10 => ("SealedRecordsModel", "drafted", "[I", true)
  | 11 => ("SealedRecordsModel", "waits", "[I", true)
  | 12 => ("SealedRecordsModel", "type", "[I", true)
  | 13 => ("SealedRecordsModel", "size", "[I", true)
  | 14 => ("SealedRecordsModel", "payload", "[I", true)
  | 15 => ("SealedRecordsModel", "held", "[I", true)
  | 16 => ("SealedRecordsModel", "itemType", "[I", true)
  | 17 => ("SealedRecordsModel", "itemSize", "[I", true)
  | 18 => ("SealedRecordsModel", "itemBytes", "[I", true)
  | 19 => ("SealedRecordsModel", "open", "[I", true)
  | 20 => ("SealedRecordsModel", "message", "[I", true)
  | 21 => ("SealedRecordsModel", "inner", "I", false)
  | 22 => ("SealedRecordsModel", "contentSize", "I", false)
  | 23 => ("SealedRecordsModel", "content", "[I", true)
  | 24 => ("SealedRecordsModel", "changeEnd", "I", false)
  | 25 => ("SealedRecordsModel", "changeLength", "I", false)
  | 26 => ("SealedRecordsModel", "changeBody", "I", false)
  | _ => ("SealedRecordsModel", "rest", "I", false)
def qt_6 : Nat → FieldType := fun k => match k with
  | 0 => .int
  | 1 => .array .long
  | 2 => .array .int
  | 3 => .array .int
  | 4 => .array .long
  | 5 => .array .int
  | 6 => .array .boolean
  | 7 => .array .int
  | 8 => .array .boolean
  | 9 => .array .int
  | 10 => .array .int
  | 11 => .array .int
  | 12 => .array .int
  | 13 => .array .int
  | 14 => .array .int
  | 15 => .array .int
  | 16 => .array .int
  | 17 => .array .int
  | 18 => .array .int
  | 19 => .array .int
  | 20 => .array .int
  | 21 => .int
  | 22 => .int
  | 23 => .array .int
  | 24 => .int
  | 25 => .int
  | 26 => .int
  | _ => .int
def q_cl : List vw_C := [("SealedRecords", qF_0, 2), ("SealedRecords$Packet", qF_1, 3), ("SealedRecords$Row", qF_2, 2), ("SealedRecords$Side", qF_3, 4), ("SealedRecords$Messages", qF_4, 3), ("SealedRecords$End", qF_5, 13), ("SealedRecordsModel", qF_6, 28)]
def q_ty (c : Nat) : Nat → FieldType := match c with
  | 0 => qt_0
  | 1 => qt_1
  | 2 => qt_2
  | 3 => qt_3
  | 4 => qt_4
  | 5 => qt_5
  | _ => qt_6
def q_at (κ : Nat) : Nat := match κ with
  | 1001 => 3
  | 1064 => 4
  | 1193 => 1
  | 1196 => 1
  | 1198 => 2
  | 1200 => 2
  | _ => 0
def q_tys (E : Nat → ClassId) : List (ClassId × FieldType) := [(E 0, .int), (E 1, .long), (E 2, .boolean), (E 3, .object "SealedRecords$End"), (E 4, .object "SealedRecords$Packet")]
def q_ao : List String := ["SealedRecords$End", "SealedRecords$Packet"]
def q_W0 : List Cond := lw_tbl.filter goodWord
def q_nw : List Cond := [(Jvm.Cond.methodLinkNest "SealedRecords$End" (11 : Nat) ({ cls := "SealedRecords$Side", name := "<init>", desc := "()V" } : Jvm.MethodName) "SealedRecords"), (Jvm.Cond.methodLinkNest "SealedRecords$End" (44 : Nat) ({ cls := "SealedRecords$Messages", name := "<init>", desc := "()V" } : Jvm.MethodName) "SealedRecords"), (Jvm.Cond.methodLinkNest "SealedRecords$End" (66 : Nat) ({ cls := "SealedRecords", name := "mix", desc := "(JJ)J" } : Jvm.MethodName) "SealedRecords"), (Jvm.Cond.methodLinkNest "SealedRecords$Side" (21 : Nat) ({ cls := "SealedRecords", name := "mix", desc := "(JJ)J" } : Jvm.MethodName) "SealedRecords")]
theorem q_tyok : ∀ (c : Nat) (r : vw_C), q_cl[c]? = some r → ∀ k, k < r.2.2 → parseFieldDescriptor (r.2.1 k).2.2.1 = some (q_ty c k) := by
  intro c r h
  match c, h with
  | 0, h =>
    have h2 : r = ("SealedRecords", qF_0, 2) := (Option.some.inj h).symm
    subst h2
    exact (show ∀ k, k < 2 → parseFieldDescriptor (qF_0 k).2.2.1 = some (qt_0 k) by decide +kernel)
  | 1, h =>
    have h2 : r = ("SealedRecords$Packet", qF_1, 3) := (Option.some.inj h).symm
    subst h2
    exact (show ∀ k, k < 3 → parseFieldDescriptor (qF_1 k).2.2.1 = some (qt_1 k) by decide +kernel)
  | 2, h =>
    have h2 : r = ("SealedRecords$Row", qF_2, 2) := (Option.some.inj h).symm
    subst h2
    exact (show ∀ k, k < 2 → parseFieldDescriptor (qF_2 k).2.2.1 = some (qt_2 k) by decide +kernel)
  | 3, h =>
    have h2 : r = ("SealedRecords$Side", qF_3, 4) := (Option.some.inj h).symm
    subst h2
    exact (show ∀ k, k < 4 → parseFieldDescriptor (qF_3 k).2.2.1 = some (qt_3 k) by decide +kernel)
  | 4, h =>
    have h2 : r = ("SealedRecords$Messages", qF_4, 3) := (Option.some.inj h).symm
    subst h2
    exact (show ∀ k, k < 3 → parseFieldDescriptor (qF_4 k).2.2.1 = some (qt_4 k) by decide +kernel)
  | 5, h =>
    have h2 : r = ("SealedRecords$End", qF_5, 13) := (Option.some.inj h).symm
    subst h2
    exact (show ∀ k, k < 13 → parseFieldDescriptor (qF_5 k).2.2.1 = some (qt_5 k) by decide +kernel)
  | 6, h =>
    have h2 : r = ("SealedRecordsModel", qF_6, 28) := (Option.some.inj h).symm
    subst h2
    exact (show ∀ k, k < 28 → parseFieldDescriptor (qF_6 k).2.2.1 = some (qt_6 k) by decide +kernel)
  | n + 7, h => simp [q_cl] at h
theorem q_nmok : ∀ (c : Nat) (r : vw_C), q_cl[c]? = some r → ∀ a, a < r.2.2 → ∀ b, b < r.2.2 → a ≠ b → (r.2.1 a).2.1 ≠ (r.2.1 b).2.1 := by
  intro c r h
  match c, h with
  | 0, h =>
    have h2 : r = ("SealedRecords", qF_0, 2) := (Option.some.inj h).symm
    subst h2
    exact (show ∀ a, a < 2 → ∀ b, b < 2 → a ≠ b → (qF_0 a).2.1 ≠ (qF_0 b).2.1 by decide +kernel)
  | 1, h =>
    have h2 : r = ("SealedRecords$Packet", qF_1, 3) := (Option.some.inj h).symm
    subst h2
    exact (show ∀ a, a < 3 → ∀ b, b < 3 → a ≠ b → (qF_1 a).2.1 ≠ (qF_1 b).2.1 by decide +kernel)
  | 2, h =>
    have h2 : r = ("SealedRecords$Row", qF_2, 2) := (Option.some.inj h).symm
    subst h2
    exact (show ∀ a, a < 2 → ∀ b, b < 2 → a ≠ b → (qF_2 a).2.1 ≠ (qF_2 b).2.1 by decide +kernel)
  | 3, h =>
    have h2 : r = ("SealedRecords$Side", qF_3, 4) := (Option.some.inj h).symm
    subst h2
    exact (show ∀ a, a < 4 → ∀ b, b < 4 → a ≠ b → (qF_3 a).2.1 ≠ (qF_3 b).2.1 by decide +kernel)
  | 4, h =>
    have h2 : r = ("SealedRecords$Messages", qF_4, 3) := (Option.some.inj h).symm
    subst h2
    exact (show ∀ a, a < 3 → ∀ b, b < 3 → a ≠ b → (qF_4 a).2.1 ≠ (qF_4 b).2.1 by decide +kernel)
  | 5, h =>
    have h2 : r = ("SealedRecords$End", qF_5, 13) := (Option.some.inj h).symm
    subst h2
    exact (show ∀ a, a < 13 → ∀ b, b < 13 → a ≠ b → (qF_5 a).2.1 ≠ (qF_5 b).2.1 by decide +kernel)
  | 6, h =>
    have h2 : r = ("SealedRecordsModel", qF_6, 28) := (Option.some.inj h).symm
    subst h2
    exact (show ∀ a, a < 28 → ∀ b, b < 28 → a ≠ b → (qF_6 a).2.1 ≠ (qF_6 b).2.1 by decide +kernel)
  | n + 7, h => simp [q_cl] at h
set_option maxRecDepth 20000 in
theorem q_lay_0 : ∀ w ∈ u_ws "SealedRecords" qF_0 2, w ∈ q_W0 := by decide +kernel
set_option maxRecDepth 20000 in
theorem q_lay_1 : ∀ w ∈ u_ws "SealedRecords$Packet" qF_1 3, w ∈ q_W0 := by decide +kernel
set_option maxRecDepth 20000 in
theorem q_lay_2 : ∀ w ∈ u_ws "SealedRecords$Row" qF_2 2, w ∈ q_W0 := by decide +kernel
set_option maxRecDepth 20000 in
theorem q_lay_3 : ∀ w ∈ u_ws "SealedRecords$Side" qF_3 4, w ∈ q_W0 := by decide +kernel
set_option maxRecDepth 20000 in
theorem q_lay_4 : ∀ w ∈ u_ws "SealedRecords$Messages" qF_4 3, w ∈ q_W0 := by decide +kernel
set_option maxRecDepth 20000 in
theorem q_lay_5 : ∀ w ∈ u_ws "SealedRecords$End" qF_5 13, w ∈ q_W0 := by decide +kernel
set_option maxRecDepth 20000 in
theorem q_lay_6 : ∀ w ∈ u_ws "SealedRecordsModel" qF_6 28, w ∈ q_W0 := by decide +kernel
theorem q_lay : ∀ (c : Nat) (r : vw_C), q_cl[c]? = some r → ∀ w ∈ u_ws r.1 r.2.1 r.2.2, w ∈ q_W0 := by
  intro c r h
  match c, h with
  | 0, h =>
    have h2 : r = ("SealedRecords", qF_0, 2) := (Option.some.inj h).symm
    subst h2
    exact q_lay_0
  | 1, h =>
    have h2 : r = ("SealedRecords$Packet", qF_1, 3) := (Option.some.inj h).symm
    subst h2
    exact q_lay_1
  | 2, h =>
    have h2 : r = ("SealedRecords$Row", qF_2, 2) := (Option.some.inj h).symm
    subst h2
    exact q_lay_2
  | 3, h =>
    have h2 : r = ("SealedRecords$Side", qF_3, 4) := (Option.some.inj h).symm
    subst h2
    exact q_lay_3
  | 4, h =>
    have h2 : r = ("SealedRecords$Messages", qF_4, 3) := (Option.some.inj h).symm
    subst h2
    exact q_lay_4
  | 5, h =>
    have h2 : r = ("SealedRecords$End", qF_5, 13) := (Option.some.inj h).symm
    subst h2
    exact q_lay_5
  | 6, h =>
    have h2 : r = ("SealedRecordsModel", qF_6, 28) := (Option.some.inj h).symm
    subst h2
    exact q_lay_6
  | n + 7, h => simp [q_cl] at h
theorem q_good : ∀ w ∈ q_W0, (w.onTables && w.keeps) = true ∨ ∃ ty, w = .arrayClass ty := fun w hw => good_of_word (List.mem_filter.mp hw).2
theorem q_nwok : ∀ w ∈ q_nw, ∃ (a : String) (i : Nat) (x : MethodName) (h : String), w = .methodLinkNest a i x h := by
  intro w hw
  simp only [q_nw, List.mem_cons, List.not_mem_nil, or_false] at hw
  rcases hw with rfl | rfl | rfl | rfl <;> exact ⟨_, _, _, _, rfl⟩
