/-! classes, methods, sites (written by program) -/
theorem zn_ok : ∀ w ∈ zn_W, zx_ok w := fun w h => good_of_word (List.mem_filter.mp h).2
def zn_THo : u_T := fun k => match k with
  | 0 => ("LogHouse", "stations", "[LLogHouse$Station;", true)
  | 1 => ("LogHouse", "proposers", "[LLogHouse$Proposer;", true)
  | 2 => ("LogHouse", "row", "LLogHouse$Row;", true)
  | 3 => ("LogHouse", "gathering", "LLogHouse$Gathering;", true)
  | 4 => ("LogHouse", "rebuilt", "LLogHouse$Report;", true)
  | _ => ("LogHouse", "lastRead", "LLogHouse$Report;", true)
def zn_tHo : Nat → FieldType := fun k => match k with
  | 0 => .array (.object "LogHouse$Station")
  | 1 => .array (.object "LogHouse$Proposer")
  | 2 => .object "LogHouse$Row"
  | 3 => .object "LogHouse$Gathering"
  | 4 => .object "LogHouse$Report"
  | _ => .object "LogHouse$Report"
theorem zn_nHo : ∀ a, a < 6 → ∀ b, b < 6 → a ≠ b → (zn_THo a).2.1 ≠ (zn_THo b).2.1 := by decide +kernel
theorem zn_oHo : ∀ k, k < 6 → parseFieldDescriptor (zn_THo k).2.2.1 = some (zn_tHo k) := by decide +kernel
theorem zn_uHo : ∀ w ∈ u_ws "LogHouse" zn_THo 6, w ∈ zn_W := by
  intro w hw
  obtain ⟨k, hk, rfl⟩ := List.mem_map.mp hw
  have hk := List.mem_range.mp hk
  match k, hk with
  | 0, _ => exact zn_w259
  | 1, _ => exact zn_w261
  | 2, _ => exact zn_w263
  | 3, _ => exact zn_w265
  | 4, _ => exact zn_w267
  | 5, _ => exact zn_w269
  | k + 6, h => omega
def zn_TSt : u_T := fun k => match k with
  | 0 => ("LogHouse$Station", "promised", "I", false)
  | 1 => ("LogHouse$Station", "isUp", "Z", false)
  | 2 => ("LogHouse$Station", "wasWiped", "Z", false)
  | _ => ("LogHouse$Station", "shelf", "LLogHouse$Shelf;", true)
def zn_tSt : Nat → FieldType := fun k => match k with
  | 0 => .int
  | 1 => .boolean
  | 2 => .boolean
  | _ => .object "LogHouse$Shelf"
theorem zn_nSt : ∀ a, a < 4 → ∀ b, b < 4 → a ≠ b → (zn_TSt a).2.1 ≠ (zn_TSt b).2.1 := by decide +kernel
theorem zn_oSt : ∀ k, k < 4 → parseFieldDescriptor (zn_TSt k).2.2.1 = some (zn_tSt k) := by decide +kernel
theorem zn_uSt : ∀ w ∈ u_ws "LogHouse$Station" zn_TSt 4, w ∈ zn_W := by
  intro w hw
  obtain ⟨k, hk, rfl⟩ := List.mem_map.mp hw
  have hk := List.mem_range.mp hk
  match k, hk with
  | 0, _ => exact zn_w72
  | 1, _ => exact zn_w74
  | 2, _ => exact zn_w76
  | 3, _ => exact zn_w78
  | k + 4, h => omega
def zn_TSh : u_T := fun k => match k with
  | 0 => ("LogHouse$Shelf", "ballots", "[I", true)
  | 1 => ("LogHouse$Shelf", "identities", "[I", true)
  | 2 => ("LogHouse$Shelf", "lengths", "[I", true)
  | _ => ("LogHouse$Shelf", "shares", "[J", true)
def zn_tSh : Nat → FieldType := fun k => match k with
  | 0 => .array .int
  | 1 => .array .int
  | 2 => .array .int
  | _ => .array .long
theorem zn_nSh : ∀ a, a < 4 → ∀ b, b < 4 → a ≠ b → (zn_TSh a).2.1 ≠ (zn_TSh b).2.1 := by decide +kernel
theorem zn_oSh : ∀ k, k < 4 → parseFieldDescriptor (zn_TSh k).2.2.1 = some (zn_tSh k) := by decide +kernel
theorem zn_uSh : ∀ w ∈ u_ws "LogHouse$Shelf" zn_TSh 4, w ∈ zn_W := by
  intro w hw
  obtain ⟨k, hk, rfl⟩ := List.mem_map.mp hw
  have hk := List.mem_range.mp hk
  match k, hk with
  | 0, _ => exact zn_w53
  | 1, _ => exact zn_w55
  | 2, _ => exact zn_w57
  | 3, _ => exact zn_w59
  | k + 4, h => omega
def zn_TPr : u_T := fun k => match k with
  | 0 => ("LogHouse$Proposer", "number", "I", true)
  | 1 => ("LogHouse$Proposer", "phase", "I", false)
  | 2 => ("LogHouse$Proposer", "ballot", "I", false)
  | 3 => ("LogHouse$Proposer", "promisedBy", "I", false)
  | 4 => ("LogHouse$Proposer", "draftLength", "I", false)
  | 5 => ("LogHouse$Proposer", "draft", "[B", true)
  | 6 => ("LogHouse$Proposer", "promises", "[LLogHouse$Shelf;", true)
  | _ => ("LogHouse$Proposer", "spots", "[LLogHouse$Spot;", true)
def zn_tPr : Nat → FieldType := fun k => match k with
  | 0 => .int
  | 1 => .int
  | 2 => .int
  | 3 => .int
  | 4 => .int
  | 5 => .array .byte
  | 6 => .array (.object "LogHouse$Shelf")
  | _ => .array (.object "LogHouse$Spot")
theorem zn_nPr : ∀ a, a < 8 → ∀ b, b < 8 → a ≠ b → (zn_TPr a).2.1 ≠ (zn_TPr b).2.1 := by decide +kernel
theorem zn_oPr : ∀ k, k < 8 → parseFieldDescriptor (zn_TPr k).2.2.1 = some (zn_tPr k) := by decide +kernel
theorem zn_uPr : ∀ w ∈ u_ws "LogHouse$Proposer" zn_TPr 8, w ∈ zn_W := by
  intro w hw
  obtain ⟨k, hk, rfl⟩ := List.mem_map.mp hw
  have hk := List.mem_range.mp hk
  match k, hk with
  | 0, _ => exact zn_w145
  | 1, _ => exact zn_w147
  | 2, _ => exact zn_w149
  | 3, _ => exact zn_w151
  | 4, _ => exact zn_w153
  | 5, _ => exact zn_w155
  | 6, _ => exact zn_w157
  | 7, _ => exact zn_w159
  | k + 8, h => omega
def zn_TSp : u_T := fun k => match k with
  | 0 => ("LogHouse$Spot", "decidedIdentity", "I", false)
  | 1 => ("LogHouse$Spot", "proposedIdentity", "I", false)
  | 2 => ("LogHouse$Spot", "answeredBy", "I", false)
  | _ => ("LogHouse$Spot", "report", "LLogHouse$Report;", true)
def zn_tSp : Nat → FieldType := fun k => match k with
  | 0 => .int
  | 1 => .int
  | 2 => .int
  | _ => .object "LogHouse$Report"
theorem zn_nSp : ∀ a, a < 4 → ∀ b, b < 4 → a ≠ b → (zn_TSp a).2.1 ≠ (zn_TSp b).2.1 := by decide +kernel
theorem zn_oSp : ∀ k, k < 4 → parseFieldDescriptor (zn_TSp k).2.2.1 = some (zn_tSp k) := by decide +kernel
theorem zn_uSp : ∀ w ∈ u_ws "LogHouse$Spot" zn_TSp 4, w ∈ zn_W := by
  intro w hw
  obtain ⟨k, hk, rfl⟩ := List.mem_map.mp hw
  have hk := List.mem_range.mp hk
  match k, hk with
  | 0, _ => exact zn_w122
  | 1, _ => exact zn_w124
  | 2, _ => exact zn_w126
  | 3, _ => exact zn_w128
  | k + 4, h => omega
def zn_TRe : u_T := fun k => match k with
  | 0 => ("LogHouse$Report", "length", "I", false)
  | _ => ("LogHouse$Report", "pieces", "[J", true)
def zn_tRe : Nat → FieldType := fun k => match k with
  | 0 => .int
  | _ => .array .long
theorem zn_nRe : ∀ a, a < 2 → ∀ b, b < 2 → a ≠ b → (zn_TRe a).2.1 ≠ (zn_TRe b).2.1 := by decide +kernel
theorem zn_oRe : ∀ k, k < 2 → parseFieldDescriptor (zn_TRe k).2.2.1 = some (zn_tRe k) := by decide +kernel
theorem zn_uRe : ∀ w ∈ u_ws "LogHouse$Report" zn_TRe 2, w ∈ zn_W := by
  intro w hw
  obtain ⟨k, hk, rfl⟩ := List.mem_map.mp hw
  have hk := List.mem_range.mp hk
  match k, hk with
  | 0, _ => exact zn_w108
  | 1, _ => exact zn_w110
  | k + 2, h => omega
def zn_TRo : u_T := fun k => match k with
  | 0 => ("LogHouse$Row", "count", "I", false)
  | _ => ("LogHouse$Row", "slots", "[LLogHouse$Letter;", true)
def zn_tRo : Nat → FieldType := fun k => match k with
  | 0 => .int
  | _ => .array (.object "LogHouse$Letter")
theorem zn_nRo : ∀ a, a < 2 → ∀ b, b < 2 → a ≠ b → (zn_TRo a).2.1 ≠ (zn_TRo b).2.1 := by decide +kernel
theorem zn_oRo : ∀ k, k < 2 → parseFieldDescriptor (zn_TRo k).2.2.1 = some (zn_tRo k) := by decide +kernel
theorem zn_uRo : ∀ w ∈ u_ws "LogHouse$Row" zn_TRo 2, w ∈ zn_W := by
  intro w hw
  obtain ⟨k, hk, rfl⟩ := List.mem_map.mp hw
  have hk := List.mem_range.mp hk
  match k, hk with
  | 0, _ => exact zn_w223
  | 1, _ => exact zn_w225
  | k + 2, h => omega
def zn_TLe : u_T := fun k => match k with
  | 0 => ("LogHouse$Letter", "kind", "I", false)
  | 1 => ("LogHouse$Letter", "station", "I", false)
  | 2 => ("LogHouse$Letter", "proposer", "I", false)
  | 3 => ("LogHouse$Letter", "ballot", "I", false)
  | 4 => ("LogHouse$Letter", "place", "I", false)
  | 5 => ("LogHouse$Letter", "identity", "I", false)
  | 6 => ("LogHouse$Letter", "length", "I", false)
  | 7 => ("LogHouse$Letter", "share", "J", false)
  | _ => ("LogHouse$Letter", "shelf", "LLogHouse$Shelf;", true)
def zn_tLe : Nat → FieldType := fun k => match k with
  | 0 => .int
  | 1 => .int
  | 2 => .int
  | 3 => .int
  | 4 => .int
  | 5 => .int
  | 6 => .int
  | 7 => .long
  | _ => .object "LogHouse$Shelf"
theorem zn_nLe : ∀ a, a < 9 → ∀ b, b < 9 → a ≠ b → (zn_TLe a).2.1 ≠ (zn_TLe b).2.1 := by decide +kernel
theorem zn_oLe : ∀ k, k < 9 → parseFieldDescriptor (zn_TLe k).2.2.1 = some (zn_tLe k) := by decide +kernel
theorem zn_uLe : ∀ w ∈ u_ws "LogHouse$Letter" zn_TLe 9, w ∈ zn_W := by
  intro w hw
  obtain ⟨k, hk, rfl⟩ := List.mem_map.mp hw
  have hk := List.mem_range.mp hk
  match k, hk with
  | 0, _ => exact zn_w200
  | 1, _ => exact zn_w202
  | 2, _ => exact zn_w204
  | 3, _ => exact zn_w206
  | 4, _ => exact zn_w208
  | 5, _ => exact zn_w210
  | 6, _ => exact zn_w212
  | 7, _ => exact zn_w214
  | 8, _ => exact zn_w216
  | k + 9, h => omega
def zn_TGa : u_T := fun k => match k with
  | 0 => ("LogHouse$Gathering", "identity", "I", false)
  | 1 => ("LogHouse$Gathering", "length", "I", false)
  | 2 => ("LogHouse$Gathering", "count", "I", false)
  | 3 => ("LogHouse$Gathering", "points", "[I", true)
  | _ => ("LogHouse$Gathering", "shares", "[J", true)
def zn_tGa : Nat → FieldType := fun k => match k with
  | 0 => .int
  | 1 => .int
  | 2 => .int
  | 3 => .array .int
  | _ => .array .long
theorem zn_nGa : ∀ a, a < 5 → ∀ b, b < 5 → a ≠ b → (zn_TGa a).2.1 ≠ (zn_TGa b).2.1 := by decide +kernel
theorem zn_oGa : ∀ k, k < 5 → parseFieldDescriptor (zn_TGa k).2.2.1 = some (zn_tGa k) := by decide +kernel
theorem zn_uGa : ∀ w ∈ u_ws "LogHouse$Gathering" zn_TGa 5, w ∈ zn_W := by
  intro w hw
  obtain ⟨k, hk, rfl⟩ := List.mem_map.mp hw
  have hk := List.mem_range.mp hk
  match k, hk with
  | 0, _ => exact zn_w240
  | 1, _ => exact zn_w242
  | 2, _ => exact zn_w244
  | 3, _ => exact zn_w246
  | 4, _ => exact zn_w248
  | k + 5, h => omega
def zn_TMo : u_T := fun k => match k with
  | 0 => ("LogHouseModel", "thrownCode", "I", false)
  | 1 => ("LogHouseModel", "promised", "[I", true)
  | 2 => ("LogHouseModel", "down", "[Z", true)
  | 3 => ("LogHouseModel", "wiped", "[Z", true)
  | 4 => ("LogHouseModel", "has", "[I", true)
  | 5 => ("LogHouseModel", "letters", "I", false)
  | 6 => ("LogHouseModel", "head", "[I", true)
  | 7 => ("LogHouseModel", "said", "[I", true)
  | 8 => ("LogHouseModel", "phase", "[I", true)
  | 9 => ("LogHouseModel", "ballot", "[I", true)
  | 10 => ("LogHouseModel", "promises", "[I", true)
  | 11 => ("LogHouseModel", "heard", "[I", true)
  | 12 => ("LogHouseModel", "written", "[I", true)
  | 13 => ("LogHouseModel", "writes", "[I", true)
  | 14 => ("LogHouseModel", "known", "[I", true)
  | 15 => ("LogHouseModel", "proposed", "[I", true)
  | 16 => ("LogHouseModel", "lengths", "[I", true)
  | 17 => ("LogHouseModel", "answers", "[I", true)
  | 18 => ("LogHouseModel", "reports", "[I", true)
  | 19 => ("LogHouseModel", "powers", "[I", true)
  | 20 => ("LogHouseModel", "logs", "[I", true)
  | 21 => ("LogHouseModel", "three", "[I", true)
  | 22 => ("LogHouseModel", "bytes", "[I", true)
  | 23 => ("LogHouseModel", "put", "[I", true)
  | 24 => ("LogHouseModel", "readNow", "[I", true)
  | 25 => ("LogHouseModel", "reads", "I", false)
  | 26 => ("LogHouseModel", "one", "[I", true)
  | _ => ("LogHouseModel", "text", "[I", true)
def zn_tMo : Nat → FieldType := fun k => match k with
  | 0 => .int
  | 1 => .array .int
  | 2 => .array .boolean
  | 3 => .array .boolean
  | 4 => .array .int
  | 5 => .int
  | 6 => .array .int
  | 7 => .array .int
  | 8 => .array .int
  | 9 => .array .int
  | 10 => .array .int
  | 11 => .array .int
  | 12 => .array .int
  | 13 => .array .int
  | 14 => .array .int
  | 15 => .array .int
  | 16 => .array .int
  | 17 => .array .int
  | 18 => .array .int
  | 19 => .array .int
  | 20 => .array .int
  | 21 => .array .int
  | 22 => .array .int
  | 23 => .array .int
  | 24 => .array .int
  | 25 => .int
  | 26 => .array .int
  | _ => .array .int
theorem zn_nMo : ∀ a, a < 28 → ∀ b, b < 28 → a ≠ b → (zn_TMo a).2.1 ≠ (zn_TMo b).2.1 := by decide +kernel
theorem zn_oMo : ∀ k, k < 28 → parseFieldDescriptor (zn_TMo k).2.2.1 = some (zn_tMo k) := by decide +kernel
theorem zn_uMo : ∀ w ∈ u_ws "LogHouseModel" zn_TMo 28, w ∈ zn_W := by
  intro w hw
  obtain ⟨k, hk, rfl⟩ := List.mem_map.mp hw
  have hk := List.mem_range.mp hk
  match k, hk with
  | 0, _ => exact zn_w798
  | 1, _ => exact zn_w800
  | 2, _ => exact zn_w802
  | 3, _ => exact zn_w804
  | 4, _ => exact zn_w806
  | 5, _ => exact zn_w808
  | 6, _ => exact zn_w810
  | 7, _ => exact zn_w812
  | 8, _ => exact zn_w814
  | 9, _ => exact zn_w816
  | 10, _ => exact zn_w818
  | 11, _ => exact zn_w820
  | 12, _ => exact zn_w822
  | 13, _ => exact zn_w824
  | 14, _ => exact zn_w826
  | 15, _ => exact zn_w828
  | 16, _ => exact zn_w830
  | 17, _ => exact zn_w832
  | 18, _ => exact zn_w834
  | 19, _ => exact zn_w836
  | 20, _ => exact zn_w838
  | 21, _ => exact zn_w840
  | 22, _ => exact zn_w842
  | 23, _ => exact zn_w844
  | 24, _ => exact zn_w846
  | 25, _ => exact zn_w848
  | 26, _ => exact zn_w850
  | 27, _ => exact zn_w852
  | k + 28, h => omega
abbrev zn_cl : List vw_C := [("LogHouse", zn_THo, 6), ("LogHouse$Station", zn_TSt, 4), ("LogHouse$Shelf", zn_TSh, 4), ("LogHouse$Proposer", zn_TPr, 8), ("LogHouse$Spot", zn_TSp, 4), ("LogHouse$Report", zn_TRe, 2), ("LogHouse$Row", zn_TRo, 2), ("LogHouse$Letter", zn_TLe, 9), ("LogHouse$Gathering", zn_TGa, 5), ("LogHouseModel", zn_TMo, 28)]
abbrev zn_at (ar : Nat → ClassId) : List (ClassId × FieldType) := [(ar 0, .int), (ar 1, .long), (ar 2, .byte), (ar 3, .boolean), (ar 4, .object "LogHouse$Station"), (ar 5, .object "LogHouse$Proposer"), (ar 6, .object "LogHouse$Shelf"), (ar 7, .object "LogHouse$Spot"), (ar 8, .object "LogHouse$Letter")]
/-- what is said of the tables beside the words: nest links, array classes -/
def zn_N (U : State) : Prop := va_Nw (.methodLinkNest "LogHouse" 15 ⟨"LogHouse$Station", "<init>", "()V"⟩ "LogHouse") U ∧ va_Nw (.methodLinkNest "LogHouse$Station" 15 ⟨"LogHouse$Shelf", "<init>", "()V"⟩ "LogHouse") U ∧ va_Nw (.methodLinkNest "LogHouse$Proposer" 34 ⟨"LogHouse$Shelf", "<init>", "()V"⟩ "LogHouse") U ∧ va_Nw (.methodLinkNest "LogHouse$Proposer" 35 ⟨"LogHouse$Spot", "<init>", "()V"⟩ "LogHouse") U ∧ va_Nw (.methodLinkNest "LogHouse$Spot" 11 ⟨"LogHouse$Report", "<init>", "()V"⟩ "LogHouse") U ∧ va_Nw (.methodLinkNest "LogHouse$Row" 17 ⟨"LogHouse$Letter", "<init>", "()V"⟩ "LogHouse") U ∧ va_Nw (.methodLinkNest "LogHouse$Letter" 11 ⟨"LogHouse$Shelf", "<init>", "()V"⟩ "LogHouse") U ∧ va_Nw (.methodLinkNest "LogHouse" 34 ⟨"LogHouse$Gathering", "<init>", "()V"⟩ "LogHouse") U ∧ va_Nw (.methodLinkNest "LogHouse" 41 ⟨"LogHouse$Report", "<init>", "()V"⟩ "LogHouse") U ∧ va_AO "LogHouse$Station" U ∧ va_AO "LogHouse$Proposer" U ∧ va_AO "LogHouse$Shelf" U ∧ va_AO "LogHouse$Spot" U ∧ va_AO "LogHouse$Letter" U
abbrev zn_G (l : Launch) (D : va_G) (ar : Nat → ClassId) (b : Nat) (Z : State → Prop) : zx_G := (l, D, zn_cl, zn_at ar, b, (fun U => zn_N U ∧ Z U), zn_W)
section ZN
variable {l : Launch} {D : va_G} {ar : Nat → ClassId} {b : Nat} {Z : State → Prop}
theorem zn_aoSt : ∀ U, zx_gZ (zn_G l D ar b Z) U → va_AO "LogHouse$Station" U := fun U h => h.1.2.2.2.2.2.2.2.2.2.1
theorem zn_aoPr : ∀ U, zx_gZ (zn_G l D ar b Z) U → va_AO "LogHouse$Proposer" U := fun U h => h.1.2.2.2.2.2.2.2.2.2.2.1
theorem zn_aoSh : ∀ U, zx_gZ (zn_G l D ar b Z) U → va_AO "LogHouse$Shelf" U := fun U h => h.1.2.2.2.2.2.2.2.2.2.2.2.1
theorem zn_aoSp : ∀ U, zx_gZ (zn_G l D ar b Z) U → va_AO "LogHouse$Spot" U := fun U h => h.1.2.2.2.2.2.2.2.2.2.2.2.2.1
theorem zn_aoLe : ∀ U, zx_gZ (zn_G l D ar b Z) U → va_AO "LogHouse$Letter" U := fun U h => h.1.2.2.2.2.2.2.2.2.2.2.2.2.2
abbrev y_Ho_init : zx_Y := (⟨"LogHouse", "<init>", "()V"⟩, prog_1_method_1_code, 2, (Option.none : Option FieldType), [])
abbrev y_Ob_init : zx_Y := (⟨"java/lang/Object", "<init>", "()V"⟩, object_method_1_code, 1, (Option.none : Option FieldType), [])
abbrev y_St_init : zx_Y := (⟨"LogHouse$Station", "<init>", "()V"⟩, prog_10_method_1_code, 1, (Option.none : Option FieldType), [])
abbrev y_Sh_init : zx_Y := (⟨"LogHouse$Shelf", "<init>", "()V"⟩, prog_8_method_1_code, 1, (Option.none : Option FieldType), [])
abbrev y_Pr_init : zx_Y := (⟨"LogHouse$Proposer", "<init>", "(I)V"⟩, prog_5_method_1_code, 3, (Option.none : Option FieldType), [])
abbrev y_Sp_init : zx_Y := (⟨"LogHouse$Spot", "<init>", "()V"⟩, prog_9_method_1_code, 1, (Option.none : Option FieldType), [])
abbrev y_Re_init : zx_Y := (⟨"LogHouse$Report", "<init>", "()V"⟩, prog_6_method_1_code, 1, (Option.none : Option FieldType), [])
abbrev y_Ro_init : zx_Y := (⟨"LogHouse$Row", "<init>", "()V"⟩, prog_7_method_1_code, 2, (Option.none : Option FieldType), [])
abbrev y_Le_init : zx_Y := (⟨"LogHouse$Letter", "<init>", "()V"⟩, prog_4_method_1_code, 1, (Option.none : Option FieldType), [])
abbrev y_Ga_init : zx_Y := (⟨"LogHouse$Gathering", "<init>", "()V"⟩, prog_3_method_1_code, 1, (Option.none : Option FieldType), [])
abbrev y_Ho_byteIn : zx_Y := (⟨"LogHouse", "byteIn", "(III)Z"⟩, prog_1_method_2_code, 4, (Option.some FieldType.boolean), [])
abbrev y_Ho_isProposer : zx_Y := (⟨"LogHouse", "isProposer", "(I)Z"⟩, prog_1_method_20_code, 1, (Option.some FieldType.boolean), [])
abbrev y_Pr_write : zx_Y := (⟨"LogHouse$Proposer", "write", "(II)Z"⟩, prog_5_method_2_code, 4, (Option.some FieldType.boolean), [])
abbrev y_Ho_letters : zx_Y := (⟨"LogHouse", "letters", "()I"⟩, prog_1_method_9_code, 1, (Option.some FieldType.int), [])
abbrev y_La_campaign : zx_Y := (⟨"LogHouseLaw", "campaign", "(LLogHouse;I[J)I"⟩, method_3_code, 4, (Option.some FieldType.int), [((0 : Nat), (9 : Nat), (12 : Nat), (13 : Nat))])
abbrev y_Ho_campaign : zx_Y := (⟨"LogHouse", "campaign", "(I)I"⟩, prog_1_method_3_code, 3, (Option.some FieldType.int), [])
abbrev y_Ho_checkProposer : zx_Y := (⟨"LogHouse", "checkProposer", "(I)V"⟩, prog_1_method_21_code, 1, (Option.none : Option FieldType), [])
abbrev y_Th_init : zx_Y := (⟨"java/lang/Throwable", "<init>", "()V"⟩, prog_20_method_1_code, 1, (Option.none : Option FieldType), [])
abbrev y_Ia_init : zx_Y := (⟨"java/lang/IllegalArgumentException", "<init>", "()V"⟩, prog_14_method_1_code, 1, (Option.none : Option FieldType), [])
abbrev y_Ru_init : zx_Y := (⟨"java/lang/RuntimeException", "<init>", "()V"⟩, prog_19_method_1_code, 1, (Option.none : Option FieldType), [])
abbrev y_Ex_init : zx_Y := (⟨"java/lang/Exception", "<init>", "()V"⟩, prog_13_method_1_code, 1, (Option.none : Option FieldType), [])
abbrev y_Ho_highestPromised : zx_Y := (⟨"LogHouse", "highestPromised", "()I"⟩, prog_1_method_25_code, 3, (Option.some FieldType.int), [])
abbrev y_Ma_max : zx_Y := (⟨"java/lang/Math", "max", "(II)I"⟩, prog_18_method_65_code, 2, (Option.some FieldType.int), [])
abbrev y_Pr_begin : zx_Y := (⟨"LogHouse$Proposer", "begin", "(I)V"⟩, prog_5_method_3_code, 5, (Option.none : Option FieldType), [])
abbrev y_Sp_forget : zx_Y := (⟨"LogHouse$Spot", "forget", "()V"⟩, prog_9_method_6_code, 1, (Option.none : Option FieldType), [])
abbrev y_Sp_proposeAs : zx_Y := (⟨"LogHouse$Spot", "proposeAs", "(I)V"⟩, prog_9_method_5_code, 2, (Option.none : Option FieldType), [])
abbrev y_Ho_sendPrepares : zx_Y := (⟨"LogHouse", "sendPrepares", "(LLogHouse$Proposer;)V"⟩, prog_1_method_26_code, 3, (Option.none : Option FieldType), [])
abbrev y_Pr_hasPromiseOf : zx_Y := (⟨"LogHouse$Proposer", "hasPromiseOf", "(I)Z"⟩, prog_5_method_6_code, 2, (Option.some FieldType.boolean), [])
abbrev y_Ro_post : zx_Y := (⟨"LogHouse$Row", "post", "(IIII)LLogHouse$Letter;"⟩, prog_7_method_4_code, 6, (Option.some (FieldType.object "LogHouse$Letter")), [])
abbrev y_Ro_append : zx_Y := (⟨"LogHouse$Row", "append", "()LLogHouse$Letter;"⟩, prog_7_method_3_code, 2, (Option.some (FieldType.object "LogHouse$Letter")), [])
abbrev y_Le_address : zx_Y := (⟨"LogHouse$Letter", "address", "(IIII)V"⟩, prog_4_method_2_code, 5, (Option.none : Option FieldType), [])
abbrev y_La_propose : zx_Y := (⟨"LogHouseLaw", "propose", "(LLogHouse;I[J)I"⟩, method_4_code, 4, (Option.some FieldType.int), [((0 : Nat), (9 : Nat), (12 : Nat), (13 : Nat)), ((0 : Nat), (9 : Nat), (15 : Nat), (18 : Nat))])
abbrev y_Ho_propose : zx_Y := (⟨"LogHouse", "propose", "(I)I"⟩, prog_1_method_4_code, 4, (Option.some FieldType.int), [])
abbrev y_Pr_firstFree : zx_Y := (⟨"LogHouse$Proposer", "firstFree", "()I"⟩, prog_5_method_4_code, 2, (Option.some FieldType.int), [])
abbrev y_Sp_isOpen : zx_Y := (⟨"LogHouse$Spot", "isOpen", "()Z"⟩, prog_9_method_2_code, 1, (Option.some FieldType.boolean), [])
abbrev y_Is_init : zx_Y := (⟨"java/lang/IllegalStateException", "<init>", "()V"⟩, prog_15_method_1_code, 1, (Option.none : Option FieldType), [])
abbrev y_Pr_proposeDraft : zx_Y := (⟨"LogHouse$Proposer", "proposeDraft", "(I)V"⟩, prog_5_method_5_code, 2, (Option.none : Option FieldType), [])
abbrev y_Re_cut : zx_Y := (⟨"LogHouse$Report", "cut", "([BI)V"⟩, prog_6_method_4_code, 5, (Option.none : Option FieldType), [])
abbrev y_Re_clearPieces : zx_Y := (⟨"LogHouse$Report", "clearPieces", "()V"⟩, prog_6_method_5_code, 2, (Option.none : Option FieldType), [])
abbrev y_Re_third : zx_Y := (⟨"LogHouse$Report", "third", "(I)I"⟩, prog_6_method_2_code, 1, (Option.some FieldType.int), [])
abbrev y_Ho_sendAccepts : zx_Y := (⟨"LogHouse", "sendAccepts", "(LLogHouse$Proposer;I)V"⟩, prog_1_method_28_code, 6, (Option.none : Option FieldType), [])
abbrev y_Sp_hasAnswerOf : zx_Y := (⟨"LogHouse$Spot", "hasAnswerOf", "(I)Z"⟩, prog_9_method_4_code, 2, (Option.some FieldType.boolean), [])
abbrev y_Le_aboutPlace : zx_Y := (⟨"LogHouse$Letter", "aboutPlace", "(II)V"⟩, prog_4_method_3_code, 3, (Option.none : Option FieldType), [])
abbrev y_Re_shareOf : zx_Y := (⟨"LogHouse$Report", "shareOf", "(I)J"⟩, prog_6_method_7_code, 6, (Option.some FieldType.long), [])
abbrev y_Re_pointOf : zx_Y := (⟨"LogHouse$Report", "pointOf", "(I)I"⟩, prog_6_method_3_code, 1, (Option.some FieldType.int), [])
abbrev y_Fi_times : zx_Y := (⟨"LogHouse$Field", "times", "(JI)J"⟩, prog_2_method_2_code, 8, (Option.some FieldType.long), [])
abbrev y_La_resend : zx_Y := (⟨"LogHouseLaw", "resend", "(LLogHouse;I[J)I"⟩, method_5_code, 4, (Option.some FieldType.int), [((0 : Nat), (9 : Nat), (12 : Nat), (13 : Nat))])
abbrev y_Ho_resend : zx_Y := (⟨"LogHouse", "resend", "(I)I"⟩, prog_1_method_5_code, 4, (Option.some FieldType.int), [])
abbrev y_Ho_sendAllAccepts : zx_Y := (⟨"LogHouse", "sendAllAccepts", "(LLogHouse$Proposer;)V"⟩, prog_1_method_27_code, 3, (Option.none : Option FieldType), [])
abbrev y_Sp_isWaiting : zx_Y := (⟨"LogHouse$Spot", "isWaiting", "()Z"⟩, prog_9_method_3_code, 1, (Option.some FieldType.boolean), [])
abbrev y_La_deliver : zx_Y := (⟨"LogHouseLaw", "deliver", "(LLogHouse;I[J)I"⟩, method_6_code, 4, (Option.some FieldType.int), [((0 : Nat), (9 : Nat), (12 : Nat), (26 : Nat))])
abbrev y_Ho_deliver : zx_Y := (⟨"LogHouse", "deliver", "(I)I"⟩, prog_1_method_6_code, 4, (Option.some FieldType.int), [])
abbrev y_Ho_checkLetter : zx_Y := (⟨"LogHouse", "checkLetter", "(I)V"⟩, prog_1_method_24_code, 2, (Option.none : Option FieldType), [])
abbrev y_Io_init : zx_Y := (⟨"java/lang/IndexOutOfBoundsException", "<init>", "()V"⟩, prog_16_method_1_code, 1, (Option.none : Option FieldType), [])
abbrev y_Ro_take : zx_Y := (⟨"LogHouse$Row", "take", "(I)LLogHouse$Letter;"⟩, prog_7_method_2_code, 4, (Option.some (FieldType.object "LogHouse$Letter")), [])
abbrev y_Ho_bringPrepare : zx_Y := (⟨"LogHouse", "bringPrepare", "(LLogHouse$Letter;)V"⟩, prog_1_method_29_code, 4, (Option.none : Option FieldType), [])
abbrev y_St_heeds : zx_Y := (⟨"LogHouse$Station", "heeds", "(I)Z"⟩, prog_10_method_2_code, 2, (Option.some FieldType.boolean), [])
abbrev y_Sh_copyFrom : zx_Y := (⟨"LogHouse$Shelf", "copyFrom", "(LLogHouse$Shelf;)V"⟩, prog_8_method_5_code, 3, (Option.none : Option FieldType), [])
abbrev y_Sh_put : zx_Y := (⟨"LogHouse$Shelf", "put", "(IIIIJ)V"⟩, prog_8_method_3_code, 7, (Option.none : Option FieldType), [])
abbrev y_Ho_bringPromise : zx_Y := (⟨"LogHouse", "bringPromise", "(LLogHouse$Letter;)V"⟩, prog_1_method_30_code, 3, (Option.none : Option FieldType), [])
abbrev y_Pr_hearPromise : zx_Y := (⟨"LogHouse$Proposer", "hearPromise", "(LLogHouse$Letter;)V"⟩, prog_5_method_7_code, 2, (Option.none : Option FieldType), [])
abbrev y_In_bitCount : zx_Y := (⟨"java/lang/Integer", "bitCount", "(I)I"⟩, prog_17_method_49_code, 1, (Option.some FieldType.int), [])
abbrev y_Ho_lead : zx_Y := (⟨"LogHouse", "lead", "(LLogHouse$Proposer;)V"⟩, prog_1_method_31_code, 4, (Option.none : Option FieldType), [])
abbrev y_Pr_gatherFromPromises : zx_Y := (⟨"LogHouse$Proposer", "gatherFromPromises", "(ILLogHouse$Gathering;)Z"⟩, prog_5_method_9_code, 4, (Option.some FieldType.boolean), [])
abbrev y_Sh_has : zx_Y := (⟨"LogHouse$Shelf", "has", "(I)Z"⟩, prog_8_method_2_code, 2, (Option.some FieldType.boolean), [])
abbrev y_Ga_start : zx_Y := (⟨"LogHouse$Gathering", "start", "(I)V"⟩, prog_3_method_2_code, 2, (Option.none : Option FieldType), [])
abbrev y_Pr_addPromises : zx_Y := (⟨"LogHouse$Proposer", "addPromises", "(ILLogHouse$Gathering;)V"⟩, prog_5_method_10_code, 4, (Option.none : Option FieldType), [])
abbrev y_Ga_addIfOfIt : zx_Y := (⟨"LogHouse$Gathering", "addIfOfIt", "(ILLogHouse$Shelf;I)V"⟩, prog_3_method_3_code, 4, (Option.none : Option FieldType), [])
abbrev y_Ga_isEnough : zx_Y := (⟨"LogHouse$Gathering", "isEnough", "()Z"⟩, prog_3_method_4_code, 1, (Option.some FieldType.boolean), [])
abbrev y_Ga_putTogether : zx_Y := (⟨"LogHouse$Gathering", "putTogether", "(LLogHouse$Report;)V"⟩, prog_3_method_5_code, 3, (Option.none : Option FieldType), [])
abbrev y_Re_addShare : zx_Y := (⟨"LogHouse$Report", "addShare", "(JIII)V"⟩, prog_6_method_8_code, 8, (Option.none : Option FieldType), [])
abbrev y_Fi_overSum : zx_Y := (⟨"LogHouse$Field", "overSum", "(JII)J"⟩, prog_2_method_3_code, 4, (Option.some FieldType.long), [])
abbrev y_Ho_bringAccept : zx_Y := (⟨"LogHouse", "bringAccept", "(LLogHouse$Letter;)V"⟩, prog_1_method_32_code, 4, (Option.none : Option FieldType), [])
abbrev y_Pr_hearAccepted : zx_Y := (⟨"LogHouse$Proposer", "hearAccepted", "(LLogHouse$Letter;)V"⟩, prog_5_method_8_code, 2, (Option.none : Option FieldType), [])
abbrev y_Sp_hearAnswer : zx_Y := (⟨"LogHouse$Spot", "hearAnswer", "(II)V"⟩, prog_9_method_7_code, 3, (Option.none : Option FieldType), [])
abbrev y_La_drop : zx_Y := (⟨"LogHouseLaw", "drop", "(LLogHouse;I)I"⟩, method_7_code, 3, (Option.some FieldType.int), [((0 : Nat), (5 : Nat), (8 : Nat), (26 : Nat))])
abbrev y_Ho_drop : zx_Y := (⟨"LogHouse", "drop", "(I)V"⟩, prog_1_method_7_code, 2, (Option.none : Option FieldType), [])
abbrev y_La_twin : zx_Y := (⟨"LogHouseLaw", "twin", "(LLogHouse;I)I"⟩, method_8_code, 3, (Option.some FieldType.int), [((0 : Nat), (5 : Nat), (8 : Nat), (26 : Nat)), ((0 : Nat), (5 : Nat), (11 : Nat), (18 : Nat))])
abbrev y_Ho_twin : zx_Y := (⟨"LogHouse", "twin", "(I)V"⟩, prog_1_method_8_code, 3, (Option.none : Option FieldType), [])
abbrev y_Le_copyFrom : zx_Y := (⟨"LogHouse$Letter", "copyFrom", "(LLogHouse$Letter;)V"⟩, prog_4_method_4_code, 2, (Option.none : Option FieldType), [])
abbrev y_La_letter : zx_Y := (⟨"LogHouseLaw", "letter", "(LLogHouse;II[J)I"⟩, method_9_code, 5, (Option.some FieldType.int), [((0 : Nat), (10 : Nat), (13 : Nat), (26 : Nat)), ((0 : Nat), (10 : Nat), (17 : Nat), (13 : Nat))])
abbrev y_Ho_letter : zx_Y := (⟨"LogHouse", "letter", "(II)I"⟩, prog_1_method_10_code, 4, (Option.some FieldType.int), [])
abbrev y_La_up : zx_Y := (⟨"LogHouseLaw", "up", "(LLogHouse;IZ[J)I"⟩, method_10_code, 5, (Option.some FieldType.int), [((0 : Nat), (17 : Nat), (20 : Nat), (13 : Nat))])
abbrev y_Ho_up : zx_Y := (⟨"LogHouse", "up", "(IZ)Z"⟩, prog_1_method_11_code, 4, (Option.some FieldType.boolean), [])
abbrev y_Ho_checkStation : zx_Y := (⟨"LogHouse", "checkStation", "(I)V"⟩, prog_1_method_22_code, 1, (Option.none : Option FieldType), [])
abbrev y_La_wipe : zx_Y := (⟨"LogHouseLaw", "wipe", "(LLogHouse;I)I"⟩, method_11_code, 3, (Option.some FieldType.int), [((0 : Nat), (5 : Nat), (8 : Nat), (13 : Nat))])
abbrev y_Ho_wipe : zx_Y := (⟨"LogHouse", "wipe", "(I)V"⟩, prog_1_method_12_code, 2, (Option.none : Option FieldType), [])
abbrev y_St_loseAll : zx_Y := (⟨"LogHouse$Station", "loseAll", "()V"⟩, prog_10_method_3_code, 1, (Option.none : Option FieldType), [])
abbrev y_Sh_clear : zx_Y := (⟨"LogHouse$Shelf", "clear", "()V"⟩, prog_8_method_4_code, 2, (Option.none : Option FieldType), [])
abbrev y_La_catchUp : zx_Y := (⟨"LogHouseLaw", "catchUp", "(LLogHouse;II[J)I"⟩, method_12_code, 5, (Option.some FieldType.int), [((0 : Nat), (10 : Nat), (13 : Nat), (13 : Nat)), ((0 : Nat), (10 : Nat), (17 : Nat), (18 : Nat))])
abbrev y_Ho_catchUp : zx_Y := (⟨"LogHouse", "catchUp", "(II)I"⟩, prog_1_method_13_code, 7, (Option.some FieldType.int), [])
abbrev y_Ho_gatherFromStations : zx_Y := (⟨"LogHouse", "gatherFromStations", "(II)Z"⟩, prog_1_method_33_code, 4, (Option.some FieldType.boolean), [])
abbrev y_La_decided : zx_Y := (⟨"LogHouseLaw", "decided", "(LLogHouse;II[J)I"⟩, method_13_code, 5, (Option.some FieldType.int), [((0 : Nat), (10 : Nat), (13 : Nat), (13 : Nat))])
abbrev y_Ho_decided : zx_Y := (⟨"LogHouse", "decided", "(II)I"⟩, prog_1_method_14_code, 3, (Option.some FieldType.int), [])
abbrev y_Ho_checkPlace : zx_Y := (⟨"LogHouse", "checkPlace", "(I)V"⟩, prog_1_method_23_code, 1, (Option.none : Option FieldType), [])
abbrev y_La_read : zx_Y := (⟨"LogHouseLaw", "read", "(LLogHouse;II[J)I"⟩, method_14_code, 5, (Option.some FieldType.int), [((0 : Nat), (10 : Nat), (13 : Nat), (13 : Nat)), ((0 : Nat), (10 : Nat), (17 : Nat), (55 : Nat)), ((0 : Nat), (10 : Nat), (21 : Nat), (18 : Nat))])
abbrev y_Ho_read : zx_Y := (⟨"LogHouse", "read", "(II)I"⟩, prog_1_method_15_code, 4, (Option.some FieldType.int), [])
abbrev y_Ns_init : zx_Y := (⟨"java/util/NoSuchElementException", "<init>", "()V"⟩, prog_21_method_1_code, 1, (Option.none : Option FieldType), [])
abbrev y_La_readByte : zx_Y := (⟨"LogHouseLaw", "readByte", "(LLogHouse;I[J)I"⟩, method_15_code, 4, (Option.some FieldType.int), [((0 : Nat), (9 : Nat), (12 : Nat), (26 : Nat))])
abbrev y_Ho_readByte : zx_Y := (⟨"LogHouse", "readByte", "(I)I"⟩, prog_1_method_16_code, 2, (Option.some FieldType.int), [])
abbrev y_Re_byteAt : zx_Y := (⟨"LogHouse$Report", "byteAt", "(I)I"⟩, prog_6_method_6_code, 3, (Option.some FieldType.int), [])
abbrev y_La_state : zx_Y := (⟨"LogHouseLaw", "state", "(LLogHouse;II[J)I"⟩, method_16_code, 5, (Option.some FieldType.int), [((0 : Nat), (10 : Nat), (13 : Nat), (13 : Nat))])
abbrev y_Ho_state : zx_Y := (⟨"LogHouse", "state", "(II)I"⟩, prog_1_method_17_code, 4, (Option.some FieldType.int), [])
abbrev y_La_station : zx_Y := (⟨"LogHouseLaw", "station", "(LLogHouse;II[J)I"⟩, method_17_code, 5, (Option.some FieldType.int), [((0 : Nat), (10 : Nat), (13 : Nat), (13 : Nat))])
abbrev y_Ho_station : zx_Y := (⟨"LogHouse", "station", "(II)I"⟩, prog_1_method_18_code, 4, (Option.some FieldType.int), [])
abbrev y_Sh_countBytes : zx_Y := (⟨"LogHouse$Shelf", "countBytes", "()I"⟩, prog_8_method_6_code, 3, (Option.some FieldType.int), [])
abbrev y_La_share : zx_Y := (⟨"LogHouseLaw", "share", "(LLogHouse;III[J)I"⟩, method_18_code, 6, (Option.some FieldType.int), [((0 : Nat), (12 : Nat), (15 : Nat), (13 : Nat))])
abbrev y_Ho_share : zx_Y := (⟨"LogHouse", "share", "(III)I"⟩, prog_1_method_19_code, 5, (Option.some FieldType.int), [])
abbrev y_Sh_shareByte : zx_Y := (⟨"LogHouse$Shelf", "shareByte", "(II)I"⟩, prog_8_method_7_code, 3, (Option.some FieldType.int), [])
abbrev y_Mo_init : zx_Y := (⟨"LogHouseModel", "<init>", "()V"⟩, prog_12_method_1_code, 3, (Option.none : Option FieldType), [])
abbrev y_Mo_times : zx_Y := (⟨"LogHouseModel", "times", "(II)I"⟩, prog_12_method_2_code, 5, (Option.some FieldType.int), [])
abbrev y_Mo_thrown : zx_Y := (⟨"LogHouseModel", "thrown", "()I"⟩, prog_12_method_25_code, 1, (Option.some FieldType.int), [])
abbrev y_Mo_byteIn : zx_Y := (⟨"LogHouseModel", "byteIn", "(III)Z"⟩, prog_12_method_28_code, 5, (Option.some FieldType.boolean), [])
abbrev y_Mo_noProposer : zx_Y := (⟨"LogHouseModel", "noProposer", "(I)Z"⟩, prog_12_method_26_code, 1, (Option.some FieldType.boolean), [])
abbrev y_Mo_campaign : zx_Y := (⟨"LogHouseModel", "campaign", "(I)I"⟩, prog_12_method_29_code, 5, (Option.some FieldType.int), [])
abbrev y_Mo_prepare : zx_Y := (⟨"LogHouseModel", "prepare", "(II)I"⟩, prog_12_method_10_code, 3, (Option.some FieldType.int), [])
abbrev y_Mo_letter4 : zx_Y := (⟨"LogHouseModel", "letter4", "(IIII)Z"⟩, prog_12_method_9_code, 6, (Option.some FieldType.boolean), [])
abbrev y_Mo_propose : zx_Y := (⟨"LogHouseModel", "propose", "(I)I"⟩, prog_12_method_30_code, 3, (Option.some FieldType.int), [])
abbrev y_Mo_firstFree : zx_Y := (⟨"LogHouseModel", "firstFree", "(I)I"⟩, prog_12_method_24_code, 3, (Option.some FieldType.int), [])
abbrev y_Mo_putForward : zx_Y := (⟨"LogHouseModel", "putForward", "(III[III)V"⟩, prog_12_method_19_code, 9, (Option.none : Option FieldType), [])
abbrev y_Mo_acceptAll : zx_Y := (⟨"LogHouseModel", "acceptAll", "(II)I"⟩, prog_12_method_12_code, 5, (Option.some FieldType.int), [])
abbrev y_Mo_accept : zx_Y := (⟨"LogHouseModel", "accept", "(III)I"⟩, prog_12_method_11_code, 7, (Option.some FieldType.int), [])
abbrev y_Mo_third : zx_Y := (⟨"LogHouseModel", "third", "(I)I"⟩, prog_12_method_4_code, 1, (Option.some FieldType.int), [])
abbrev y_Mo_shareByte : zx_Y := (⟨"LogHouseModel", "shareByte", "([IIIII)I"⟩, prog_12_method_5_code, 11, (Option.some FieldType.int), [])
abbrev y_Mo_product : zx_Y := (⟨"LogHouseModel", "product", "(II)I"⟩, prog_12_method_3_code, 3, (Option.some FieldType.int), [])
abbrev y_Mo_resend : zx_Y := (⟨"LogHouseModel", "resend", "(I)I"⟩, prog_12_method_31_code, 5, (Option.some FieldType.int), [])
abbrev y_Mo_deliver : zx_Y := (⟨"LogHouseModel", "deliver", "(I)I"⟩, prog_12_method_33_code, 3, (Option.some FieldType.int), [])
abbrev y_Mo_noLetter : zx_Y := (⟨"LogHouseModel", "noLetter", "(I)Z"⟩, prog_12_method_32_code, 2, (Option.some FieldType.boolean), [])
abbrev y_Mo_remove : zx_Y := (⟨"LogHouseModel", "remove", "(I)V"⟩, prog_12_method_13_code, 3, (Option.none : Option FieldType), [])
abbrev y_Mo_comes : zx_Y := (⟨"LogHouseModel", "comes", "()I"⟩, prog_12_method_14_code, 5, (Option.some FieldType.int), [])
abbrev y_Mo_promiseComes : zx_Y := (⟨"LogHouseModel", "promiseComes", "(II)I"⟩, prog_12_method_16_code, 5, (Option.some FieldType.int), [])
abbrev y_Mo_bits : zx_Y := (⟨"LogHouseModel", "bits", "(I)I"⟩, prog_12_method_15_code, 3, (Option.some FieldType.int), [])
abbrev y_Mo_again : zx_Y := (⟨"LogHouseModel", "again", "(II)Z"⟩, prog_12_method_18_code, 10, (Option.some FieldType.boolean), [])
abbrev y_Mo_heardAt : zx_Y := (⟨"LogHouseModel", "heardAt", "(III)I"⟩, prog_12_method_17_code, 3, (Option.some FieldType.int), [])
abbrev y_Mo_together : zx_Y := (⟨"LogHouseModel", "together", "([IIII)I"⟩, prog_12_method_8_code, 9, (Option.some FieldType.int), [])
abbrev y_Mo_solve : zx_Y := (⟨"LogHouseModel", "solve", "(III)V"⟩, prog_12_method_7_code, 10, (Option.none : Option FieldType), [])
abbrev y_Mo_inverse : zx_Y := (⟨"LogHouseModel", "inverse", "(I)I"⟩, prog_12_method_6_code, 3, (Option.some FieldType.int), [])
abbrev y_Mo_acceptedComes : zx_Y := (⟨"LogHouseModel", "acceptedComes", "(II)V"⟩, prog_12_method_20_code, 4, (Option.none : Option FieldType), [])
abbrev y_Mo_drop : zx_Y := (⟨"LogHouseModel", "drop", "(I)V"⟩, prog_12_method_34_code, 2, (Option.none : Option FieldType), [])
abbrev y_Mo_twin : zx_Y := (⟨"LogHouseModel", "twin", "(I)V"⟩, prog_12_method_35_code, 3, (Option.none : Option FieldType), [])
abbrev y_Mo_letters : zx_Y := (⟨"LogHouseModel", "letters", "()I"⟩, prog_12_method_36_code, 1, (Option.some FieldType.int), [])
abbrev y_Mo_letter : zx_Y := (⟨"LogHouseModel", "letter", "(II)I"⟩, prog_12_method_37_code, 3, (Option.some FieldType.int), [])
abbrev y_Mo_up : zx_Y := (⟨"LogHouseModel", "up", "(IZ)Z"⟩, prog_12_method_38_code, 4, (Option.some FieldType.boolean), [])
abbrev y_Mo_noStation : zx_Y := (⟨"LogHouseModel", "noStation", "(I)Z"⟩, prog_12_method_27_code, 1, (Option.some FieldType.boolean), [])
abbrev y_Mo_wipe : zx_Y := (⟨"LogHouseModel", "wipe", "(I)V"⟩, prog_12_method_39_code, 3, (Option.none : Option FieldType), [])
abbrev y_Mo_catchUp : zx_Y := (⟨"LogHouseModel", "catchUp", "(II)I"⟩, prog_12_method_40_code, 9, (Option.some FieldType.int), [])
abbrev y_Mo_findThree : zx_Y := (⟨"LogHouseModel", "findThree", "(III)Z"⟩, prog_12_method_22_code, 6, (Option.some FieldType.boolean), [])
abbrev y_Mo_hasOf : zx_Y := (⟨"LogHouseModel", "hasOf", "(III)Z"⟩, prog_12_method_21_code, 5, (Option.some FieldType.boolean), [])
abbrev y_Mo_fromThree : zx_Y := (⟨"LogHouseModel", "fromThree", "(I)I"⟩, prog_12_method_23_code, 2, (Option.some FieldType.int), [])
abbrev y_Mo_decided : zx_Y := (⟨"LogHouseModel", "decided", "(II)I"⟩, prog_12_method_41_code, 3, (Option.some FieldType.int), [])
abbrev y_Mo_read : zx_Y := (⟨"LogHouseModel", "read", "(II)I"⟩, prog_12_method_42_code, 5, (Option.some FieldType.int), [])
abbrev y_Mo_readByte : zx_Y := (⟨"LogHouseModel", "readByte", "(I)I"⟩, prog_12_method_43_code, 2, (Option.some FieldType.int), [])
abbrev y_Mo_state : zx_Y := (⟨"LogHouseModel", "state", "(II)I"⟩, prog_12_method_44_code, 3, (Option.some FieldType.int), [])
abbrev y_Mo_station : zx_Y := (⟨"LogHouseModel", "station", "(II)I"⟩, prog_12_method_45_code, 5, (Option.some FieldType.int), [])
abbrev y_Mo_share : zx_Y := (⟨"LogHouseModel", "share", "(III)I"⟩, prog_12_method_46_code, 6, (Option.some FieldType.int), [])
theorem f_Ho_11 : zx_fr (zn_G l D ar b Z) "LogHouse" 11 0 0 := ⟨_, _, _, rfl, by decide, zn_uHo, zn_w253⟩
theorem p_Ho_11 : zx_f (zn_G l D ar b Z) "LogHouse" 11 0 0 (.array (.object "LogHouse$Station")) true := ⟨_, _, _, zn_tHo, rfl, by decide, zn_uHo, zn_oHo, zn_nHo, by decide +kernel, rfl, fun _ => rfl, zn_w253⟩
theorem f_Ho_18 : zx_fr (zn_G l D ar b Z) "LogHouse" 18 0 1 := ⟨_, _, _, rfl, by decide, zn_uHo, zn_w254⟩
theorem p_Ho_18 : zx_f (zn_G l D ar b Z) "LogHouse" 18 0 1 (.array (.object "LogHouse$Proposer")) true := ⟨_, _, _, zn_tHo, rfl, by decide, zn_uHo, zn_oHo, zn_nHo, by decide +kernel, rfl, fun _ => rfl, zn_w254⟩
theorem f_Ho_28 : zx_fr (zn_G l D ar b Z) "LogHouse" 28 0 2 := ⟨_, _, _, rfl, by decide, zn_uHo, zn_w255⟩
theorem p_Ho_28 : zx_f (zn_G l D ar b Z) "LogHouse" 28 0 2 (.object "LogHouse$Row") true := ⟨_, _, _, zn_tHo, rfl, by decide, zn_uHo, zn_oHo, zn_nHo, by decide +kernel, rfl, fun _ => rfl, zn_w255⟩
theorem f_Ho_35 : zx_fr (zn_G l D ar b Z) "LogHouse" 35 0 3 := ⟨_, _, _, rfl, by decide, zn_uHo, zn_w256⟩
theorem p_Ho_35 : zx_f (zn_G l D ar b Z) "LogHouse" 35 0 3 (.object "LogHouse$Gathering") true := ⟨_, _, _, zn_tHo, rfl, by decide, zn_uHo, zn_oHo, zn_nHo, by decide +kernel, rfl, fun _ => rfl, zn_w256⟩
theorem f_Ho_42 : zx_fr (zn_G l D ar b Z) "LogHouse" 42 0 4 := ⟨_, _, _, rfl, by decide, zn_uHo, zn_w257⟩
theorem p_Ho_42 : zx_f (zn_G l D ar b Z) "LogHouse" 42 0 4 (.object "LogHouse$Report") true := ⟨_, _, _, zn_tHo, rfl, by decide, zn_uHo, zn_oHo, zn_nHo, by decide +kernel, rfl, fun _ => rfl, zn_w257⟩
theorem f_Ho_46 : zx_fr (zn_G l D ar b Z) "LogHouse" 46 0 5 := ⟨_, _, _, rfl, by decide, zn_uHo, zn_w258⟩
theorem p_Ho_46 : zx_f (zn_G l D ar b Z) "LogHouse" 46 0 5 (.object "LogHouse$Report") true := ⟨_, _, _, zn_tHo, rfl, by decide, zn_uHo, zn_oHo, zn_nHo, by decide +kernel, rfl, fun _ => rfl, zn_w258⟩
theorem f_Ho_71 : zx_fr (zn_G l D ar b Z) "LogHouse" 71 3 2 := ⟨_, _, _, rfl, by decide, zn_uPr, zn_w136⟩
theorem p_Ho_71 : zx_f (zn_G l D ar b Z) "LogHouse" 71 3 2 (.int) false := ⟨_, _, _, zn_tPr, rfl, by decide, zn_uPr, zn_oPr, zn_nPr, by decide +kernel, rfl, (fun h => by cases h), zn_w136⟩
theorem f_Ho_78 : zx_fr (zn_G l D ar b Z) "LogHouse" 78 3 4 := ⟨_, _, _, rfl, by decide, zn_uPr, zn_w140⟩
theorem p_Ho_78 : zx_f (zn_G l D ar b Z) "LogHouse" 78 3 4 (.int) false := ⟨_, _, _, zn_tPr, rfl, by decide, zn_uPr, zn_oPr, zn_nPr, by decide +kernel, rfl, (fun h => by cases h), zn_w140⟩
theorem f_Ho_91 : zx_fr (zn_G l D ar b Z) "LogHouse" 91 6 0 := ⟨_, _, _, rfl, by decide, zn_uRo, zn_w220⟩
theorem p_Ho_91 : zx_f (zn_G l D ar b Z) "LogHouse" 91 6 0 (.int) false := ⟨_, _, _, zn_tRo, rfl, by decide, zn_uRo, zn_oRo, zn_nRo, by decide +kernel, rfl, (fun h => by cases h), zn_w220⟩
theorem f_Ho_94 : zx_fr (zn_G l D ar b Z) "LogHouse" 94 3 1 := ⟨_, _, _, rfl, by decide, zn_uPr, zn_w134⟩
theorem p_Ho_94 : zx_f (zn_G l D ar b Z) "LogHouse" 94 3 1 (.int) false := ⟨_, _, _, zn_tPr, rfl, by decide, zn_uPr, zn_oPr, zn_nPr, by decide +kernel, rfl, (fun h => by cases h), zn_w134⟩
theorem f_Ho_107 : zx_fr (zn_G l D ar b Z) "LogHouse" 107 7 0 := ⟨_, _, _, rfl, by decide, zn_uLe, zn_w178⟩
theorem p_Ho_107 : zx_f (zn_G l D ar b Z) "LogHouse" 107 7 0 (.int) false := ⟨_, _, _, zn_tLe, rfl, by decide, zn_uLe, zn_oLe, zn_nLe, by decide +kernel, rfl, (fun h => by cases h), zn_w178⟩
theorem f_Ho_122 : zx_fr (zn_G l D ar b Z) "LogHouse" 122 7 2 := ⟨_, _, _, rfl, by decide, zn_uLe, zn_w183⟩
theorem p_Ho_122 : zx_f (zn_G l D ar b Z) "LogHouse" 122 7 2 (.int) false := ⟨_, _, _, zn_tLe, rfl, by decide, zn_uLe, zn_oLe, zn_nLe, by decide +kernel, rfl, (fun h => by cases h), zn_w183⟩
theorem f_Ho_132 : zx_fr (zn_G l D ar b Z) "LogHouse" 132 6 1 := ⟨_, _, _, rfl, by decide, zn_uRo, zn_w222⟩
theorem f_Ho_139 : zx_fr (zn_G l D ar b Z) "LogHouse" 139 7 1 := ⟨_, _, _, rfl, by decide, zn_uLe, zn_w181⟩
theorem p_Ho_139 : zx_f (zn_G l D ar b Z) "LogHouse" 139 7 1 (.int) false := ⟨_, _, _, zn_tLe, rfl, by decide, zn_uLe, zn_oLe, zn_nLe, by decide +kernel, rfl, (fun h => by cases h), zn_w181⟩
theorem f_Ho_142 : zx_fr (zn_G l D ar b Z) "LogHouse" 142 7 3 := ⟨_, _, _, rfl, by decide, zn_uLe, zn_w186⟩
theorem p_Ho_142 : zx_f (zn_G l D ar b Z) "LogHouse" 142 7 3 (.int) false := ⟨_, _, _, zn_tLe, rfl, by decide, zn_uLe, zn_oLe, zn_nLe, by decide +kernel, rfl, (fun h => by cases h), zn_w186⟩
theorem f_Ho_143 : zx_fr (zn_G l D ar b Z) "LogHouse" 143 7 4 := ⟨_, _, _, rfl, by decide, zn_uLe, zn_w189⟩
theorem p_Ho_143 : zx_f (zn_G l D ar b Z) "LogHouse" 143 7 4 (.int) false := ⟨_, _, _, zn_tLe, rfl, by decide, zn_uLe, zn_oLe, zn_nLe, by decide +kernel, rfl, (fun h => by cases h), zn_w189⟩
theorem f_Ho_146 : zx_fr (zn_G l D ar b Z) "LogHouse" 146 7 5 := ⟨_, _, _, rfl, by decide, zn_uLe, zn_w192⟩
theorem p_Ho_146 : zx_f (zn_G l D ar b Z) "LogHouse" 146 7 5 (.int) false := ⟨_, _, _, zn_tLe, rfl, by decide, zn_uLe, zn_oLe, zn_nLe, by decide +kernel, rfl, (fun h => by cases h), zn_w192⟩
theorem f_Ho_155 : zx_fr (zn_G l D ar b Z) "LogHouse" 155 1 1 := ⟨_, _, _, rfl, by decide, zn_uSt, zn_w67⟩
theorem p_Ho_155 : zx_f (zn_G l D ar b Z) "LogHouse" 155 1 1 (.boolean) false := ⟨_, _, _, zn_tSt, rfl, by decide, zn_uSt, zn_oSt, zn_nSt, by decide +kernel, rfl, (fun h => by cases h), zn_w67⟩
theorem f_Ho_162 : zx_fr (zn_G l D ar b Z) "LogHouse" 162 1 2 := ⟨_, _, _, rfl, by decide, zn_uSt, zn_w69⟩
theorem p_Ho_162 : zx_f (zn_G l D ar b Z) "LogHouse" 162 1 2 (.boolean) false := ⟨_, _, _, zn_tSt, rfl, by decide, zn_uSt, zn_oSt, zn_nSt, by decide +kernel, rfl, (fun h => by cases h), zn_w69⟩
theorem f_Ho_165 : zx_fr (zn_G l D ar b Z) "LogHouse" 165 3 7 := ⟨_, _, _, rfl, by decide, zn_uPr, zn_w144⟩
theorem f_Ho_169 : zx_fr (zn_G l D ar b Z) "LogHouse" 169 4 0 := ⟨_, _, _, rfl, by decide, zn_uSp, zn_w115⟩
theorem p_Ho_169 : zx_f (zn_G l D ar b Z) "LogHouse" 169 4 0 (.int) false := ⟨_, _, _, zn_tSp, rfl, by decide, zn_uSp, zn_oSp, zn_nSp, by decide +kernel, rfl, (fun h => by cases h), zn_w115⟩
theorem f_Ho_174 : zx_fr (zn_G l D ar b Z) "LogHouse" 174 1 3 := ⟨_, _, _, rfl, by decide, zn_uSt, zn_w71⟩
theorem f_Ho_190 : zx_fr (zn_G l D ar b Z) "LogHouse" 190 5 0 := ⟨_, _, _, rfl, by decide, zn_uRe, zn_w106⟩
theorem p_Ho_190 : zx_f (zn_G l D ar b Z) "LogHouse" 190 5 0 (.int) false := ⟨_, _, _, zn_tRe, rfl, by decide, zn_uRe, zn_oRe, zn_nRe, by decide +kernel, rfl, (fun h => by cases h), zn_w106⟩
theorem f_Ho_214 : zx_fr (zn_G l D ar b Z) "LogHouse" 214 3 3 := ⟨_, _, _, rfl, by decide, zn_uPr, zn_w138⟩
theorem p_Ho_214 : zx_f (zn_G l D ar b Z) "LogHouse" 214 3 3 (.int) false := ⟨_, _, _, zn_tPr, rfl, by decide, zn_uPr, zn_oPr, zn_nPr, by decide +kernel, rfl, (fun h => by cases h), zn_w138⟩
theorem f_Ho_222 : zx_fr (zn_G l D ar b Z) "LogHouse" 222 1 0 := ⟨_, _, _, rfl, by decide, zn_uSt, zn_w65⟩
theorem p_Ho_222 : zx_f (zn_G l D ar b Z) "LogHouse" 222 1 0 (.int) false := ⟨_, _, _, zn_tSt, rfl, by decide, zn_uSt, zn_oSt, zn_nSt, by decide +kernel, rfl, (fun h => by cases h), zn_w65⟩
theorem f_Ho_228 : zx_fr (zn_G l D ar b Z) "LogHouse" 228 2 0 := ⟨_, _, _, rfl, by decide, zn_uSh, zn_w43⟩
theorem f_Ho_232 : zx_fr (zn_G l D ar b Z) "LogHouse" 232 2 1 := ⟨_, _, _, rfl, by decide, zn_uSh, zn_w47⟩
theorem f_Ho_235 : zx_fr (zn_G l D ar b Z) "LogHouse" 235 2 2 := ⟨_, _, _, rfl, by decide, zn_uSh, zn_w50⟩
theorem f_Ho_250 : zx_fr (zn_G l D ar b Z) "LogHouse" 250 3 0 := ⟨_, _, _, rfl, by decide, zn_uPr, zn_w132⟩
theorem f_Ho_264 : zx_fr (zn_G l D ar b Z) "LogHouse" 264 4 1 := ⟨_, _, _, rfl, by decide, zn_uSp, zn_w117⟩
theorem p_Ho_264 : zx_f (zn_G l D ar b Z) "LogHouse" 264 4 1 (.int) false := ⟨_, _, _, zn_tSp, rfl, by decide, zn_uSp, zn_oSp, zn_nSp, by decide +kernel, rfl, (fun h => by cases h), zn_w117⟩
theorem f_Ho_271 : zx_fr (zn_G l D ar b Z) "LogHouse" 271 4 3 := ⟨_, _, _, rfl, by decide, zn_uSp, zn_w121⟩
theorem f_Ho_274 : zx_fr (zn_G l D ar b Z) "LogHouse" 274 7 6 := ⟨_, _, _, rfl, by decide, zn_uLe, zn_w194⟩
theorem p_Ho_274 : zx_f (zn_G l D ar b Z) "LogHouse" 274 7 6 (.int) false := ⟨_, _, _, zn_tLe, rfl, by decide, zn_uLe, zn_oLe, zn_nLe, by decide +kernel, rfl, (fun h => by cases h), zn_w194⟩
theorem f_Ho_275 : zx_fr (zn_G l D ar b Z) "LogHouse" 275 7 7 := ⟨_, _, _, rfl, by decide, zn_uLe, zn_w196⟩
theorem p_Ho_275 : zx_f (zn_G l D ar b Z) "LogHouse" 275 7 7 (.long) false := ⟨_, _, _, zn_tLe, rfl, by decide, zn_uLe, zn_oLe, zn_nLe, by decide +kernel, rfl, (fun h => by cases h), zn_w196⟩
theorem f_Ho_282 : zx_fr (zn_G l D ar b Z) "LogHouse" 282 7 8 := ⟨_, _, _, rfl, by decide, zn_uLe, zn_w199⟩
theorem f_Ho_299 : zx_fr (zn_G l D ar b Z) "LogHouse" 299 8 0 := ⟨_, _, _, rfl, by decide, zn_uGa, zn_w235⟩
theorem p_Ho_299 : zx_f (zn_G l D ar b Z) "LogHouse" 299 8 0 (.int) false := ⟨_, _, _, zn_tGa, rfl, by decide, zn_uGa, zn_oGa, zn_nGa, by decide +kernel, rfl, (fun h => by cases h), zn_w235⟩
theorem f_Ga_9 : zx_fr (zn_G l D ar b Z) "LogHouse$Gathering" 9 8 3 := ⟨_, _, _, rfl, by decide, zn_uGa, zn_w238⟩
theorem p_Ga_9 : zx_f (zn_G l D ar b Z) "LogHouse$Gathering" 9 8 3 (.array .int) true := ⟨_, _, _, zn_tGa, rfl, by decide, zn_uGa, zn_oGa, zn_nGa, by decide +kernel, rfl, fun _ => rfl, zn_w238⟩
theorem f_Ga_15 : zx_fr (zn_G l D ar b Z) "LogHouse$Gathering" 15 8 4 := ⟨_, _, _, rfl, by decide, zn_uGa, zn_w239⟩
theorem p_Ga_15 : zx_f (zn_G l D ar b Z) "LogHouse$Gathering" 15 8 4 (.array .long) true := ⟨_, _, _, zn_tGa, rfl, by decide, zn_uGa, zn_oGa, zn_nGa, by decide +kernel, rfl, fun _ => rfl, zn_w239⟩
theorem f_Ga_19 : zx_fr (zn_G l D ar b Z) "LogHouse$Gathering" 19 8 0 := ⟨_, _, _, rfl, by decide, zn_uGa, zn_w234⟩
theorem p_Ga_19 : zx_f (zn_G l D ar b Z) "LogHouse$Gathering" 19 8 0 (.int) false := ⟨_, _, _, zn_tGa, rfl, by decide, zn_uGa, zn_oGa, zn_nGa, by decide +kernel, rfl, (fun h => by cases h), zn_w234⟩
theorem f_Ga_23 : zx_fr (zn_G l D ar b Z) "LogHouse$Gathering" 23 8 1 := ⟨_, _, _, rfl, by decide, zn_uGa, zn_w236⟩
theorem p_Ga_23 : zx_f (zn_G l D ar b Z) "LogHouse$Gathering" 23 8 1 (.int) false := ⟨_, _, _, zn_tGa, rfl, by decide, zn_uGa, zn_oGa, zn_nGa, by decide +kernel, rfl, (fun h => by cases h), zn_w236⟩
theorem f_Ga_26 : zx_fr (zn_G l D ar b Z) "LogHouse$Gathering" 26 8 2 := ⟨_, _, _, rfl, by decide, zn_uGa, zn_w237⟩
theorem p_Ga_26 : zx_f (zn_G l D ar b Z) "LogHouse$Gathering" 26 8 2 (.int) false := ⟨_, _, _, zn_tGa, rfl, by decide, zn_uGa, zn_oGa, zn_nGa, by decide +kernel, rfl, (fun h => by cases h), zn_w237⟩
theorem f_Ga_35 : zx_fr (zn_G l D ar b Z) "LogHouse$Gathering" 35 2 1 := ⟨_, _, _, rfl, by decide, zn_uSh, zn_w45⟩
theorem f_Ga_38 : zx_fr (zn_G l D ar b Z) "LogHouse$Gathering" 38 2 2 := ⟨_, _, _, rfl, by decide, zn_uSh, zn_w49⟩
theorem f_Ga_47 : zx_fr (zn_G l D ar b Z) "LogHouse$Gathering" 47 2 3 := ⟨_, _, _, rfl, by decide, zn_uSh, zn_w52⟩
theorem f_Ga_48 : zx_fr (zn_G l D ar b Z) "LogHouse$Gathering" 48 5 0 := ⟨_, _, _, rfl, by decide, zn_uRe, zn_w105⟩
theorem p_Ga_48 : zx_f (zn_G l D ar b Z) "LogHouse$Gathering" 48 5 0 (.int) false := ⟨_, _, _, zn_tRe, rfl, by decide, zn_uRe, zn_oRe, zn_nRe, by decide +kernel, rfl, (fun h => by cases h), zn_w105⟩
theorem f_Le_12 : zx_fr (zn_G l D ar b Z) "LogHouse$Letter" 12 7 8 := ⟨_, _, _, rfl, by decide, zn_uLe, zn_w197⟩
theorem p_Le_12 : zx_f (zn_G l D ar b Z) "LogHouse$Letter" 12 7 8 (.object "LogHouse$Shelf") true := ⟨_, _, _, zn_tLe, rfl, by decide, zn_uLe, zn_oLe, zn_nLe, by decide +kernel, rfl, fun _ => rfl, zn_w197⟩
theorem f_Le_18 : zx_fr (zn_G l D ar b Z) "LogHouse$Letter" 18 7 0 := ⟨_, _, _, rfl, by decide, zn_uLe, zn_w177⟩
theorem p_Le_18 : zx_f (zn_G l D ar b Z) "LogHouse$Letter" 18 7 0 (.int) false := ⟨_, _, _, zn_tLe, rfl, by decide, zn_uLe, zn_oLe, zn_nLe, by decide +kernel, rfl, (fun h => by cases h), zn_w177⟩
theorem f_Le_22 : zx_fr (zn_G l D ar b Z) "LogHouse$Letter" 22 7 1 := ⟨_, _, _, rfl, by decide, zn_uLe, zn_w179⟩
theorem p_Le_22 : zx_f (zn_G l D ar b Z) "LogHouse$Letter" 22 7 1 (.int) false := ⟨_, _, _, zn_tLe, rfl, by decide, zn_uLe, zn_oLe, zn_nLe, by decide +kernel, rfl, (fun h => by cases h), zn_w179⟩
theorem f_Le_25 : zx_fr (zn_G l D ar b Z) "LogHouse$Letter" 25 7 2 := ⟨_, _, _, rfl, by decide, zn_uLe, zn_w182⟩
theorem p_Le_25 : zx_f (zn_G l D ar b Z) "LogHouse$Letter" 25 7 2 (.int) false := ⟨_, _, _, zn_tLe, rfl, by decide, zn_uLe, zn_oLe, zn_nLe, by decide +kernel, rfl, (fun h => by cases h), zn_w182⟩
theorem f_Le_28 : zx_fr (zn_G l D ar b Z) "LogHouse$Letter" 28 7 3 := ⟨_, _, _, rfl, by decide, zn_uLe, zn_w184⟩
theorem p_Le_28 : zx_f (zn_G l D ar b Z) "LogHouse$Letter" 28 7 3 (.int) false := ⟨_, _, _, zn_tLe, rfl, by decide, zn_uLe, zn_oLe, zn_nLe, by decide +kernel, rfl, (fun h => by cases h), zn_w184⟩
theorem f_Le_31 : zx_fr (zn_G l D ar b Z) "LogHouse$Letter" 31 7 4 := ⟨_, _, _, rfl, by decide, zn_uLe, zn_w187⟩
theorem p_Le_31 : zx_f (zn_G l D ar b Z) "LogHouse$Letter" 31 7 4 (.int) false := ⟨_, _, _, zn_tLe, rfl, by decide, zn_uLe, zn_oLe, zn_nLe, by decide +kernel, rfl, (fun h => by cases h), zn_w187⟩
theorem f_Le_34 : zx_fr (zn_G l D ar b Z) "LogHouse$Letter" 34 7 5 := ⟨_, _, _, rfl, by decide, zn_uLe, zn_w190⟩
theorem p_Le_34 : zx_f (zn_G l D ar b Z) "LogHouse$Letter" 34 7 5 (.int) false := ⟨_, _, _, zn_tLe, rfl, by decide, zn_uLe, zn_oLe, zn_nLe, by decide +kernel, rfl, (fun h => by cases h), zn_w190⟩
theorem f_Le_45 : zx_fr (zn_G l D ar b Z) "LogHouse$Letter" 45 7 6 := ⟨_, _, _, rfl, by decide, zn_uLe, zn_w193⟩
theorem p_Le_45 : zx_f (zn_G l D ar b Z) "LogHouse$Letter" 45 7 6 (.int) false := ⟨_, _, _, zn_tLe, rfl, by decide, zn_uLe, zn_oLe, zn_nLe, by decide +kernel, rfl, (fun h => by cases h), zn_w193⟩
theorem f_Le_48 : zx_fr (zn_G l D ar b Z) "LogHouse$Letter" 48 7 7 := ⟨_, _, _, rfl, by decide, zn_uLe, zn_w195⟩
theorem p_Le_48 : zx_f (zn_G l D ar b Z) "LogHouse$Letter" 48 7 7 (.long) false := ⟨_, _, _, zn_tLe, rfl, by decide, zn_uLe, zn_oLe, zn_nLe, by decide +kernel, rfl, (fun h => by cases h), zn_w195⟩
theorem f_Pr_9 : zx_fr (zn_G l D ar b Z) "LogHouse$Proposer" 9 3 1 := ⟨_, _, _, rfl, by decide, zn_uPr, zn_w133⟩
theorem p_Pr_9 : zx_f (zn_G l D ar b Z) "LogHouse$Proposer" 9 3 1 (.int) false := ⟨_, _, _, zn_tPr, rfl, by decide, zn_uPr, zn_oPr, zn_nPr, by decide +kernel, rfl, (fun h => by cases h), zn_w133⟩
theorem f_Pr_15 : zx_fr (zn_G l D ar b Z) "LogHouse$Proposer" 15 3 5 := ⟨_, _, _, rfl, by decide, zn_uPr, zn_w141⟩
theorem p_Pr_15 : zx_f (zn_G l D ar b Z) "LogHouse$Proposer" 15 3 5 (.array .byte) true := ⟨_, _, _, zn_tPr, rfl, by decide, zn_uPr, zn_oPr, zn_nPr, by decide +kernel, rfl, fun _ => rfl, zn_w141⟩
theorem f_Pr_21 : zx_fr (zn_G l D ar b Z) "LogHouse$Proposer" 21 3 6 := ⟨_, _, _, rfl, by decide, zn_uPr, zn_w142⟩
theorem p_Pr_21 : zx_f (zn_G l D ar b Z) "LogHouse$Proposer" 21 3 6 (.array (.object "LogHouse$Shelf")) true := ⟨_, _, _, zn_tPr, rfl, by decide, zn_uPr, zn_oPr, zn_nPr, by decide +kernel, rfl, fun _ => rfl, zn_w142⟩
theorem f_Pr_27 : zx_fr (zn_G l D ar b Z) "LogHouse$Proposer" 27 3 7 := ⟨_, _, _, rfl, by decide, zn_uPr, zn_w143⟩
theorem p_Pr_27 : zx_f (zn_G l D ar b Z) "LogHouse$Proposer" 27 3 7 (.array (.object "LogHouse$Spot")) true := ⟨_, _, _, zn_tPr, rfl, by decide, zn_uPr, zn_oPr, zn_nPr, by decide +kernel, rfl, fun _ => rfl, zn_w143⟩
theorem f_Pr_31 : zx_fr (zn_G l D ar b Z) "LogHouse$Proposer" 31 3 0 := ⟨_, _, _, rfl, by decide, zn_uPr, zn_w131⟩
theorem p_Pr_31 : zx_f (zn_G l D ar b Z) "LogHouse$Proposer" 31 3 0 (.int) true := ⟨_, _, _, zn_tPr, rfl, by decide, zn_uPr, zn_oPr, zn_nPr, by decide +kernel, rfl, fun _ => rfl, zn_w131⟩
theorem f_Pr_36 : zx_fr (zn_G l D ar b Z) "LogHouse$Proposer" 36 3 4 := ⟨_, _, _, rfl, by decide, zn_uPr, zn_w139⟩
theorem p_Pr_36 : zx_f (zn_G l D ar b Z) "LogHouse$Proposer" 36 3 4 (.int) false := ⟨_, _, _, zn_tPr, rfl, by decide, zn_uPr, zn_oPr, zn_nPr, by decide +kernel, rfl, (fun h => by cases h), zn_w139⟩
theorem f_Pr_39 : zx_fr (zn_G l D ar b Z) "LogHouse$Proposer" 39 3 2 := ⟨_, _, _, rfl, by decide, zn_uPr, zn_w135⟩
theorem p_Pr_39 : zx_f (zn_G l D ar b Z) "LogHouse$Proposer" 39 3 2 (.int) false := ⟨_, _, _, zn_tPr, rfl, by decide, zn_uPr, zn_oPr, zn_nPr, by decide +kernel, rfl, (fun h => by cases h), zn_w135⟩
theorem f_Pr_48 : zx_fr (zn_G l D ar b Z) "LogHouse$Proposer" 48 3 3 := ⟨_, _, _, rfl, by decide, zn_uPr, zn_w137⟩
theorem p_Pr_48 : zx_f (zn_G l D ar b Z) "LogHouse$Proposer" 48 3 3 (.int) false := ⟨_, _, _, zn_tPr, rfl, by decide, zn_uPr, zn_oPr, zn_nPr, by decide +kernel, rfl, (fun h => by cases h), zn_w137⟩
theorem f_Pr_62 : zx_fr (zn_G l D ar b Z) "LogHouse$Proposer" 62 4 3 := ⟨_, _, _, rfl, by decide, zn_uSp, zn_w120⟩
theorem f_Pr_72 : zx_fr (zn_G l D ar b Z) "LogHouse$Proposer" 72 7 3 := ⟨_, _, _, rfl, by decide, zn_uLe, zn_w185⟩
theorem p_Pr_72 : zx_f (zn_G l D ar b Z) "LogHouse$Proposer" 72 7 3 (.int) false := ⟨_, _, _, zn_tLe, rfl, by decide, zn_uLe, zn_oLe, zn_nLe, by decide +kernel, rfl, (fun h => by cases h), zn_w185⟩
theorem f_Pr_75 : zx_fr (zn_G l D ar b Z) "LogHouse$Proposer" 75 7 1 := ⟨_, _, _, rfl, by decide, zn_uLe, zn_w180⟩
theorem p_Pr_75 : zx_f (zn_G l D ar b Z) "LogHouse$Proposer" 75 7 1 (.int) false := ⟨_, _, _, zn_tLe, rfl, by decide, zn_uLe, zn_oLe, zn_nLe, by decide +kernel, rfl, (fun h => by cases h), zn_w180⟩
theorem f_Pr_82 : zx_fr (zn_G l D ar b Z) "LogHouse$Proposer" 82 7 8 := ⟨_, _, _, rfl, by decide, zn_uLe, zn_w198⟩
theorem f_Pr_90 : zx_fr (zn_G l D ar b Z) "LogHouse$Proposer" 90 7 4 := ⟨_, _, _, rfl, by decide, zn_uLe, zn_w188⟩
theorem p_Pr_90 : zx_f (zn_G l D ar b Z) "LogHouse$Proposer" 90 7 4 (.int) false := ⟨_, _, _, zn_tLe, rfl, by decide, zn_uLe, zn_oLe, zn_nLe, by decide +kernel, rfl, (fun h => by cases h), zn_w188⟩
theorem f_Pr_93 : zx_fr (zn_G l D ar b Z) "LogHouse$Proposer" 93 7 5 := ⟨_, _, _, rfl, by decide, zn_uLe, zn_w191⟩
theorem p_Pr_93 : zx_f (zn_G l D ar b Z) "LogHouse$Proposer" 93 7 5 (.int) false := ⟨_, _, _, zn_tLe, rfl, by decide, zn_uLe, zn_oLe, zn_nLe, by decide +kernel, rfl, (fun h => by cases h), zn_w191⟩
theorem f_Pr_103 : zx_fr (zn_G l D ar b Z) "LogHouse$Proposer" 103 2 1 := ⟨_, _, _, rfl, by decide, zn_uSh, zn_w46⟩
theorem f_Re_9 : zx_fr (zn_G l D ar b Z) "LogHouse$Report" 9 5 1 := ⟨_, _, _, rfl, by decide, zn_uRe, zn_w107⟩
theorem p_Re_9 : zx_f (zn_G l D ar b Z) "LogHouse$Report" 9 5 1 (.array .long) true := ⟨_, _, _, zn_tRe, rfl, by decide, zn_uRe, zn_oRe, zn_nRe, by decide +kernel, rfl, fun _ => rfl, zn_w107⟩
theorem f_Re_15 : zx_fr (zn_G l D ar b Z) "LogHouse$Report" 15 5 0 := ⟨_, _, _, rfl, by decide, zn_uRe, zn_w104⟩
theorem p_Re_15 : zx_f (zn_G l D ar b Z) "LogHouse$Report" 15 5 0 (.int) false := ⟨_, _, _, zn_tRe, rfl, by decide, zn_uRe, zn_oRe, zn_nRe, by decide +kernel, rfl, (fun h => by cases h), zn_w104⟩
theorem f_Ro_11 : zx_fr (zn_G l D ar b Z) "LogHouse$Row" 11 6 1 := ⟨_, _, _, rfl, by decide, zn_uRo, zn_w221⟩
theorem p_Ro_11 : zx_f (zn_G l D ar b Z) "LogHouse$Row" 11 6 1 (.array (.object "LogHouse$Letter")) true := ⟨_, _, _, zn_tRo, rfl, by decide, zn_uRo, zn_oRo, zn_nRo, by decide +kernel, rfl, fun _ => rfl, zn_w221⟩
theorem f_Ro_18 : zx_fr (zn_G l D ar b Z) "LogHouse$Row" 18 6 0 := ⟨_, _, _, rfl, by decide, zn_uRo, zn_w219⟩
theorem p_Ro_18 : zx_f (zn_G l D ar b Z) "LogHouse$Row" 18 6 0 (.int) false := ⟨_, _, _, zn_tRo, rfl, by decide, zn_uRo, zn_oRo, zn_nRo, by decide +kernel, rfl, (fun h => by cases h), zn_w219⟩
theorem f_Sh_9 : zx_fr (zn_G l D ar b Z) "LogHouse$Shelf" 9 2 0 := ⟨_, _, _, rfl, by decide, zn_uSh, zn_w42⟩
theorem p_Sh_9 : zx_f (zn_G l D ar b Z) "LogHouse$Shelf" 9 2 0 (.array .int) true := ⟨_, _, _, zn_tSh, rfl, by decide, zn_uSh, zn_oSh, zn_nSh, by decide +kernel, rfl, fun _ => rfl, zn_w42⟩
theorem f_Sh_15 : zx_fr (zn_G l D ar b Z) "LogHouse$Shelf" 15 2 1 := ⟨_, _, _, rfl, by decide, zn_uSh, zn_w44⟩
theorem p_Sh_15 : zx_f (zn_G l D ar b Z) "LogHouse$Shelf" 15 2 1 (.array .int) true := ⟨_, _, _, zn_tSh, rfl, by decide, zn_uSh, zn_oSh, zn_nSh, by decide +kernel, rfl, fun _ => rfl, zn_w44⟩
theorem f_Sh_18 : zx_fr (zn_G l D ar b Z) "LogHouse$Shelf" 18 2 2 := ⟨_, _, _, rfl, by decide, zn_uSh, zn_w48⟩
theorem p_Sh_18 : zx_f (zn_G l D ar b Z) "LogHouse$Shelf" 18 2 2 (.array .int) true := ⟨_, _, _, zn_tSh, rfl, by decide, zn_uSh, zn_oSh, zn_nSh, by decide +kernel, rfl, fun _ => rfl, zn_w48⟩
theorem f_Sh_21 : zx_fr (zn_G l D ar b Z) "LogHouse$Shelf" 21 2 3 := ⟨_, _, _, rfl, by decide, zn_uSh, zn_w51⟩
theorem p_Sh_21 : zx_f (zn_G l D ar b Z) "LogHouse$Shelf" 21 2 3 (.array .long) true := ⟨_, _, _, zn_tSh, rfl, by decide, zn_uSh, zn_oSh, zn_nSh, by decide +kernel, rfl, fun _ => rfl, zn_w51⟩
theorem f_Sp_12 : zx_fr (zn_G l D ar b Z) "LogHouse$Spot" 12 4 3 := ⟨_, _, _, rfl, by decide, zn_uSp, zn_w119⟩
theorem p_Sp_12 : zx_f (zn_G l D ar b Z) "LogHouse$Spot" 12 4 3 (.object "LogHouse$Report") true := ⟨_, _, _, zn_tSp, rfl, by decide, zn_uSp, zn_oSp, zn_nSp, by decide +kernel, rfl, fun _ => rfl, zn_w119⟩
theorem f_Sp_18 : zx_fr (zn_G l D ar b Z) "LogHouse$Spot" 18 4 0 := ⟨_, _, _, rfl, by decide, zn_uSp, zn_w114⟩
theorem p_Sp_18 : zx_f (zn_G l D ar b Z) "LogHouse$Spot" 18 4 0 (.int) false := ⟨_, _, _, zn_tSp, rfl, by decide, zn_uSp, zn_oSp, zn_nSp, by decide +kernel, rfl, (fun h => by cases h), zn_w114⟩
theorem f_Sp_22 : zx_fr (zn_G l D ar b Z) "LogHouse$Spot" 22 4 1 := ⟨_, _, _, rfl, by decide, zn_uSp, zn_w116⟩
theorem p_Sp_22 : zx_f (zn_G l D ar b Z) "LogHouse$Spot" 22 4 1 (.int) false := ⟨_, _, _, zn_tSp, rfl, by decide, zn_uSp, zn_oSp, zn_nSp, by decide +kernel, rfl, (fun h => by cases h), zn_w116⟩
theorem f_Sp_25 : zx_fr (zn_G l D ar b Z) "LogHouse$Spot" 25 4 2 := ⟨_, _, _, rfl, by decide, zn_uSp, zn_w118⟩
theorem p_Sp_25 : zx_f (zn_G l D ar b Z) "LogHouse$Spot" 25 4 2 (.int) false := ⟨_, _, _, zn_tSp, rfl, by decide, zn_uSp, zn_oSp, zn_nSp, by decide +kernel, rfl, (fun h => by cases h), zn_w118⟩
theorem f_St_7 : zx_fr (zn_G l D ar b Z) "LogHouse$Station" 7 1 1 := ⟨_, _, _, rfl, by decide, zn_uSt, zn_w66⟩
theorem p_St_7 : zx_f (zn_G l D ar b Z) "LogHouse$Station" 7 1 1 (.boolean) false := ⟨_, _, _, zn_tSt, rfl, by decide, zn_uSt, zn_oSt, zn_nSt, by decide +kernel, rfl, (fun h => by cases h), zn_w66⟩
theorem f_St_16 : zx_fr (zn_G l D ar b Z) "LogHouse$Station" 16 1 3 := ⟨_, _, _, rfl, by decide, zn_uSt, zn_w70⟩
theorem p_St_16 : zx_f (zn_G l D ar b Z) "LogHouse$Station" 16 1 3 (.object "LogHouse$Shelf") true := ⟨_, _, _, zn_tSt, rfl, by decide, zn_uSt, zn_oSt, zn_nSt, by decide +kernel, rfl, fun _ => rfl, zn_w70⟩
theorem f_St_20 : zx_fr (zn_G l D ar b Z) "LogHouse$Station" 20 1 2 := ⟨_, _, _, rfl, by decide, zn_uSt, zn_w68⟩
theorem p_St_20 : zx_f (zn_G l D ar b Z) "LogHouse$Station" 20 1 2 (.boolean) false := ⟨_, _, _, zn_tSt, rfl, by decide, zn_uSt, zn_oSt, zn_nSt, by decide +kernel, rfl, (fun h => by cases h), zn_w68⟩
theorem f_St_23 : zx_fr (zn_G l D ar b Z) "LogHouse$Station" 23 1 0 := ⟨_, _, _, rfl, by decide, zn_uSt, zn_w64⟩
theorem p_St_23 : zx_f (zn_G l D ar b Z) "LogHouse$Station" 23 1 0 (.int) false := ⟨_, _, _, zn_tSt, rfl, by decide, zn_uSt, zn_oSt, zn_nSt, by decide +kernel, rfl, (fun h => by cases h), zn_w64⟩
theorem f_Mo_7 : zx_fr (zn_G l D ar b Z) "LogHouseModel" 7 9 0 := ⟨_, _, _, rfl, by decide, zn_uMo, zn_w770⟩
theorem p_Mo_7 : zx_f (zn_G l D ar b Z) "LogHouseModel" 7 9 0 (.int) false := ⟨_, _, _, zn_tMo, rfl, by decide, zn_uMo, zn_oMo, zn_nMo, by decide +kernel, rfl, (fun h => by cases h), zn_w770⟩
theorem f_Mo_13 : zx_fr (zn_G l D ar b Z) "LogHouseModel" 13 9 1 := ⟨_, _, _, rfl, by decide, zn_uMo, zn_w771⟩
theorem p_Mo_13 : zx_f (zn_G l D ar b Z) "LogHouseModel" 13 9 1 (.array .int) true := ⟨_, _, _, zn_tMo, rfl, by decide, zn_uMo, zn_oMo, zn_nMo, by decide +kernel, rfl, fun _ => rfl, zn_w771⟩
theorem f_Mo_17 : zx_fr (zn_G l D ar b Z) "LogHouseModel" 17 9 2 := ⟨_, _, _, rfl, by decide, zn_uMo, zn_w772⟩
theorem p_Mo_17 : zx_f (zn_G l D ar b Z) "LogHouseModel" 17 9 2 (.array .boolean) true := ⟨_, _, _, zn_tMo, rfl, by decide, zn_uMo, zn_oMo, zn_nMo, by decide +kernel, rfl, fun _ => rfl, zn_w772⟩
theorem f_Mo_21 : zx_fr (zn_G l D ar b Z) "LogHouseModel" 21 9 3 := ⟨_, _, _, rfl, by decide, zn_uMo, zn_w773⟩
theorem p_Mo_21 : zx_f (zn_G l D ar b Z) "LogHouseModel" 21 9 3 (.array .boolean) true := ⟨_, _, _, zn_tMo, rfl, by decide, zn_uMo, zn_oMo, zn_nMo, by decide +kernel, rfl, fun _ => rfl, zn_w773⟩
theorem f_Mo_24 : zx_fr (zn_G l D ar b Z) "LogHouseModel" 24 9 4 := ⟨_, _, _, rfl, by decide, zn_uMo, zn_w774⟩
theorem p_Mo_24 : zx_f (zn_G l D ar b Z) "LogHouseModel" 24 9 4 (.array .int) true := ⟨_, _, _, zn_tMo, rfl, by decide, zn_uMo, zn_oMo, zn_nMo, by decide +kernel, rfl, fun _ => rfl, zn_w774⟩
theorem f_Mo_27 : zx_fr (zn_G l D ar b Z) "LogHouseModel" 27 9 5 := ⟨_, _, _, rfl, by decide, zn_uMo, zn_w775⟩
theorem p_Mo_27 : zx_f (zn_G l D ar b Z) "LogHouseModel" 27 9 5 (.int) false := ⟨_, _, _, zn_tMo, rfl, by decide, zn_uMo, zn_oMo, zn_nMo, by decide +kernel, rfl, (fun h => by cases h), zn_w775⟩
theorem f_Mo_30 : zx_fr (zn_G l D ar b Z) "LogHouseModel" 30 9 6 := ⟨_, _, _, rfl, by decide, zn_uMo, zn_w776⟩
theorem p_Mo_30 : zx_f (zn_G l D ar b Z) "LogHouseModel" 30 9 6 (.array .int) true := ⟨_, _, _, zn_tMo, rfl, by decide, zn_uMo, zn_oMo, zn_nMo, by decide +kernel, rfl, fun _ => rfl, zn_w776⟩
theorem f_Mo_33 : zx_fr (zn_G l D ar b Z) "LogHouseModel" 33 9 7 := ⟨_, _, _, rfl, by decide, zn_uMo, zn_w777⟩
theorem p_Mo_33 : zx_f (zn_G l D ar b Z) "LogHouseModel" 33 9 7 (.array .int) true := ⟨_, _, _, zn_tMo, rfl, by decide, zn_uMo, zn_oMo, zn_nMo, by decide +kernel, rfl, fun _ => rfl, zn_w777⟩
theorem f_Mo_36 : zx_fr (zn_G l D ar b Z) "LogHouseModel" 36 9 8 := ⟨_, _, _, rfl, by decide, zn_uMo, zn_w778⟩
theorem p_Mo_36 : zx_f (zn_G l D ar b Z) "LogHouseModel" 36 9 8 (.array .int) true := ⟨_, _, _, zn_tMo, rfl, by decide, zn_uMo, zn_oMo, zn_nMo, by decide +kernel, rfl, fun _ => rfl, zn_w778⟩
theorem f_Mo_39 : zx_fr (zn_G l D ar b Z) "LogHouseModel" 39 9 9 := ⟨_, _, _, rfl, by decide, zn_uMo, zn_w779⟩
theorem p_Mo_39 : zx_f (zn_G l D ar b Z) "LogHouseModel" 39 9 9 (.array .int) true := ⟨_, _, _, zn_tMo, rfl, by decide, zn_uMo, zn_oMo, zn_nMo, by decide +kernel, rfl, fun _ => rfl, zn_w779⟩
theorem f_Mo_42 : zx_fr (zn_G l D ar b Z) "LogHouseModel" 42 9 10 := ⟨_, _, _, rfl, by decide, zn_uMo, zn_w780⟩
theorem p_Mo_42 : zx_f (zn_G l D ar b Z) "LogHouseModel" 42 9 10 (.array .int) true := ⟨_, _, _, zn_tMo, rfl, by decide, zn_uMo, zn_oMo, zn_nMo, by decide +kernel, rfl, fun _ => rfl, zn_w780⟩
theorem f_Mo_45 : zx_fr (zn_G l D ar b Z) "LogHouseModel" 45 9 11 := ⟨_, _, _, rfl, by decide, zn_uMo, zn_w781⟩
theorem p_Mo_45 : zx_f (zn_G l D ar b Z) "LogHouseModel" 45 9 11 (.array .int) true := ⟨_, _, _, zn_tMo, rfl, by decide, zn_uMo, zn_oMo, zn_nMo, by decide +kernel, rfl, fun _ => rfl, zn_w781⟩
theorem f_Mo_48 : zx_fr (zn_G l D ar b Z) "LogHouseModel" 48 9 12 := ⟨_, _, _, rfl, by decide, zn_uMo, zn_w782⟩
theorem p_Mo_48 : zx_f (zn_G l D ar b Z) "LogHouseModel" 48 9 12 (.array .int) true := ⟨_, _, _, zn_tMo, rfl, by decide, zn_uMo, zn_oMo, zn_nMo, by decide +kernel, rfl, fun _ => rfl, zn_w782⟩
theorem f_Mo_51 : zx_fr (zn_G l D ar b Z) "LogHouseModel" 51 9 13 := ⟨_, _, _, rfl, by decide, zn_uMo, zn_w783⟩
theorem p_Mo_51 : zx_f (zn_G l D ar b Z) "LogHouseModel" 51 9 13 (.array .int) true := ⟨_, _, _, zn_tMo, rfl, by decide, zn_uMo, zn_oMo, zn_nMo, by decide +kernel, rfl, fun _ => rfl, zn_w783⟩
theorem f_Mo_54 : zx_fr (zn_G l D ar b Z) "LogHouseModel" 54 9 14 := ⟨_, _, _, rfl, by decide, zn_uMo, zn_w784⟩
theorem p_Mo_54 : zx_f (zn_G l D ar b Z) "LogHouseModel" 54 9 14 (.array .int) true := ⟨_, _, _, zn_tMo, rfl, by decide, zn_uMo, zn_oMo, zn_nMo, by decide +kernel, rfl, fun _ => rfl, zn_w784⟩
theorem f_Mo_57 : zx_fr (zn_G l D ar b Z) "LogHouseModel" 57 9 15 := ⟨_, _, _, rfl, by decide, zn_uMo, zn_w785⟩
theorem p_Mo_57 : zx_f (zn_G l D ar b Z) "LogHouseModel" 57 9 15 (.array .int) true := ⟨_, _, _, zn_tMo, rfl, by decide, zn_uMo, zn_oMo, zn_nMo, by decide +kernel, rfl, fun _ => rfl, zn_w785⟩
theorem f_Mo_60 : zx_fr (zn_G l D ar b Z) "LogHouseModel" 60 9 16 := ⟨_, _, _, rfl, by decide, zn_uMo, zn_w786⟩
theorem p_Mo_60 : zx_f (zn_G l D ar b Z) "LogHouseModel" 60 9 16 (.array .int) true := ⟨_, _, _, zn_tMo, rfl, by decide, zn_uMo, zn_oMo, zn_nMo, by decide +kernel, rfl, fun _ => rfl, zn_w786⟩
theorem f_Mo_63 : zx_fr (zn_G l D ar b Z) "LogHouseModel" 63 9 17 := ⟨_, _, _, rfl, by decide, zn_uMo, zn_w787⟩
theorem p_Mo_63 : zx_f (zn_G l D ar b Z) "LogHouseModel" 63 9 17 (.array .int) true := ⟨_, _, _, zn_tMo, rfl, by decide, zn_uMo, zn_oMo, zn_nMo, by decide +kernel, rfl, fun _ => rfl, zn_w787⟩
theorem f_Mo_66 : zx_fr (zn_G l D ar b Z) "LogHouseModel" 66 9 18 := ⟨_, _, _, rfl, by decide, zn_uMo, zn_w788⟩
theorem p_Mo_66 : zx_f (zn_G l D ar b Z) "LogHouseModel" 66 9 18 (.array .int) true := ⟨_, _, _, zn_tMo, rfl, by decide, zn_uMo, zn_oMo, zn_nMo, by decide +kernel, rfl, fun _ => rfl, zn_w788⟩
theorem f_Mo_69 : zx_fr (zn_G l D ar b Z) "LogHouseModel" 69 9 19 := ⟨_, _, _, rfl, by decide, zn_uMo, zn_w789⟩
theorem p_Mo_69 : zx_f (zn_G l D ar b Z) "LogHouseModel" 69 9 19 (.array .int) true := ⟨_, _, _, zn_tMo, rfl, by decide, zn_uMo, zn_oMo, zn_nMo, by decide +kernel, rfl, fun _ => rfl, zn_w789⟩
theorem f_Mo_72 : zx_fr (zn_G l D ar b Z) "LogHouseModel" 72 9 20 := ⟨_, _, _, rfl, by decide, zn_uMo, zn_w790⟩
theorem p_Mo_72 : zx_f (zn_G l D ar b Z) "LogHouseModel" 72 9 20 (.array .int) true := ⟨_, _, _, zn_tMo, rfl, by decide, zn_uMo, zn_oMo, zn_nMo, by decide +kernel, rfl, fun _ => rfl, zn_w790⟩
theorem f_Mo_75 : zx_fr (zn_G l D ar b Z) "LogHouseModel" 75 9 21 := ⟨_, _, _, rfl, by decide, zn_uMo, zn_w791⟩
theorem p_Mo_75 : zx_f (zn_G l D ar b Z) "LogHouseModel" 75 9 21 (.array .int) true := ⟨_, _, _, zn_tMo, rfl, by decide, zn_uMo, zn_oMo, zn_nMo, by decide +kernel, rfl, fun _ => rfl, zn_w791⟩
theorem f_Mo_78 : zx_fr (zn_G l D ar b Z) "LogHouseModel" 78 9 22 := ⟨_, _, _, rfl, by decide, zn_uMo, zn_w792⟩
theorem p_Mo_78 : zx_f (zn_G l D ar b Z) "LogHouseModel" 78 9 22 (.array .int) true := ⟨_, _, _, zn_tMo, rfl, by decide, zn_uMo, zn_oMo, zn_nMo, by decide +kernel, rfl, fun _ => rfl, zn_w792⟩
theorem f_Mo_81 : zx_fr (zn_G l D ar b Z) "LogHouseModel" 81 9 23 := ⟨_, _, _, rfl, by decide, zn_uMo, zn_w793⟩
theorem p_Mo_81 : zx_f (zn_G l D ar b Z) "LogHouseModel" 81 9 23 (.array .int) true := ⟨_, _, _, zn_tMo, rfl, by decide, zn_uMo, zn_oMo, zn_nMo, by decide +kernel, rfl, fun _ => rfl, zn_w793⟩
theorem f_Mo_84 : zx_fr (zn_G l D ar b Z) "LogHouseModel" 84 9 24 := ⟨_, _, _, rfl, by decide, zn_uMo, zn_w794⟩
theorem p_Mo_84 : zx_f (zn_G l D ar b Z) "LogHouseModel" 84 9 24 (.array .int) true := ⟨_, _, _, zn_tMo, rfl, by decide, zn_uMo, zn_oMo, zn_nMo, by decide +kernel, rfl, fun _ => rfl, zn_w794⟩
theorem f_Mo_87 : zx_fr (zn_G l D ar b Z) "LogHouseModel" 87 9 25 := ⟨_, _, _, rfl, by decide, zn_uMo, zn_w795⟩
theorem p_Mo_87 : zx_f (zn_G l D ar b Z) "LogHouseModel" 87 9 25 (.int) false := ⟨_, _, _, zn_tMo, rfl, by decide, zn_uMo, zn_oMo, zn_nMo, by decide +kernel, rfl, (fun h => by cases h), zn_w795⟩
theorem f_Mo_90 : zx_fr (zn_G l D ar b Z) "LogHouseModel" 90 9 26 := ⟨_, _, _, rfl, by decide, zn_uMo, zn_w796⟩
theorem p_Mo_90 : zx_f (zn_G l D ar b Z) "LogHouseModel" 90 9 26 (.array .int) true := ⟨_, _, _, zn_tMo, rfl, by decide, zn_uMo, zn_oMo, zn_nMo, by decide +kernel, rfl, fun _ => rfl, zn_w796⟩
theorem f_Mo_93 : zx_fr (zn_G l D ar b Z) "LogHouseModel" 93 9 27 := ⟨_, _, _, rfl, by decide, zn_uMo, zn_w797⟩
theorem p_Mo_93 : zx_f (zn_G l D ar b Z) "LogHouseModel" 93 9 27 (.array .int) true := ⟨_, _, _, zn_tMo, rfl, by decide, zn_uMo, zn_oMo, zn_nMo, by decide +kernel, rfl, fun _ => rfl, zn_w797⟩
theorem s_Ho_15 : zx_s (zn_G l D ar b Z) "LogHouse" 15 y_St_init 0 := ⟨zn_ok, zn_w34, zn_w2, ⟨by decide, by decide, by decide +kernel⟩, Or.inr ⟨_, fun U h => h.1.1⟩⟩
theorem s_Ho_22 : zx_s (zn_G l D ar b Z) "LogHouse" 22 y_Pr_init 1 := ⟨zn_ok, zn_w86, zn_w4, ⟨by decide, by decide, by decide +kernel⟩, Or.inl zn_w84⟩
theorem s_Ho_27 : zx_s (zn_G l D ar b Z) "LogHouse" 27 y_Ro_init 0 := ⟨zn_ok, zn_w166, zn_w7, ⟨by decide, by decide, by decide +kernel⟩, Or.inl zn_w164⟩
theorem s_Ho_34 : zx_s (zn_G l D ar b Z) "LogHouse" 34 y_Ga_init 0 := ⟨zn_ok, zn_w232, zn_w9, ⟨by decide, by decide, by decide +kernel⟩, Or.inr ⟨_, fun U h => h.1.2.2.2.2.2.2.2.1⟩⟩
theorem s_Ho_41 : zx_s (zn_G l D ar b Z) "LogHouse" 41 y_Re_init 0 := ⟨zn_ok, zn_w102, zn_w6, ⟨by decide, by decide, by decide +kernel⟩, Or.inr ⟨_, fun U h => h.1.2.2.2.2.2.2.2.2.1⟩⟩
theorem s_Ho_49 : zx_s (zn_G l D ar b Z) "LogHouse" 49 y_Ho_isProposer 1 := ⟨zn_ok, zn_w278, zn_w1, ⟨by decide, by decide, by decide +kernel⟩, Or.inl zn_w276⟩
theorem s_Ho_53 : zx_s (zn_G l D ar b Z) "LogHouse" 53 y_Pr_write 2 := ⟨zn_ok, zn_w282, zn_w4, ⟨by decide, by decide, by decide +kernel⟩, Or.inl zn_w279⟩
theorem s_Ho_57 : zx_s (zn_G l D ar b Z) "LogHouse" 57 y_Ho_checkProposer 1 := ⟨zn_ok, zn_w297, zn_w1, ⟨by decide, by decide, by decide +kernel⟩, Or.inl zn_w295⟩
theorem s_Ho_60 : zx_s (zn_G l D ar b Z) "LogHouse" 60 y_Ho_highestPromised 0 := ⟨zn_ok, zn_w365, zn_w1, ⟨by decide, by decide, by decide +kernel⟩, Or.inl zn_w362⟩
theorem s_Ho_64 : zx_s (zn_G l D ar b Z) "LogHouse" 64 y_Pr_begin 1 := ⟨zn_ok, zn_w372, zn_w4, ⟨by decide, by decide, by decide +kernel⟩, Or.inl zn_w369⟩
theorem s_Ho_67 : zx_s (zn_G l D ar b Z) "LogHouse" 67 y_Ho_sendPrepares 1 := ⟨zn_ok, zn_w385, zn_w1, ⟨by decide, by decide, by decide +kernel⟩, Or.inl zn_w382⟩
theorem s_Ho_75 : zx_s (zn_G l D ar b Z) "LogHouse" 75 y_Pr_firstFree 0 := ⟨zn_ok, zn_w413, zn_w4, ⟨by decide, by decide, by decide +kernel⟩, Or.inl zn_w410⟩
theorem s_Ho_84 : zx_s (zn_G l D ar b Z) "LogHouse" 84 y_Pr_proposeDraft 1 := ⟨zn_ok, zn_w436, zn_w4, ⟨by decide, by decide, by decide +kernel⟩, Or.inl zn_w433⟩
theorem s_Ho_87 : zx_s (zn_G l D ar b Z) "LogHouse" 87 y_Ho_sendAccepts 2 := ⟨zn_ok, zn_w454, zn_w1, ⟨by decide, by decide, by decide +kernel⟩, Or.inl zn_w451⟩
theorem s_Ho_97 : zx_s (zn_G l D ar b Z) "LogHouse" 97 y_Ho_sendAllAccepts 1 := ⟨zn_ok, zn_w486, zn_w1, ⟨by decide, by decide, by decide +kernel⟩, Or.inl zn_w483⟩
theorem s_Ho_100 : zx_s (zn_G l D ar b Z) "LogHouse" 100 y_Ho_checkLetter 1 := ⟨zn_ok, zn_w502, zn_w1, ⟨by decide, by decide, by decide +kernel⟩, Or.inl zn_w499⟩
theorem s_Ho_103 : zx_s (zn_G l D ar b Z) "LogHouse" 103 y_Ro_take 1 := ⟨zn_ok, zn_w521, zn_w7, ⟨by decide, by decide, by decide +kernel⟩, Or.inl zn_w518⟩
theorem s_Ho_112 : zx_s (zn_G l D ar b Z) "LogHouse" 112 y_Ho_bringPrepare 1 := ⟨zn_ok, zn_w525, zn_w1, ⟨by decide, by decide, by decide +kernel⟩, Or.inl zn_w522⟩
theorem s_Ho_116 : zx_s (zn_G l D ar b Z) "LogHouse" 116 y_Ho_bringPromise 1 := ⟨zn_ok, zn_w541, zn_w1, ⟨by decide, by decide, by decide +kernel⟩, Or.inl zn_w538⟩
theorem s_Ho_119 : zx_s (zn_G l D ar b Z) "LogHouse" 119 y_Ho_bringAccept 1 := ⟨zn_ok, zn_w604, zn_w1, ⟨by decide, by decide, by decide +kernel⟩, Or.inl zn_w601⟩
theorem s_Ho_125 : zx_s (zn_G l D ar b Z) "LogHouse" 125 y_Pr_hearAccepted 1 := ⟨zn_ok, zn_w609, zn_w4, ⟨by decide, by decide, by decide +kernel⟩, Or.inl zn_w606⟩
theorem s_Ho_128 : zx_s (zn_G l D ar b Z) "LogHouse" 128 y_Ro_append 0 := ⟨zn_ok, zn_w397, zn_w7, ⟨by decide, by decide, by decide +kernel⟩, Or.inl zn_w631⟩
theorem s_Ho_136 : zx_s (zn_G l D ar b Z) "LogHouse" 136 y_Le_copyFrom 1 := ⟨zn_ok, zn_w635, zn_w8, ⟨by decide, by decide, by decide +kernel⟩, Or.inl zn_w632⟩
theorem s_Ho_152 : zx_s (zn_G l D ar b Z) "LogHouse" 152 y_Ho_checkStation 1 := ⟨zn_ok, zn_w655, zn_w1, ⟨by decide, by decide, by decide +kernel⟩, Or.inl zn_w653⟩
theorem s_Ho_159 : zx_s (zn_G l D ar b Z) "LogHouse" 159 y_St_loseAll 0 := ⟨zn_ok, zn_w666, zn_w2, ⟨by decide, by decide, by decide +kernel⟩, Or.inl zn_w663⟩
theorem s_Ho_178 : zx_s (zn_G l D ar b Z) "LogHouse" 178 y_Sh_has 1 := ⟨zn_ok, zn_w566, zn_w3, ⟨by decide, by decide, by decide +kernel⟩, Or.inl zn_w678⟩
theorem s_Ho_183 : zx_s (zn_G l D ar b Z) "LogHouse" 183 y_Ho_gatherFromStations 2 := ⟨zn_ok, zn_w682, zn_w1, ⟨by decide, by decide, by decide +kernel⟩, Or.inl zn_w679⟩
theorem s_Ho_186 : zx_s (zn_G l D ar b Z) "LogHouse" 186 y_Ga_putTogether 1 := ⟨zn_ok, zn_w589, zn_w9, ⟨by decide, by decide, by decide +kernel⟩, Or.inl zn_w586⟩
theorem s_Ho_193 : zx_s (zn_G l D ar b Z) "LogHouse" 193 y_Re_shareOf 1 := ⟨zn_ok, zn_w466, zn_w6, ⟨by decide, by decide, by decide +kernel⟩, Or.inl zn_w463⟩
theorem s_Ho_197 : zx_s (zn_G l D ar b Z) "LogHouse" 197 y_Sh_put 5 := ⟨zn_ok, zn_w537, zn_w3, ⟨by decide, by decide, by decide +kernel⟩, Or.inl zn_w605⟩
theorem s_Ho_201 : zx_s (zn_G l D ar b Z) "LogHouse" 201 y_Ho_checkPlace 1 := ⟨zn_ok, zn_w695, zn_w1, ⟨by decide, by decide, by decide +kernel⟩, Or.inl zn_w693⟩
theorem s_Ho_210 : zx_s (zn_G l D ar b Z) "LogHouse" 210 y_Re_byteAt 1 := ⟨zn_ok, zn_w729, zn_w6, ⟨by decide, by decide, by decide +kernel⟩, Or.inl zn_w726⟩
theorem s_Ho_217 : zx_s (zn_G l D ar b Z) "LogHouse" 217 y_In_bitCount 1 := ⟨zn_ok, zn_w550, zn_w19, ⟨by decide, by decide, by decide +kernel⟩, Or.inl zn_w548⟩
theorem s_Ho_225 : zx_s (zn_G l D ar b Z) "LogHouse" 225 y_Sh_countBytes 0 := ⟨zn_ok, zn_w747, zn_w3, ⟨by decide, by decide, by decide +kernel⟩, Or.inl zn_w744⟩
theorem s_Ho_238 : zx_s (zn_G l D ar b Z) "LogHouse" 238 y_Sh_shareByte 2 := ⟨zn_ok, zn_w759, zn_w3, ⟨by decide, by decide, by decide +kernel⟩, Or.inl zn_w756⟩
theorem s_Ho_242 : zx_s (zn_G l D ar b Z) "LogHouse" 242 y_Ma_max 2 := ⟨zn_ok, zn_w368, zn_w15, ⟨by decide, by decide, by decide +kernel⟩, Or.inl zn_w366⟩
theorem s_Ho_247 : zx_s (zn_G l D ar b Z) "LogHouse" 247 y_Pr_hasPromiseOf 1 := ⟨zn_ok, zn_w389, zn_w4, ⟨by decide, by decide, by decide +kernel⟩, Or.inl zn_w386⟩
theorem s_Ho_253 : zx_s (zn_G l D ar b Z) "LogHouse" 253 y_Ro_post 4 := ⟨zn_ok, zn_w393, zn_w7, ⟨by decide, by decide, by decide +kernel⟩, Or.inl zn_w390⟩
theorem s_Ho_257 : zx_s (zn_G l D ar b Z) "LogHouse" 257 y_Sp_isWaiting 0 := ⟨zn_ok, zn_w490, zn_w5, ⟨by decide, by decide, by decide +kernel⟩, Or.inl zn_w487⟩
theorem s_Ho_261 : zx_s (zn_G l D ar b Z) "LogHouse" 261 y_Sp_hasAnswerOf 1 := ⟨zn_ok, zn_w458, zn_w5, ⟨by decide, by decide, by decide +kernel⟩, Or.inl zn_w455⟩
theorem s_Ho_267 : zx_s (zn_G l D ar b Z) "LogHouse" 267 y_Le_aboutPlace 2 := ⟨zn_ok, zn_w462, zn_w8, ⟨by decide, by decide, by decide +kernel⟩, Or.inl zn_w459⟩
theorem s_Ho_279 : zx_s (zn_G l D ar b Z) "LogHouse" 279 y_St_heeds 1 := ⟨zn_ok, zn_w529, zn_w2, ⟨by decide, by decide, by decide +kernel⟩, Or.inl zn_w526⟩
theorem s_Ho_283 : zx_s (zn_G l D ar b Z) "LogHouse" 283 y_Sh_copyFrom 1 := ⟨zn_ok, zn_w533, zn_w3, ⟨by decide, by decide, by decide +kernel⟩, Or.inl zn_w530⟩
theorem s_Ho_286 : zx_s (zn_G l D ar b Z) "LogHouse" 286 y_Pr_hearPromise 1 := ⟨zn_ok, zn_w545, zn_w4, ⟨by decide, by decide, by decide +kernel⟩, Or.inl zn_w542⟩
theorem s_Ho_289 : zx_s (zn_G l D ar b Z) "LogHouse" 289 y_Ho_lead 1 := ⟨zn_ok, zn_w557, zn_w1, ⟨by decide, by decide, by decide +kernel⟩, Or.inl zn_w554⟩
theorem s_Ho_292 : zx_s (zn_G l D ar b Z) "LogHouse" 292 y_Sp_isOpen 0 := ⟨zn_ok, zn_w417, zn_w5, ⟨by decide, by decide, by decide +kernel⟩, Or.inl zn_w558⟩
theorem s_Ho_295 : zx_s (zn_G l D ar b Z) "LogHouse" 295 y_Pr_gatherFromPromises 2 := ⟨zn_ok, zn_w562, zn_w4, ⟨by decide, by decide, by decide +kernel⟩, Or.inl zn_w559⟩
theorem s_Ho_300 : zx_s (zn_G l D ar b Z) "LogHouse" 300 y_Sp_proposeAs 1 := ⟨zn_ok, zn_w381, zn_w5, ⟨by decide, by decide, by decide +kernel⟩, Or.inl zn_w585⟩
theorem s_Ho_303 : zx_s (zn_G l D ar b Z) "LogHouse" 303 y_Ga_start 1 := ⟨zn_ok, zn_w570, zn_w9, ⟨by decide, by decide, by decide +kernel⟩, Or.inl zn_w683⟩
theorem s_Ho_306 : zx_s (zn_G l D ar b Z) "LogHouse" 306 y_Ga_addIfOfIt 3 := ⟨zn_ok, zn_w578, zn_w9, ⟨by decide, by decide, by decide +kernel⟩, Or.inl zn_w684⟩
theorem s_Ho_310 : zx_s (zn_G l D ar b Z) "LogHouse" 310 y_Ga_isEnough 0 := ⟨zn_ok, zn_w584, zn_w9, ⟨by decide, by decide, by decide +kernel⟩, Or.inl zn_w685⟩
theorem s_Fi_19 : zx_s (zn_G l D ar b Z) "LogHouse$Field" 19 y_Fi_times 2 := ⟨zn_ok, zn_w472, zn_w17, ⟨by decide, by decide, by decide +kernel⟩, Or.inl zn_w600⟩
theorem s_Ga_29 : zx_s (zn_G l D ar b Z) "LogHouse$Gathering" 29 y_Sh_has 1 := ⟨zn_ok, zn_w566, zn_w3, ⟨by decide, by decide, by decide +kernel⟩, Or.inl zn_w579⟩
theorem s_Ga_41 : zx_s (zn_G l D ar b Z) "LogHouse$Gathering" 41 y_Re_pointOf 1 := ⟨zn_ok, zn_w469, zn_w6, ⟨by decide, by decide, by decide +kernel⟩, Or.inl zn_w580⟩
theorem s_Ga_49 : zx_s (zn_G l D ar b Z) "LogHouse$Gathering" 49 y_Re_clearPieces 0 := ⟨zn_ok, zn_w445, zn_w6, ⟨by decide, by decide, by decide +kernel⟩, Or.inl zn_w590⟩
theorem s_Ga_52 : zx_s (zn_G l D ar b Z) "LogHouse$Gathering" 52 y_Re_addShare 4 := ⟨zn_ok, zn_w594, zn_w6, ⟨by decide, by decide, by decide +kernel⟩, Or.inl zn_w591⟩
theorem s_Le_11 : zx_s (zn_G l D ar b Z) "LogHouse$Letter" 11 y_Sh_init 0 := ⟨zn_ok, zn_w40, zn_w3, ⟨by decide, by decide, by decide +kernel⟩, Or.inr ⟨_, fun U h => h.1.2.2.2.2.2.2.1⟩⟩
theorem s_Le_37 : zx_s (zn_G l D ar b Z) "LogHouse$Letter" 37 y_Le_address 4 := ⟨zn_ok, zn_w401, zn_w8, ⟨by decide, by decide, by decide +kernel⟩, Or.inl zn_w636⟩
theorem s_Le_41 : zx_s (zn_G l D ar b Z) "LogHouse$Letter" 41 y_Le_aboutPlace 2 := ⟨zn_ok, zn_w462, zn_w8, ⟨by decide, by decide, by decide +kernel⟩, Or.inl zn_w637⟩
theorem s_Le_52 : zx_s (zn_G l D ar b Z) "LogHouse$Letter" 52 y_Sh_copyFrom 1 := ⟨zn_ok, zn_w533, zn_w3, ⟨by decide, by decide, by decide +kernel⟩, Or.inl zn_w638⟩
theorem s_Pr_34 : zx_s (zn_G l D ar b Z) "LogHouse$Proposer" 34 y_Sh_init 0 := ⟨zn_ok, zn_w40, zn_w3, ⟨by decide, by decide, by decide +kernel⟩, Or.inr ⟨_, fun U h => h.1.2.2.1⟩⟩
theorem s_Pr_35 : zx_s (zn_G l D ar b Z) "LogHouse$Proposer" 35 y_Sp_init 0 := ⟨zn_ok, zn_w96, zn_w5, ⟨by decide, by decide, by decide +kernel⟩, Or.inr ⟨_, fun U h => h.1.2.2.2.1⟩⟩
theorem s_Pr_42 : zx_s (zn_G l D ar b Z) "LogHouse$Proposer" 42 y_Ma_max 2 := ⟨zn_ok, zn_w368, zn_w15, ⟨by decide, by decide, by decide +kernel⟩, Or.inl zn_w373⟩
theorem s_Pr_51 : zx_s (zn_G l D ar b Z) "LogHouse$Proposer" 51 y_Sp_forget 0 := ⟨zn_ok, zn_w377, zn_w5, ⟨by decide, by decide, by decide +kernel⟩, Or.inl zn_w374⟩
theorem s_Pr_54 : zx_s (zn_G l D ar b Z) "LogHouse$Proposer" 54 y_Sp_isOpen 0 := ⟨zn_ok, zn_w417, zn_w5, ⟨by decide, by decide, by decide +kernel⟩, Or.inl zn_w414⟩
theorem s_Pr_58 : zx_s (zn_G l D ar b Z) "LogHouse$Proposer" 58 y_Sp_proposeAs 1 := ⟨zn_ok, zn_w381, zn_w5, ⟨by decide, by decide, by decide +kernel⟩, Or.inl zn_w437⟩
theorem s_Pr_66 : zx_s (zn_G l D ar b Z) "LogHouse$Proposer" 66 y_Re_cut 2 := ⟨zn_ok, zn_w441, zn_w6, ⟨by decide, by decide, by decide +kernel⟩, Or.inl zn_w438⟩
theorem s_Pr_78 : zx_s (zn_G l D ar b Z) "LogHouse$Proposer" 78 y_Pr_hasPromiseOf 1 := ⟨zn_ok, zn_w389, zn_w4, ⟨by decide, by decide, by decide +kernel⟩, Or.inl zn_w546⟩
theorem s_Pr_86 : zx_s (zn_G l D ar b Z) "LogHouse$Proposer" 86 y_Sh_copyFrom 1 := ⟨zn_ok, zn_w533, zn_w3, ⟨by decide, by decide, by decide +kernel⟩, Or.inl zn_w547⟩
theorem s_Pr_96 : zx_s (zn_G l D ar b Z) "LogHouse$Proposer" 96 y_Sp_hearAnswer 2 := ⟨zn_ok, zn_w613, zn_w5, ⟨by decide, by decide, by decide +kernel⟩, Or.inl zn_w610⟩
theorem s_Pr_100 : zx_s (zn_G l D ar b Z) "LogHouse$Proposer" 100 y_Sh_has 1 := ⟨zn_ok, zn_w566, zn_w3, ⟨by decide, by decide, by decide +kernel⟩, Or.inl zn_w563⟩
theorem s_Pr_107 : zx_s (zn_G l D ar b Z) "LogHouse$Proposer" 107 y_Ga_start 1 := ⟨zn_ok, zn_w570, zn_w9, ⟨by decide, by decide, by decide +kernel⟩, Or.inl zn_w567⟩
theorem s_Pr_112 : zx_s (zn_G l D ar b Z) "LogHouse$Proposer" 112 y_Pr_addPromises 2 := ⟨zn_ok, zn_w574, zn_w4, ⟨by decide, by decide, by decide +kernel⟩, Or.inl zn_w571⟩
theorem s_Pr_116 : zx_s (zn_G l D ar b Z) "LogHouse$Proposer" 116 y_Ga_isEnough 0 := ⟨zn_ok, zn_w584, zn_w9, ⟨by decide, by decide, by decide +kernel⟩, Or.inl zn_w581⟩
theorem s_Pr_119 : zx_s (zn_G l D ar b Z) "LogHouse$Proposer" 119 y_Ga_addIfOfIt 3 := ⟨zn_ok, zn_w578, zn_w9, ⟨by decide, by decide, by decide +kernel⟩, Or.inl zn_w575⟩
theorem s_Re_19 : zx_s (zn_G l D ar b Z) "LogHouse$Report" 19 y_Re_clearPieces 0 := ⟨zn_ok, zn_w445, zn_w6, ⟨by decide, by decide, by decide +kernel⟩, Or.inl zn_w442⟩
theorem s_Re_22 : zx_s (zn_G l D ar b Z) "LogHouse$Report" 22 y_Re_third 1 := ⟨zn_ok, zn_w448, zn_w6, ⟨by decide, by decide, by decide +kernel⟩, Or.inl zn_w446⟩
theorem s_Re_26 : zx_s (zn_G l D ar b Z) "LogHouse$Report" 26 y_Ma_max 2 := ⟨zn_ok, zn_w368, zn_w15, ⟨by decide, by decide, by decide +kernel⟩, Or.inl zn_w449⟩
theorem s_Re_34 : zx_s (zn_G l D ar b Z) "LogHouse$Report" 34 y_Re_pointOf 1 := ⟨zn_ok, zn_w469, zn_w6, ⟨by decide, by decide, by decide +kernel⟩, Or.inl zn_w467⟩
theorem s_Re_37 : zx_s (zn_G l D ar b Z) "LogHouse$Report" 37 y_Fi_times 2 := ⟨zn_ok, zn_w472, zn_w17, ⟨by decide, by decide, by decide +kernel⟩, Or.inl zn_w470⟩
theorem s_Re_43 : zx_s (zn_G l D ar b Z) "LogHouse$Report" 43 y_Fi_overSum 3 := ⟨zn_ok, zn_w597, zn_w17, ⟨by decide, by decide, by decide +kernel⟩, Or.inl zn_w595⟩
theorem s_Ro_17 : zx_s (zn_G l D ar b Z) "LogHouse$Row" 17 y_Le_init 0 := ⟨zn_ok, zn_w173, zn_w8, ⟨by decide, by decide, by decide +kernel⟩, Or.inr ⟨_, fun U h => h.1.2.2.2.2.2.1⟩⟩
theorem s_Ro_22 : zx_s (zn_G l D ar b Z) "LogHouse$Row" 22 y_Ro_append 0 := ⟨zn_ok, zn_w397, zn_w7, ⟨by decide, by decide, by decide +kernel⟩, Or.inl zn_w394⟩
theorem s_Ro_26 : zx_s (zn_G l D ar b Z) "LogHouse$Row" 26 y_Le_address 4 := ⟨zn_ok, zn_w401, zn_w8, ⟨by decide, by decide, by decide +kernel⟩, Or.inl zn_w398⟩
theorem s_Sh_25 : zx_s (zn_G l D ar b Z) "LogHouse$Shelf" 25 y_Sh_put 5 := ⟨zn_ok, zn_w537, zn_w3, ⟨by decide, by decide, by decide +kernel⟩, Or.inl zn_w534⟩
theorem s_Sh_29 : zx_s (zn_G l D ar b Z) "LogHouse$Shelf" 29 y_Re_third 1 := ⟨zn_ok, zn_w448, zn_w6, ⟨by decide, by decide, by decide +kernel⟩, Or.inl zn_w748⟩
theorem s_Sp_11 : zx_s (zn_G l D ar b Z) "LogHouse$Spot" 11 y_Re_init 0 := ⟨zn_ok, zn_w102, zn_w6, ⟨by decide, by decide, by decide +kernel⟩, Or.inr ⟨_, fun U h => h.1.2.2.2.2.1⟩⟩
theorem s_Sp_28 : zx_s (zn_G l D ar b Z) "LogHouse$Spot" 28 y_Sp_proposeAs 1 := ⟨zn_ok, zn_w381, zn_w5, ⟨by decide, by decide, by decide +kernel⟩, Or.inl zn_w378⟩
theorem s_Sp_32 : zx_s (zn_G l D ar b Z) "LogHouse$Spot" 32 y_Sp_isWaiting 0 := ⟨zn_ok, zn_w490, zn_w5, ⟨by decide, by decide, by decide +kernel⟩, Or.inl zn_w614⟩
theorem s_Sp_36 : zx_s (zn_G l D ar b Z) "LogHouse$Spot" 36 y_In_bitCount 1 := ⟨zn_ok, zn_w550, zn_w19, ⟨by decide, by decide, by decide +kernel⟩, Or.inl zn_w615⟩
theorem s_Sp_42 : zx_s (zn_G l D ar b Z) "LogHouse$Spot" 42 y_Sp_forget 0 := ⟨zn_ok, zn_w377, zn_w5, ⟨by decide, by decide, by decide +kernel⟩, Or.inl zn_w616⟩
theorem s_St_15 : zx_s (zn_G l D ar b Z) "LogHouse$Station" 15 y_Sh_init 0 := ⟨zn_ok, zn_w40, zn_w3, ⟨by decide, by decide, by decide +kernel⟩, Or.inr ⟨_, fun U h => h.1.2.1⟩⟩
theorem s_St_27 : zx_s (zn_G l D ar b Z) "LogHouse$Station" 27 y_Sh_clear 0 := ⟨zn_ok, zn_w670, zn_w3, ⟨by decide, by decide, by decide +kernel⟩, Or.inl zn_w667⟩
theorem s_La_7 : zx_s (zn_G l D ar b Z) "LogHouseLaw" 7 y_Ho_campaign 1 := ⟨zn_ok, zn_w294, zn_w1, ⟨by decide, by decide, by decide +kernel⟩, Or.inl zn_w291⟩
theorem s_La_15 : zx_s (zn_G l D ar b Z) "LogHouseLaw" 15 y_Ho_propose 1 := ⟨zn_ok, zn_w409, zn_w1, ⟨by decide, by decide, by decide +kernel⟩, Or.inl zn_w406⟩
theorem s_La_20 : zx_s (zn_G l D ar b Z) "LogHouseLaw" 20 y_Ho_resend 1 := ⟨zn_ok, zn_w482, zn_w1, ⟨by decide, by decide, by decide +kernel⟩, Or.inl zn_w479⟩
theorem s_La_23 : zx_s (zn_G l D ar b Z) "LogHouseLaw" 23 y_Ho_deliver 1 := ⟨zn_ok, zn_w498, zn_w1, ⟨by decide, by decide, by decide +kernel⟩, Or.inl zn_w495⟩
theorem s_La_28 : zx_s (zn_G l D ar b Z) "LogHouseLaw" 28 y_Ho_drop 1 := ⟨zn_ok, zn_w623, zn_w1, ⟨by decide, by decide, by decide +kernel⟩, Or.inl zn_w620⟩
theorem s_La_32 : zx_s (zn_G l D ar b Z) "LogHouseLaw" 32 y_Ho_twin 1 := ⟨zn_ok, zn_w630, zn_w1, ⟨by decide, by decide, by decide +kernel⟩, Or.inl zn_w627⟩
theorem s_La_35 : zx_s (zn_G l D ar b Z) "LogHouseLaw" 35 y_Ho_letter 2 := ⟨zn_ok, zn_w645, zn_w1, ⟨by decide, by decide, by decide +kernel⟩, Or.inl zn_w642⟩
theorem s_La_39 : zx_s (zn_G l D ar b Z) "LogHouseLaw" 39 y_Ho_up 2 := ⟨zn_ok, zn_w652, zn_w1, ⟨by decide, by decide, by decide +kernel⟩, Or.inl zn_w649⟩
theorem s_La_43 : zx_s (zn_G l D ar b Z) "LogHouseLaw" 43 y_Ho_wipe 1 := ⟨zn_ok, zn_w662, zn_w1, ⟨by decide, by decide, by decide +kernel⟩, Or.inl zn_w659⟩
theorem s_La_46 : zx_s (zn_G l D ar b Z) "LogHouseLaw" 46 y_Ho_catchUp 2 := ⟨zn_ok, zn_w677, zn_w1, ⟨by decide, by decide, by decide +kernel⟩, Or.inl zn_w674⟩
theorem s_La_49 : zx_s (zn_G l D ar b Z) "LogHouseLaw" 49 y_Ho_decided 2 := ⟨zn_ok, zn_w692, zn_w1, ⟨by decide, by decide, by decide +kernel⟩, Or.inl zn_w689⟩
theorem s_La_52 : zx_s (zn_G l D ar b Z) "LogHouseLaw" 52 y_Ho_read 2 := ⟨zn_ok, zn_w703, zn_w1, ⟨by decide, by decide, by decide +kernel⟩, Or.inl zn_w700⟩
theorem s_La_57 : zx_s (zn_G l D ar b Z) "LogHouseLaw" 57 y_Ho_readByte 1 := ⟨zn_ok, zn_w725, zn_w1, ⟨by decide, by decide, by decide +kernel⟩, Or.inl zn_w722⟩
theorem s_La_60 : zx_s (zn_G l D ar b Z) "LogHouseLaw" 60 y_Ho_state 2 := ⟨zn_ok, zn_w736, zn_w1, ⟨by decide, by decide, by decide +kernel⟩, Or.inl zn_w733⟩
theorem s_La_63 : zx_s (zn_G l D ar b Z) "LogHouseLaw" 63 y_Ho_station 2 := ⟨zn_ok, zn_w743, zn_w1, ⟨by decide, by decide, by decide +kernel⟩, Or.inl zn_w740⟩
theorem s_La_66 : zx_s (zn_G l D ar b Z) "LogHouseLaw" 66 y_Ho_share 3 := ⟨zn_ok, zn_w755, zn_w1, ⟨by decide, by decide, by decide +kernel⟩, Or.inl zn_w752⟩
theorem s_La_70 : zx_s (zn_G l D ar b Z) "LogHouseLaw" 70 y_Ho_init 0 := ⟨zn_ok, zn_w25, zn_w1, ⟨by decide, by decide, by decide +kernel⟩, Or.inl zn_w23⟩
theorem s_La_73 : zx_s (zn_G l D ar b Z) "LogHouseLaw" 73 y_Mo_init 0 := ⟨zn_ok, zn_w765, zn_w10, ⟨by decide, by decide, by decide +kernel⟩, Or.inl zn_w763⟩
theorem s_La_74 : zx_s (zn_G l D ar b Z) "LogHouseLaw" 74 y_Ho_byteIn 3 := ⟨zn_ok, zn_w275, zn_w1, ⟨by decide, by decide, by decide +kernel⟩, Or.inl zn_w272⟩
theorem s_La_78 : zx_s (zn_G l D ar b Z) "LogHouseLaw" 78 y_Mo_byteIn 3 := ⟨zn_ok, zn_w863, zn_w10, ⟨by decide, by decide, by decide +kernel⟩, Or.inl zn_w860⟩
theorem s_La_84 : zx_s (zn_G l D ar b Z) "LogHouseLaw" 84 y_Mo_campaign 1 := ⟨zn_ok, zn_w870, zn_w10, ⟨by decide, by decide, by decide +kernel⟩, Or.inl zn_w867⟩
theorem s_La_85 : zx_s (zn_G l D ar b Z) "LogHouseLaw" 85 y_Mo_thrown 0 := ⟨zn_ok, zn_w859, zn_w10, ⟨by decide, by decide, by decide +kernel⟩, Or.inl zn_w856⟩
theorem s_La_91 : zx_s (zn_G l D ar b Z) "LogHouseLaw" 91 y_Mo_propose 1 := ⟨zn_ok, zn_w882, zn_w10, ⟨by decide, by decide, by decide +kernel⟩, Or.inl zn_w879⟩
theorem s_La_94 : zx_s (zn_G l D ar b Z) "LogHouseLaw" 94 y_Mo_resend 1 := ⟨zn_ok, zn_w913, zn_w10, ⟨by decide, by decide, by decide +kernel⟩, Or.inl zn_w910⟩
theorem s_La_97 : zx_s (zn_G l D ar b Z) "LogHouseLaw" 97 y_Mo_deliver 1 := ⟨zn_ok, zn_w917, zn_w10, ⟨by decide, by decide, by decide +kernel⟩, Or.inl zn_w914⟩
theorem s_La_101 : zx_s (zn_G l D ar b Z) "LogHouseLaw" 101 y_Mo_drop 1 := ⟨zn_ok, zn_w963, zn_w10, ⟨by decide, by decide, by decide +kernel⟩, Or.inl zn_w960⟩
theorem s_La_104 : zx_s (zn_G l D ar b Z) "LogHouseLaw" 104 y_Mo_twin 1 := ⟨zn_ok, zn_w967, zn_w10, ⟨by decide, by decide, by decide +kernel⟩, Or.inl zn_w964⟩
theorem s_La_105 : zx_s (zn_G l D ar b Z) "LogHouseLaw" 105 y_Ho_letters 0 := ⟨zn_ok, zn_w286, zn_w1, ⟨by decide, by decide, by decide +kernel⟩, Or.inl zn_w283⟩
theorem s_La_108 : zx_s (zn_G l D ar b Z) "LogHouseLaw" 108 y_Mo_letters 0 := ⟨zn_ok, zn_w971, zn_w10, ⟨by decide, by decide, by decide +kernel⟩, Or.inl zn_w968⟩
theorem s_La_112 : zx_s (zn_G l D ar b Z) "LogHouseLaw" 112 y_Mo_letter 2 := ⟨zn_ok, zn_w975, zn_w10, ⟨by decide, by decide, by decide +kernel⟩, Or.inl zn_w972⟩
theorem s_La_116 : zx_s (zn_G l D ar b Z) "LogHouseLaw" 116 y_Mo_up 2 := ⟨zn_ok, zn_w979, zn_w10, ⟨by decide, by decide, by decide +kernel⟩, Or.inl zn_w976⟩
theorem s_La_119 : zx_s (zn_G l D ar b Z) "LogHouseLaw" 119 y_Mo_wipe 1 := ⟨zn_ok, zn_w986, zn_w10, ⟨by decide, by decide, by decide +kernel⟩, Or.inl zn_w983⟩
theorem s_La_122 : zx_s (zn_G l D ar b Z) "LogHouseLaw" 122 y_Mo_catchUp 2 := ⟨zn_ok, zn_w990, zn_w10, ⟨by decide, by decide, by decide +kernel⟩, Or.inl zn_w987⟩
theorem s_La_125 : zx_s (zn_G l D ar b Z) "LogHouseLaw" 125 y_Mo_decided 2 := ⟨zn_ok, zn_w1006, zn_w10, ⟨by decide, by decide, by decide +kernel⟩, Or.inl zn_w1003⟩
theorem s_La_128 : zx_s (zn_G l D ar b Z) "LogHouseLaw" 128 y_Mo_read 2 := ⟨zn_ok, zn_w1010, zn_w10, ⟨by decide, by decide, by decide +kernel⟩, Or.inl zn_w1007⟩
theorem s_La_131 : zx_s (zn_G l D ar b Z) "LogHouseLaw" 131 y_Mo_readByte 1 := ⟨zn_ok, zn_w1014, zn_w10, ⟨by decide, by decide, by decide +kernel⟩, Or.inl zn_w1011⟩
theorem s_La_134 : zx_s (zn_G l D ar b Z) "LogHouseLaw" 134 y_Mo_state 2 := ⟨zn_ok, zn_w1018, zn_w10, ⟨by decide, by decide, by decide +kernel⟩, Or.inl zn_w1015⟩
theorem s_La_137 : zx_s (zn_G l D ar b Z) "LogHouseLaw" 137 y_Mo_station 2 := ⟨zn_ok, zn_w1022, zn_w10, ⟨by decide, by decide, by decide +kernel⟩, Or.inl zn_w1019⟩
theorem s_La_141 : zx_s (zn_G l D ar b Z) "LogHouseLaw" 141 y_Mo_share 3 := ⟨zn_ok, zn_w1026, zn_w10, ⟨by decide, by decide, by decide +kernel⟩, Or.inl zn_w1023⟩
theorem s_Mo_96 : zx_s (zn_G l D ar b Z) "LogHouseModel" 96 y_Mo_times 2 := ⟨zn_ok, zn_w769, zn_w10, ⟨by decide, by decide, by decide +kernel⟩, Or.inl zn_w767⟩
theorem s_Mo_100 : zx_s (zn_G l D ar b Z) "LogHouseModel" 100 y_Mo_third 1 := ⟨zn_ok, zn_w901, zn_w10, ⟨by decide, by decide, by decide +kernel⟩, Or.inl zn_w899⟩
theorem s_Mo_104 : zx_s (zn_G l D ar b Z) "LogHouseModel" 104 y_Mo_product 2 := ⟨zn_ok, zn_w909, zn_w10, ⟨by decide, by decide, by decide +kernel⟩, Or.inl zn_w906⟩
theorem s_Mo_107 : zx_s (zn_G l D ar b Z) "LogHouseModel" 107 y_Mo_inverse 1 := ⟨zn_ok, zn_w955, zn_w10, ⟨by decide, by decide, by decide +kernel⟩, Or.inl zn_w952⟩
theorem s_Mo_110 : zx_s (zn_G l D ar b Z) "LogHouseModel" 110 y_Mo_solve 3 := ⟨zn_ok, zn_w951, zn_w10, ⟨by decide, by decide, by decide +kernel⟩, Or.inl zn_w948⟩
theorem s_Mo_114 : zx_s (zn_G l D ar b Z) "LogHouseModel" 114 y_Mo_letter4 4 := ⟨zn_ok, zn_w878, zn_w10, ⟨by decide, by decide, by decide +kernel⟩, Or.inl zn_w875⟩
theorem s_Mo_118 : zx_s (zn_G l D ar b Z) "LogHouseModel" 118 y_Mo_shareByte 5 := ⟨zn_ok, zn_w905, zn_w10, ⟨by decide, by decide, by decide +kernel⟩, Or.inl zn_w902⟩
theorem s_Mo_122 : zx_s (zn_G l D ar b Z) "LogHouseModel" 122 y_Mo_accept 3 := ⟨zn_ok, zn_w898, zn_w10, ⟨by decide, by decide, by decide +kernel⟩, Or.inl zn_w895⟩
theorem s_Mo_126 : zx_s (zn_G l D ar b Z) "LogHouseModel" 126 y_Mo_promiseComes 2 := ⟨zn_ok, zn_w933, zn_w10, ⟨by decide, by decide, by decide +kernel⟩, Or.inl zn_w930⟩
theorem s_Mo_129 : zx_s (zn_G l D ar b Z) "LogHouseModel" 129 y_Mo_acceptedComes 2 := ⟨zn_ok, zn_w959, zn_w10, ⟨by decide, by decide, by decide +kernel⟩, Or.inl zn_w956⟩
theorem s_Mo_133 : zx_s (zn_G l D ar b Z) "LogHouseModel" 133 y_Mo_bits 1 := ⟨zn_ok, zn_w936, zn_w10, ⟨by decide, by decide, by decide +kernel⟩, Or.inl zn_w934⟩
theorem s_Mo_136 : zx_s (zn_G l D ar b Z) "LogHouseModel" 136 y_Mo_again 2 := ⟨zn_ok, zn_w940, zn_w10, ⟨by decide, by decide, by decide +kernel⟩, Or.inl zn_w937⟩
theorem s_Mo_140 : zx_s (zn_G l D ar b Z) "LogHouseModel" 140 y_Mo_acceptAll 2 := ⟨zn_ok, zn_w894, zn_w10, ⟨by decide, by decide, by decide +kernel⟩, Or.inl zn_w891⟩
theorem s_Mo_143 : zx_s (zn_G l D ar b Z) "LogHouseModel" 143 y_Mo_heardAt 3 := ⟨zn_ok, zn_w943, zn_w10, ⟨by decide, by decide, by decide +kernel⟩, Or.inl zn_w941⟩
theorem s_Mo_146 : zx_s (zn_G l D ar b Z) "LogHouseModel" 146 y_Mo_together 4 := ⟨zn_ok, zn_w947, zn_w10, ⟨by decide, by decide, by decide +kernel⟩, Or.inl zn_w944⟩
theorem s_Mo_150 : zx_s (zn_G l D ar b Z) "LogHouseModel" 150 y_Mo_putForward 6 := ⟨zn_ok, zn_w890, zn_w10, ⟨by decide, by decide, by decide +kernel⟩, Or.inl zn_w887⟩
theorem s_Mo_154 : zx_s (zn_G l D ar b Z) "LogHouseModel" 154 y_Mo_hasOf 3 := ⟨zn_ok, zn_w998, zn_w10, ⟨by decide, by decide, by decide +kernel⟩, Or.inl zn_w995⟩
theorem s_Mo_158 : zx_s (zn_G l D ar b Z) "LogHouseModel" 158 y_Mo_noProposer 1 := ⟨zn_ok, zn_w866, zn_w10, ⟨by decide, by decide, by decide +kernel⟩, Or.inl zn_w864⟩
theorem s_Mo_162 : zx_s (zn_G l D ar b Z) "LogHouseModel" 162 y_Mo_prepare 2 := ⟨zn_ok, zn_w874, zn_w10, ⟨by decide, by decide, by decide +kernel⟩, Or.inl zn_w871⟩
theorem s_Mo_165 : zx_s (zn_G l D ar b Z) "LogHouseModel" 165 y_Mo_firstFree 1 := ⟨zn_ok, zn_w886, zn_w10, ⟨by decide, by decide, by decide +kernel⟩, Or.inl zn_w883⟩
theorem s_Mo_168 : zx_s (zn_G l D ar b Z) "LogHouseModel" 168 y_Mo_noLetter 1 := ⟨zn_ok, zn_w921, zn_w10, ⟨by decide, by decide, by decide +kernel⟩, Or.inl zn_w918⟩
theorem s_Mo_171 : zx_s (zn_G l D ar b Z) "LogHouseModel" 171 y_Mo_remove 1 := ⟨zn_ok, zn_w925, zn_w10, ⟨by decide, by decide, by decide +kernel⟩, Or.inl zn_w922⟩
theorem s_Mo_175 : zx_s (zn_G l D ar b Z) "LogHouseModel" 175 y_Mo_comes 0 := ⟨zn_ok, zn_w929, zn_w10, ⟨by decide, by decide, by decide +kernel⟩, Or.inl zn_w926⟩
theorem s_Mo_179 : zx_s (zn_G l D ar b Z) "LogHouseModel" 179 y_Mo_noStation 1 := ⟨zn_ok, zn_w982, zn_w10, ⟨by decide, by decide, by decide +kernel⟩, Or.inl zn_w980⟩
theorem s_Mo_182 : zx_s (zn_G l D ar b Z) "LogHouseModel" 182 y_Mo_findThree 3 := ⟨zn_ok, zn_w994, zn_w10, ⟨by decide, by decide, by decide +kernel⟩, Or.inl zn_w991⟩
theorem s_Mo_185 : zx_s (zn_G l D ar b Z) "LogHouseModel" 185 y_Mo_fromThree 1 := ⟨zn_ok, zn_w1002, zn_w10, ⟨by decide, by decide, by decide +kernel⟩, Or.inl zn_w999⟩
end ZN
