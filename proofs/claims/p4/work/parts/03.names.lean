def ALL : List Cond := lw_tbl.filter goodWord
theorem tw {w : Cond} (i : Nat) (h : tables_1[i]? = some w) (hg : goodWord w = true) : w ∈ ALL := List.mem_filter.mpr ⟨List.mem_append_right _ (List.mem_of_getElem? h), hg⟩
theorem sw {w : Cond} (i : Nat) (h : (k2_sels lw_privs)[i]? = some w) (hg : goodWord w = true) : w ∈ ALL := List.mem_filter.mpr ⟨List.mem_append_left _ (List.mem_of_getElem? h), hg⟩
theorem aw {w : Cond} (h : w ∈ ALL) : w ∈ ALL ∧ ((w.onTables && w.keeps) = true ∨ ∃ ty, w = .arrayClass ty) := ⟨h, good_of_word (List.mem_filter.mp h).2⟩
theorem gV {own C : String} {idx : Nat} {y : MethodName} {cd : Cond} (h1 : Cond.methodLink own idx y ∈ ALL) (h2 : Cond.instanceMethod y ∈ ALL) (h3 : Cond.selects C y y ∈ ALL) (h4 : Cond.initialized C ∈ ALL) (h5 : cd ∈ ALL) : GoodIn ALL (wsV own idx C y (cd :: ALL)) := by
  intro w hw
  rcases List.mem_append.mp hw with h | h
  · rcases List.mem_cons.mp h with rfl | h
    · exact aw h1
    rcases List.mem_cons.mp h with rfl | h
    · exact aw h2
    rcases List.mem_cons.mp h with rfl | h
    · exact aw h3
    rcases List.mem_cons.mp h with rfl | h
    · exact aw h4
    · cases h
  · rcases List.mem_cons.mp h with rfl | h
    · exact aw h5
    · exact aw h
theorem gS {own : String} {idx : Nat} {y : MethodName} {cd : Cond} (h1 : Cond.methodLink own idx y ∈ ALL) (h2 : Cond.static y ∈ ALL) (h4 : Cond.initialized y.cls ∈ ALL) (h5 : cd ∈ ALL) : GoodIn ALL (va_wsS own idx y (cd :: ALL)) := by
  intro w hw
  rcases List.mem_append.mp hw with h | h
  · rcases List.mem_cons.mp h with rfl | h
    · exact aw h1
    rcases List.mem_cons.mp h with rfl | h
    · exact aw h2
    rcases List.mem_cons.mp h with rfl | h
    · exact aw h4
    · cases h
  · rcases List.mem_cons.mp h with rfl | h
    · exact aw h5
    · exact aw h
def R_SqlReader : String := "SqlReader"
set_option maxRecDepth 100000 in
theorem ii_SqlReader : Cond.initialized R_SqlReader ∈ ALL := tw 1 rfl rfl
def R_SqlReaderModel : String := "SqlReaderModel"
set_option maxRecDepth 100000 in
theorem ii_SqlReaderModel : Cond.initialized R_SqlReaderModel ∈ ALL := tw 10 rfl rfl
def R_Catalog : String := "SqlReader$Catalog"
set_option maxRecDepth 100000 in
theorem ii_Catalog : Cond.initialized R_Catalog ∈ ALL := tw 3 rfl rfl
def R_Lists : String := "SqlReader$Lists"
set_option maxRecDepth 100000 in
theorem ii_Lists : Cond.initialized R_Lists ∈ ALL := tw 6 rfl rfl
def R_Meaning : String := "SqlReader$Meaning"
set_option maxRecDepth 100000 in
theorem ii_Meaning : Cond.initialized R_Meaning ∈ ALL := tw 9 rfl rfl
def R_Nodes : String := "SqlReader$Nodes"
set_option maxRecDepth 100000 in
theorem ii_Nodes : Cond.initialized R_Nodes ∈ ALL := tw 5 rfl rfl
def R_Parser : String := "SqlReader$Parser"
set_option maxRecDepth 100000 in
theorem ii_Parser : Cond.initialized R_Parser ∈ ALL := tw 8 rfl rfl
def R_Statement : String := "SqlReader$Statement"
set_option maxRecDepth 100000 in
theorem ii_Statement : Cond.initialized R_Statement ∈ ALL := tw 7 rfl rfl
def R_Text : String := "SqlReader$Text"
set_option maxRecDepth 100000 in
theorem ii_Text : Cond.initialized R_Text ∈ ALL := tw 2 rfl rfl
def R_Tokens : String := "SqlReader$Tokens"
set_option maxRecDepth 100000 in
theorem ii_Tokens : Cond.initialized R_Tokens ∈ ALL := tw 4 rfl rfl
def R_Object : String := "java/lang/Object"
def R_Arrays : String := "java/util/Arrays"
set_option maxRecDepth 100000 in
theorem ii_Arrays : Cond.initialized R_Arrays ∈ ALL := tw 11 rfl rfl
def R_String : String := "java/lang/String"
set_option maxRecDepth 100000 in
theorem ii_String : Cond.initialized R_String ∈ ALL := tw 13 rfl rfl
def R_StringLatin1 : String := "java/lang/StringLatin1"
set_option maxRecDepth 100000 in
theorem ii_StringLatin1 : Cond.initialized R_StringLatin1 ∈ ALL := tw 14 rfl rfl
def R_Math : String := "java/lang/Math"
set_option maxRecDepth 100000 in
theorem ii_Math : Cond.initialized R_Math ∈ ALL := tw 15 rfl rfl
def R_StringUTF16 : String := "java/lang/StringUTF16"
set_option maxRecDepth 100000 in
theorem ii_StringUTF16 : Cond.initialized R_StringUTF16 ∈ ALL := tw 16 rfl rfl
def R_Preconditions : String := "jdk/internal/util/Preconditions"
set_option maxRecDepth 100000 in
theorem ii_Preconditions : Cond.initialized R_Preconditions ∈ ALL := tw 17 rfl rfl
def R_Character : String := "java/lang/Character"
set_option maxRecDepth 100000 in
theorem ii_Character : Cond.initialized R_Character ∈ ALL := tw 18 rfl rfl
def R_SqlReaderLaw : String := "SqlReaderLaw"
set_option maxRecDepth 100000 in
theorem ii_SqlReaderLaw : Cond.initialized R_SqlReaderLaw ∈ ALL := tw 0 rfl rfl
def T_SqlReader : u_T := fun k => match k with
  | 0 => ("SqlReader", "typed", "LSqlReader$Text;", true)
  | 1 => ("SqlReader", "catalog", "LSqlReader$Catalog;", true)
  | 2 => ("SqlReader", "tokens", "LSqlReader$Tokens;", true)
  | 3 => ("SqlReader", "nodes", "LSqlReader$Nodes;", true)
  | 4 => ("SqlReader", "lists", "LSqlReader$Lists;", true)
  | 5 => ("SqlReader", "statement", "LSqlReader$Statement;", true)
  | 6 => ("SqlReader", "parser", "LSqlReader$Parser;", true)
  | _ => ("SqlReader", "meaning", "LSqlReader$Meaning;", true)
def ty_SqlReader : Nat → FieldType := fun k => match k with
  | 0 => .object "SqlReader$Text"
  | 1 => .object "SqlReader$Catalog"
  | 2 => .object "SqlReader$Tokens"
  | 3 => .object "SqlReader$Nodes"
  | 4 => .object "SqlReader$Lists"
  | 5 => .object "SqlReader$Statement"
  | 6 => .object "SqlReader$Parser"
  | _ => .object "SqlReader$Meaning"
theorem nk_SqlReader : ∀ a, a < 8 → ∀ b, b < 8 → a ≠ b → (T_SqlReader a).2.1 ≠ (T_SqlReader b).2.1 := by decide +kernel
theorem tk_SqlReader : ∀ k, k < 8 → parseFieldDescriptor (T_SqlReader k).2.2.1 = some (ty_SqlReader k) := by decide +kernel
set_option maxRecDepth 100000 in
theorem in_SqlReader : ∀ x ∈ u_ws R_SqlReader T_SqlReader 8, x ∈ ALL := List.forall_mem_cons.mpr ⟨tw 289 rfl rfl, List.forall_mem_cons.mpr ⟨tw 291 rfl rfl, List.forall_mem_cons.mpr ⟨tw 293 rfl rfl, List.forall_mem_cons.mpr ⟨tw 295 rfl rfl, List.forall_mem_cons.mpr ⟨tw 297 rfl rfl, List.forall_mem_cons.mpr ⟨tw 299 rfl rfl, List.forall_mem_cons.mpr ⟨tw 301 rfl rfl, List.forall_mem_cons.mpr ⟨tw 303 rfl rfl, fun _ h => absurd h List.not_mem_nil⟩⟩⟩⟩⟩⟩⟩⟩
def T_SqlReaderModel : u_T := fun k => match k with
  | 0 => ("SqlReaderModel", "size", "I", false)
  | 1 => ("SqlReaderModel", "text", "[B", true)
  | 2 => ("SqlReaderModel", "tokens", "I", false)
  | 3 => ("SqlReaderModel", "tokenKind", "[I", true)
  | 4 => ("SqlReaderModel", "from", "[I", true)
  | 5 => ("SqlReaderModel", "to", "[I", true)
  | 6 => ("SqlReaderModel", "bad", "Z", false)
  | 7 => ("SqlReaderModel", "tables", "I", false)
  | 8 => ("SqlReaderModel", "tableNames", "[B", true)
  | 9 => ("SqlReaderModel", "tableSize", "[I", true)
  | 10 => ("SqlReaderModel", "width", "[I", true)
  | 11 => ("SqlReaderModel", "columnNames", "[B", true)
  | 12 => ("SqlReaderModel", "columnSize", "[I", true)
  | 13 => ("SqlReaderModel", "columnType", "[I", true)
  | 14 => ("SqlReaderModel", "nodes", "I", false)
  | 15 => ("SqlReaderModel", "kind", "[I", true)
  | 16 => ("SqlReaderModel", "left", "[I", true)
  | 17 => ("SqlReaderModel", "right", "[I", true)
  | 18 => ("SqlReaderModel", "type", "[I", true)
  | 19 => ("SqlReaderModel", "before", "[I", true)
  | 20 => ("SqlReaderModel", "named", "[I", true)
  | 21 => ("SqlReaderModel", "number", "[J", true)
  | 22 => ("SqlReaderModel", "letters", "[B", true)
  | 23 => ("SqlReaderModel", "length", "[I", true)
  | 24 => ("SqlReaderModel", "checks", "I", false)
  | 25 => ("SqlReaderModel", "check", "[I", true)
  | 26 => ("SqlReaderModel", "first", "[I", true)
  | 27 => ("SqlReaderModel", "second", "[I", true)
  | 28 => ("SqlReaderModel", "error", "I", false)
  | 29 => ("SqlReaderModel", "what", "I", false)
  | 30 => ("SqlReaderModel", "inner", "I", false)
  | 31 => ("SqlReaderModel", "target", "I", false)
  | 32 => ("SqlReaderModel", "targetToken", "I", false)
  | 33 => ("SqlReaderModel", "mode", "I", false)
  | 34 => ("SqlReaderModel", "named0", "I", false)
  | 35 => ("SqlReaderModel", "star", "Z", false)
  | 36 => ("SqlReaderModel", "distinct", "Z", false)
  | 37 => ("SqlReaderModel", "limit", "J", false)
  | 38 => ("SqlReaderModel", "where", "I", false)
  | 39 => ("SqlReaderModel", "items", "I", false)
  | 40 => ("SqlReaderModel", "item", "[I", true)
  | 41 => ("SqlReaderModel", "groups", "I", false)
  | 42 => ("SqlReaderModel", "group", "[I", true)
  | 43 => ("SqlReaderModel", "orders", "I", false)
  | 44 => ("SqlReaderModel", "order", "[J", true)
  | 45 => ("SqlReaderModel", "falls", "[Z", true)
  | 46 => ("SqlReaderModel", "froms", "I", false)
  | 47 => ("SqlReaderModel", "fromTable", "[I", true)
  | 48 => ("SqlReaderModel", "fromToken", "[I", true)
  | 49 => ("SqlReaderModel", "alias", "[I", true)
  | 50 => ("SqlReaderModel", "sets", "I", false)
  | 51 => ("SqlReaderModel", "setToken", "[I", true)
  | 52 => ("SqlReaderModel", "setColumn", "[I", true)
  | 53 => ("SqlReaderModel", "setNode", "[I", true)
  | 54 => ("SqlReaderModel", "rows", "I", false)
  | 55 => ("SqlReaderModel", "uneven", "Z", false)
  | 56 => ("SqlReaderModel", "values", "I", false)
  | 57 => ("SqlReaderModel", "value", "[I", true)
  | 58 => ("SqlReaderModel", "columns", "I", false)
  | 59 => ("SqlReaderModel", "newToken", "[I", true)
  | 60 => ("SqlReaderModel", "newType", "[I", true)
  | 61 => ("SqlReaderModel", "indexed", "I", false)
  | 62 => ("SqlReaderModel", "indexedToken", "I", false)
  | 63 => ("SqlReaderModel", "unique", "Z", false)
  | 64 => ("SqlReaderModel", "highest", "I", false)
  | 65 => ("SqlReaderModel", "needed", "[I", true)
  | 66 => ("SqlReaderModel", "inItems", "Z", false)
  | 67 => ("SqlReaderModel", "place", "I", false)
  | 68 => ("SqlReaderModel", "in", "[Z", true)
  | 69 => ("SqlReaderModel", "kept", "[B", true)
  | _ => ("SqlReaderModel", "keptSize", "[I", true)
def ty_SqlReaderModel : Nat → FieldType := fun k => match k with
  | 0 => .int
  | 1 => .array .byte
  | 2 => .int
  | 3 => .array .int
  | 4 => .array .int
  | 5 => .array .int
  | 6 => .boolean
  | 7 => .int
  | 8 => .array .byte
  | 9 => .array .int
  | 10 => .array .int
  | 11 => .array .byte
  | 12 => .array .int
  | 13 => .array .int
  | 14 => .int
  | 15 => .array .int
  | 16 => .array .int
  | 17 => .array .int
  | 18 => .array .int
  | 19 => .array .int
  | 20 => .array .int
  | 21 => .array .long
  | 22 => .array .byte
  | 23 => .array .int
  | 24 => .int
  | 25 => .array .int
  | 26 => .array .int
  | 27 => .array .int
  | 28 => .int
  | 29 => .int
  | 30 => .int
  | 31 => .int
  | 32 => .int
  | 33 => .int
  | 34 => .int
  | 35 => .boolean
  | 36 => .boolean
  | 37 => .long
  | 38 => .int
  | 39 => .int
  | 40 => .array .int
  | 41 => .int
  | 42 => .array .int
  | 43 => .int
  | 44 => .array .long
  | 45 => .array .boolean
  | 46 => .int
  | 47 => .array .int
  | 48 => .array .int
  | 49 => .array .int
  | 50 => .int
  | 51 => .array .int
  | 52 => .array .int
  | 53 => .array .int
  | 54 => .int
  | 55 => .boolean
  | 56 => .int
  | 57 => .array .int
  | 58 => .int
  | 59 => .array .int
  | 60 => .array .int
  | 61 => .int
  | 62 => .int
  | 63 => .boolean
  | 64 => .int
  | 65 => .array .int
  | 66 => .boolean
  | 67 => .int
  | 68 => .array .boolean
  | 69 => .array .byte
  | _ => .array .int
theorem nk_SqlReaderModel : ∀ a, a < 71 → ∀ b, b < 71 → a ≠ b → (T_SqlReaderModel a).2.1 ≠ (T_SqlReaderModel b).2.1 := by decide +kernel
theorem tk_SqlReaderModel : ∀ k, k < 71 → parseFieldDescriptor (T_SqlReaderModel k).2.2.1 = some (ty_SqlReaderModel k) := by decide +kernel
set_option maxRecDepth 100000 in
theorem in_SqlReaderModel : ∀ x ∈ u_ws R_SqlReaderModel T_SqlReaderModel 71, x ∈ ALL := List.forall_mem_cons.mpr ⟨tw 1234 rfl rfl, List.forall_mem_cons.mpr ⟨tw 1236 rfl rfl, List.forall_mem_cons.mpr ⟨tw 1238 rfl rfl, List.forall_mem_cons.mpr ⟨tw 1240 rfl rfl, List.forall_mem_cons.mpr ⟨tw 1242 rfl rfl, List.forall_mem_cons.mpr ⟨tw 1244 rfl rfl, List.forall_mem_cons.mpr ⟨tw 1246 rfl rfl, List.forall_mem_cons.mpr ⟨tw 1248 rfl rfl, List.forall_mem_cons.mpr ⟨tw 1250 rfl rfl, List.forall_mem_cons.mpr ⟨tw 1252 rfl rfl, List.forall_mem_cons.mpr ⟨tw 1254 rfl rfl, List.forall_mem_cons.mpr ⟨tw 1256 rfl rfl, List.forall_mem_cons.mpr ⟨tw 1258 rfl rfl, List.forall_mem_cons.mpr ⟨tw 1260 rfl rfl, List.forall_mem_cons.mpr ⟨tw 1262 rfl rfl, List.forall_mem_cons.mpr ⟨tw 1264 rfl rfl, List.forall_mem_cons.mpr ⟨tw 1266 rfl rfl, List.forall_mem_cons.mpr ⟨tw 1268 rfl rfl, List.forall_mem_cons.mpr ⟨tw 1270 rfl rfl, List.forall_mem_cons.mpr ⟨tw 1272 rfl rfl, List.forall_mem_cons.mpr ⟨tw 1274 rfl rfl, List.forall_mem_cons.mpr ⟨tw 1276 rfl rfl, List.forall_mem_cons.mpr ⟨tw 1278 rfl rfl, List.forall_mem_cons.mpr ⟨tw 1280 rfl rfl, List.forall_mem_cons.mpr ⟨tw 1282 rfl rfl, List.forall_mem_cons.mpr ⟨tw 1284 rfl rfl, List.forall_mem_cons.mpr ⟨tw 1286 rfl rfl, List.forall_mem_cons.mpr ⟨tw 1288 rfl rfl, List.forall_mem_cons.mpr ⟨tw 1290 rfl rfl, List.forall_mem_cons.mpr ⟨tw 1292 rfl rfl, List.forall_mem_cons.mpr ⟨tw 1294 rfl rfl, List.forall_mem_cons.mpr ⟨tw 1296 rfl rfl, List.forall_mem_cons.mpr ⟨tw 1298 rfl rfl, List.forall_mem_cons.mpr ⟨tw 1300 rfl rfl, List.forall_mem_cons.mpr ⟨tw 1302 rfl rfl, List.forall_mem_cons.mpr ⟨tw 1304 rfl rfl, List.forall_mem_cons.mpr ⟨tw 1306 rfl rfl, List.forall_mem_cons.mpr ⟨tw 1308 rfl rfl, List.forall_mem_cons.mpr ⟨tw 1310 rfl rfl, List.forall_mem_cons.mpr ⟨tw 1312 rfl rfl, List.forall_mem_cons.mpr ⟨tw 1314 rfl rfl, List.forall_mem_cons.mpr ⟨tw 1316 rfl rfl, List.forall_mem_cons.mpr ⟨tw 1318 rfl rfl, List.forall_mem_cons.mpr ⟨tw 1320 rfl rfl, List.forall_mem_cons.mpr ⟨tw 1322 rfl rfl, List.forall_mem_cons.mpr ⟨tw 1324 rfl rfl, List.forall_mem_cons.mpr ⟨tw 1326 rfl rfl, List.forall_mem_cons.mpr ⟨tw 1328 rfl rfl, List.forall_mem_cons.mpr ⟨tw 1330 rfl rfl, List.forall_mem_cons.mpr ⟨tw 1332 rfl rfl, List.forall_mem_cons.mpr ⟨tw 1334 rfl rfl, List.forall_mem_cons.mpr ⟨tw 1336 rfl rfl, List.forall_mem_cons.mpr ⟨tw 1338 rfl rfl, List.forall_mem_cons.mpr ⟨tw 1340 rfl rfl, List.forall_mem_cons.mpr ⟨tw 1342 rfl rfl, List.forall_mem_cons.mpr ⟨tw 1344 rfl rfl, List.forall_mem_cons.mpr ⟨tw 1346 rfl rfl, List.forall_mem_cons.mpr ⟨tw 1348 rfl rfl, List.forall_mem_cons.mpr ⟨tw 1350 rfl rfl, List.forall_mem_cons.mpr ⟨tw 1352 rfl rfl, List.forall_mem_cons.mpr ⟨tw 1354 rfl rfl, List.forall_mem_cons.mpr ⟨tw 1356 rfl rfl, List.forall_mem_cons.mpr ⟨tw 1358 rfl rfl, List.forall_mem_cons.mpr ⟨tw 1360 rfl rfl, List.forall_mem_cons.mpr ⟨tw 1362 rfl rfl, List.forall_mem_cons.mpr ⟨tw 1364 rfl rfl, List.forall_mem_cons.mpr ⟨tw 1366 rfl rfl, List.forall_mem_cons.mpr ⟨tw 1368 rfl rfl, List.forall_mem_cons.mpr ⟨tw 1370 rfl rfl, List.forall_mem_cons.mpr ⟨tw 1372 rfl rfl, List.forall_mem_cons.mpr ⟨tw 1374 rfl rfl, fun _ h => absurd h List.not_mem_nil⟩⟩⟩⟩⟩⟩⟩⟩⟩⟩⟩⟩⟩⟩⟩⟩⟩⟩⟩⟩⟩⟩⟩⟩⟩⟩⟩⟩⟩⟩⟩⟩⟩⟩⟩⟩⟩⟩⟩⟩⟩⟩⟩⟩⟩⟩⟩⟩⟩⟩⟩⟩⟩⟩⟩⟩⟩⟩⟩⟩⟩⟩⟩⟩⟩⟩⟩⟩⟩⟩⟩
def T_Catalog : u_T := fun k => match k with
  | 0 => ("SqlReader$Catalog", "names", "LSqlReader$Text;", true)
  | 1 => ("SqlReader$Catalog", "tableNames", "[I", true)
  | 2 => ("SqlReader$Catalog", "columnCounts", "[I", true)
  | 3 => ("SqlReader$Catalog", "columnNames", "[I", true)
  | 4 => ("SqlReader$Catalog", "columnTypes", "[I", true)
  | _ => ("SqlReader$Catalog", "tables", "I", false)
def ty_Catalog : Nat → FieldType := fun k => match k with
  | 0 => .object "SqlReader$Text"
  | 1 => .array .int
  | 2 => .array .int
  | 3 => .array .int
  | 4 => .array .int
  | _ => .int
theorem nk_Catalog : ∀ a, a < 6 → ∀ b, b < 6 → a ≠ b → (T_Catalog a).2.1 ≠ (T_Catalog b).2.1 := by decide +kernel
theorem tk_Catalog : ∀ k, k < 6 → parseFieldDescriptor (T_Catalog k).2.2.1 = some (ty_Catalog k) := by decide +kernel
set_option maxRecDepth 100000 in
theorem in_Catalog : ∀ x ∈ u_ws R_Catalog T_Catalog 6, x ∈ ALL := List.forall_mem_cons.mpr ⟨tw 55 rfl rfl, List.forall_mem_cons.mpr ⟨tw 57 rfl rfl, List.forall_mem_cons.mpr ⟨tw 59 rfl rfl, List.forall_mem_cons.mpr ⟨tw 61 rfl rfl, List.forall_mem_cons.mpr ⟨tw 63 rfl rfl, List.forall_mem_cons.mpr ⟨tw 65 rfl rfl, fun _ h => absurd h List.not_mem_nil⟩⟩⟩⟩⟩⟩
def T_Lists : u_T := fun k => match k with
  | 0 => ("SqlReader$Lists", "sizes", "[I", true)
  | 1 => ("SqlReader$Lists", "entries", "[I", true)
  | _ => ("SqlReader$Lists", "over", "Z", false)
def ty_Lists : Nat → FieldType := fun k => match k with
  | 0 => .array .int
  | 1 => .array .int
  | _ => .boolean
theorem nk_Lists : ∀ a, a < 3 → ∀ b, b < 3 → a ≠ b → (T_Lists a).2.1 ≠ (T_Lists b).2.1 := by decide +kernel
theorem tk_Lists : ∀ k, k < 3 → parseFieldDescriptor (T_Lists k).2.2.1 = some (ty_Lists k) := by decide +kernel
set_option maxRecDepth 100000 in
theorem in_Lists : ∀ x ∈ u_ws R_Lists T_Lists 3, x ∈ ALL := List.forall_mem_cons.mpr ⟨tw 139 rfl rfl, List.forall_mem_cons.mpr ⟨tw 141 rfl rfl, List.forall_mem_cons.mpr ⟨tw 143 rfl rfl, fun _ h => absurd h List.not_mem_nil⟩⟩⟩
def T_Meaning : u_T := fun k => match k with
  | 0 => ("SqlReader$Meaning", "catalog", "LSqlReader$Catalog;", true)
  | 1 => ("SqlReader$Meaning", "text", "LSqlReader$Text;", true)
  | 2 => ("SqlReader$Meaning", "nodes", "LSqlReader$Nodes;", true)
  | 3 => ("SqlReader$Meaning", "lists", "LSqlReader$Lists;", true)
  | 4 => ("SqlReader$Meaning", "statement", "LSqlReader$Statement;", true)
  | _ => ("SqlReader$Meaning", "judged", "I", false)
def ty_Meaning : Nat → FieldType := fun k => match k with
  | 0 => .object "SqlReader$Catalog"
  | 1 => .object "SqlReader$Text"
  | 2 => .object "SqlReader$Nodes"
  | 3 => .object "SqlReader$Lists"
  | 4 => .object "SqlReader$Statement"
  | _ => .int
theorem nk_Meaning : ∀ a, a < 6 → ∀ b, b < 6 → a ≠ b → (T_Meaning a).2.1 ≠ (T_Meaning b).2.1 := by decide +kernel
theorem tk_Meaning : ∀ k, k < 6 → parseFieldDescriptor (T_Meaning k).2.2.1 = some (ty_Meaning k) := by decide +kernel
set_option maxRecDepth 100000 in
theorem in_Meaning : ∀ x ∈ u_ws R_Meaning T_Meaning 6, x ∈ ALL := List.forall_mem_cons.mpr ⟨tw 268 rfl rfl, List.forall_mem_cons.mpr ⟨tw 270 rfl rfl, List.forall_mem_cons.mpr ⟨tw 272 rfl rfl, List.forall_mem_cons.mpr ⟨tw 274 rfl rfl, List.forall_mem_cons.mpr ⟨tw 276 rfl rfl, List.forall_mem_cons.mpr ⟨tw 278 rfl rfl, fun _ h => absurd h List.not_mem_nil⟩⟩⟩⟩⟩⟩
def T_Nodes : u_T := fun k => match k with
  | 0 => ("SqlReader$Nodes", "kinds", "[I", true)
  | 1 => ("SqlReader$Nodes", "firsts", "[I", true)
  | 2 => ("SqlReader$Nodes", "seconds", "[I", true)
  | 3 => ("SqlReader$Nodes", "types", "[I", true)
  | 4 => ("SqlReader$Nodes", "parents", "[I", true)
  | 5 => ("SqlReader$Nodes", "needs", "[I", true)
  | 6 => ("SqlReader$Nodes", "faults", "[I", true)
  | 7 => ("SqlReader$Nodes", "spans", "[I", true)
  | 8 => ("SqlReader$Nodes", "qualifiers", "[I", true)
  | 9 => ("SqlReader$Nodes", "size", "I", false)
  | _ => ("SqlReader$Nodes", "over", "Z", false)
def ty_Nodes : Nat → FieldType := fun k => match k with
  | 0 => .array .int
  | 1 => .array .int
  | 2 => .array .int
  | 3 => .array .int
  | 4 => .array .int
  | 5 => .array .int
  | 6 => .array .int
  | 7 => .array .int
  | 8 => .array .int
  | 9 => .int
  | _ => .boolean
theorem nk_Nodes : ∀ a, a < 11 → ∀ b, b < 11 → a ≠ b → (T_Nodes a).2.1 ≠ (T_Nodes b).2.1 := by decide +kernel
theorem tk_Nodes : ∀ k, k < 11 → parseFieldDescriptor (T_Nodes k).2.2.1 = some (ty_Nodes k) := by decide +kernel
set_option maxRecDepth 100000 in
theorem in_Nodes : ∀ x ∈ u_ws R_Nodes T_Nodes 11, x ∈ ALL := List.forall_mem_cons.mpr ⟨tw 107 rfl rfl, List.forall_mem_cons.mpr ⟨tw 109 rfl rfl, List.forall_mem_cons.mpr ⟨tw 111 rfl rfl, List.forall_mem_cons.mpr ⟨tw 113 rfl rfl, List.forall_mem_cons.mpr ⟨tw 115 rfl rfl, List.forall_mem_cons.mpr ⟨tw 117 rfl rfl, List.forall_mem_cons.mpr ⟨tw 119 rfl rfl, List.forall_mem_cons.mpr ⟨tw 121 rfl rfl, List.forall_mem_cons.mpr ⟨tw 123 rfl rfl, List.forall_mem_cons.mpr ⟨tw 125 rfl rfl, List.forall_mem_cons.mpr ⟨tw 127 rfl rfl, fun _ h => absurd h List.not_mem_nil⟩⟩⟩⟩⟩⟩⟩⟩⟩⟩⟩
def T_Parser : u_T := fun k => match k with
  | 0 => ("SqlReader$Parser", "tokens", "LSqlReader$Tokens;", true)
  | 1 => ("SqlReader$Parser", "nodes", "LSqlReader$Nodes;", true)
  | 2 => ("SqlReader$Parser", "lists", "LSqlReader$Lists;", true)
  | 3 => ("SqlReader$Parser", "statement", "LSqlReader$Statement;", true)
  | 4 => ("SqlReader$Parser", "prepared", "Z", false)
  | _ => ("SqlReader$Parser", "inItems", "Z", false)
def ty_Parser : Nat → FieldType := fun k => match k with
  | 0 => .object "SqlReader$Tokens"
  | 1 => .object "SqlReader$Nodes"
  | 2 => .object "SqlReader$Lists"
  | 3 => .object "SqlReader$Statement"
  | 4 => .boolean
  | _ => .boolean
theorem nk_Parser : ∀ a, a < 6 → ∀ b, b < 6 → a ≠ b → (T_Parser a).2.1 ≠ (T_Parser b).2.1 := by decide +kernel
theorem tk_Parser : ∀ k, k < 6 → parseFieldDescriptor (T_Parser k).2.2.1 = some (ty_Parser k) := by decide +kernel
set_option maxRecDepth 100000 in
theorem in_Parser : ∀ x ∈ u_ws R_Parser T_Parser 6, x ∈ ALL := List.forall_mem_cons.mpr ⟨tw 239 rfl rfl, List.forall_mem_cons.mpr ⟨tw 241 rfl rfl, List.forall_mem_cons.mpr ⟨tw 243 rfl rfl, List.forall_mem_cons.mpr ⟨tw 245 rfl rfl, List.forall_mem_cons.mpr ⟨tw 247 rfl rfl, List.forall_mem_cons.mpr ⟨tw 249 rfl rfl, fun _ h => absurd h List.not_mem_nil⟩⟩⟩⟩⟩⟩
def T_Statement : u_T := fun k => match k with
  | 0 => ("SqlReader$Statement", "kind", "I", false)
  | 1 => ("SqlReader$Statement", "deed", "I", false)
  | 2 => ("SqlReader$Statement", "title", "I", false)
  | 3 => ("SqlReader$Statement", "tableName", "I", false)
  | 4 => ("SqlReader$Statement", "table", "I", false)
  | 5 => ("SqlReader$Statement", "columnName", "I", false)
  | 6 => ("SqlReader$Statement", "column", "I", false)
  | 7 => ("SqlReader$Statement", "mode", "I", false)
  | 8 => ("SqlReader$Statement", "limit", "I", false)
  | 9 => ("SqlReader$Statement", "where", "I", false)
  | 10 => ("SqlReader$Statement", "unique", "Z", false)
  | 11 => ("SqlReader$Statement", "distinct", "Z", false)
  | _ => ("SqlReader$Statement", "star", "Z", false)
def ty_Statement : Nat → FieldType := fun k => match k with
  | 0 => .int
  | 1 => .int
  | 2 => .int
  | 3 => .int
  | 4 => .int
  | 5 => .int
  | 6 => .int
  | 7 => .int
  | 8 => .int
  | 9 => .int
  | 10 => .boolean
  | 11 => .boolean
  | _ => .boolean
theorem nk_Statement : ∀ a, a < 13 → ∀ b, b < 13 → a ≠ b → (T_Statement a).2.1 ≠ (T_Statement b).2.1 := by decide +kernel
theorem tk_Statement : ∀ k, k < 13 → parseFieldDescriptor (T_Statement k).2.2.1 = some (ty_Statement k) := by decide +kernel
set_option maxRecDepth 100000 in
theorem in_Statement : ∀ x ∈ u_ws R_Statement T_Statement 13, x ∈ ALL := List.forall_mem_cons.mpr ⟨tw 200 rfl rfl, List.forall_mem_cons.mpr ⟨tw 202 rfl rfl, List.forall_mem_cons.mpr ⟨tw 204 rfl rfl, List.forall_mem_cons.mpr ⟨tw 206 rfl rfl, List.forall_mem_cons.mpr ⟨tw 208 rfl rfl, List.forall_mem_cons.mpr ⟨tw 210 rfl rfl, List.forall_mem_cons.mpr ⟨tw 212 rfl rfl, List.forall_mem_cons.mpr ⟨tw 214 rfl rfl, List.forall_mem_cons.mpr ⟨tw 216 rfl rfl, List.forall_mem_cons.mpr ⟨tw 218 rfl rfl, List.forall_mem_cons.mpr ⟨tw 220 rfl rfl, List.forall_mem_cons.mpr ⟨tw 222 rfl rfl, List.forall_mem_cons.mpr ⟨tw 224 rfl rfl, fun _ h => absurd h List.not_mem_nil⟩⟩⟩⟩⟩⟩⟩⟩⟩⟩⟩⟩⟩
def T_Text : u_T := fun k => match k with
  | 0 => ("SqlReader$Text", "bytes", "[B", true)
  | _ => ("SqlReader$Text", "size", "I", false)
def ty_Text : Nat → FieldType := fun k => match k with
  | 0 => .array .byte
  | _ => .int
theorem nk_Text : ∀ a, a < 2 → ∀ b, b < 2 → a ≠ b → (T_Text a).2.1 ≠ (T_Text b).2.1 := by decide +kernel
theorem tk_Text : ∀ k, k < 2 → parseFieldDescriptor (T_Text k).2.2.1 = some (ty_Text k) := by decide +kernel
set_option maxRecDepth 100000 in
theorem in_Text : ∀ x ∈ u_ws R_Text T_Text 2, x ∈ ALL := List.forall_mem_cons.mpr ⟨tw 35 rfl rfl, List.forall_mem_cons.mpr ⟨tw 37 rfl rfl, fun _ h => absurd h List.not_mem_nil⟩⟩
def T_Tokens : u_T := fun k => match k with
  | 0 => ("SqlReader$Tokens", "text", "LSqlReader$Text;", true)
  | 1 => ("SqlReader$Tokens", "entries", "[I", true)
  | 2 => ("SqlReader$Tokens", "size", "I", false)
  | _ => ("SqlReader$Tokens", "next", "I", false)
def ty_Tokens : Nat → FieldType := fun k => match k with
  | 0 => .object "SqlReader$Text"
  | 1 => .array .int
  | 2 => .int
  | _ => .int
theorem nk_Tokens : ∀ a, a < 4 → ∀ b, b < 4 → a ≠ b → (T_Tokens a).2.1 ≠ (T_Tokens b).2.1 := by decide +kernel
theorem tk_Tokens : ∀ k, k < 4 → parseFieldDescriptor (T_Tokens k).2.2.1 = some (ty_Tokens k) := by decide +kernel
set_option maxRecDepth 100000 in
theorem in_Tokens : ∀ x ∈ u_ws R_Tokens T_Tokens 4, x ∈ ALL := List.forall_mem_cons.mpr ⟨tw 81 rfl rfl, List.forall_mem_cons.mpr ⟨tw 83 rfl rfl, List.forall_mem_cons.mpr ⟨tw 85 rfl rfl, List.forall_mem_cons.mpr ⟨tw 87 rfl rfl, fun _ h => absurd h List.not_mem_nil⟩⟩⟩⟩
abbrev vwCl : List vw_C := [(R_SqlReader, T_SqlReader, 8), (R_SqlReaderModel, T_SqlReaderModel, 71), (R_Catalog, T_Catalog, 6), (R_Lists, T_Lists, 3), (R_Meaning, T_Meaning, 6), (R_Nodes, T_Nodes, 11), (R_Parser, T_Parser, 6), (R_Statement, T_Statement, 13), (R_Text, T_Text, 2), (R_Tokens, T_Tokens, 4)]
def y_SqlReader_init : MethodName := ⟨"SqlReader", "<init>", "()V"⟩
theorem dk_SqlReader_init : y_SqlReader_init.cls ≠ "java/lang/invoke/MethodHandle" ∧ y_SqlReader_init.cls ≠ "java/lang/invoke/VarHandle" ∧ (parseMethodDescriptor y_SqlReader_init.desc).map (fun d => d.parameters.length) = some 0 := by decide +kernel
set_option maxRecDepth 100000 in
theorem ck_SqlReader_init : Cond.code y_SqlReader_init prog_1_method_1_code 1 none ∈ ALL := tw 23 rfl rfl
def y_Object_init : MethodName := ⟨"java/lang/Object", "<init>", "()V"⟩
theorem dk_Object_init : y_Object_init.cls ≠ "java/lang/invoke/MethodHandle" ∧ y_Object_init.cls ≠ "java/lang/invoke/VarHandle" ∧ (parseMethodDescriptor y_Object_init.desc).map (fun d => d.parameters.length) = some 0 := by decide +kernel
set_option maxRecDepth 100000 in
theorem ck_Object_init : Cond.code y_Object_init object_method_1_code 1 none ∈ ALL := tw 26 rfl rfl
def y_Text_init : MethodName := ⟨"SqlReader$Text", "<init>", "()V"⟩
theorem dk_Text_init : y_Text_init.cls ≠ "java/lang/invoke/MethodHandle" ∧ y_Text_init.cls ≠ "java/lang/invoke/VarHandle" ∧ (parseMethodDescriptor y_Text_init.desc).map (fun d => d.parameters.length) = some 0 := by decide +kernel
set_option maxRecDepth 100000 in
theorem ck_Text_init : Cond.code y_Text_init prog_8_method_1_code 1 none ∈ ALL := tw 31 rfl rfl
def y_Catalog_init : MethodName := ⟨"SqlReader$Catalog", "<init>", "()V"⟩
theorem dk_Catalog_init : y_Catalog_init.cls ≠ "java/lang/invoke/MethodHandle" ∧ y_Catalog_init.cls ≠ "java/lang/invoke/VarHandle" ∧ (parseMethodDescriptor y_Catalog_init.desc).map (fun d => d.parameters.length) = some 0 := by decide +kernel
set_option maxRecDepth 100000 in
theorem ck_Catalog_init : Cond.code y_Catalog_init prog_2_method_1_code 1 none ∈ ALL := tw 45 rfl rfl
def y_Tokens_init : MethodName := ⟨"SqlReader$Tokens", "<init>", "()V"⟩
theorem dk_Tokens_init : y_Tokens_init.cls ≠ "java/lang/invoke/MethodHandle" ∧ y_Tokens_init.cls ≠ "java/lang/invoke/VarHandle" ∧ (parseMethodDescriptor y_Tokens_init.desc).map (fun d => d.parameters.length) = some 0 := by decide +kernel
set_option maxRecDepth 100000 in
theorem ck_Tokens_init : Cond.code y_Tokens_init prog_9_method_1_code 1 none ∈ ALL := tw 73 rfl rfl
def y_Nodes_init : MethodName := ⟨"SqlReader$Nodes", "<init>", "()V"⟩
theorem dk_Nodes_init : y_Nodes_init.cls ≠ "java/lang/invoke/MethodHandle" ∧ y_Nodes_init.cls ≠ "java/lang/invoke/VarHandle" ∧ (parseMethodDescriptor y_Nodes_init.desc).map (fun d => d.parameters.length) = some 0 := by decide +kernel
set_option maxRecDepth 100000 in
theorem ck_Nodes_init : Cond.code y_Nodes_init prog_5_method_1_code 1 none ∈ ALL := tw 94 rfl rfl
def y_Lists_init : MethodName := ⟨"SqlReader$Lists", "<init>", "()V"⟩
theorem dk_Lists_init : y_Lists_init.cls ≠ "java/lang/invoke/MethodHandle" ∧ y_Lists_init.cls ≠ "java/lang/invoke/VarHandle" ∧ (parseMethodDescriptor y_Lists_init.desc).map (fun d => d.parameters.length) = some 0 := by decide +kernel
set_option maxRecDepth 100000 in
theorem ck_Lists_init : Cond.code y_Lists_init prog_3_method_1_code 1 none ∈ ALL := tw 134 rfl rfl
def y_Statement_init : MethodName := ⟨"SqlReader$Statement", "<init>", "()V"⟩
theorem dk_Statement_init : y_Statement_init.cls ≠ "java/lang/invoke/MethodHandle" ∧ y_Statement_init.cls ≠ "java/lang/invoke/VarHandle" ∧ (parseMethodDescriptor y_Statement_init.desc).map (fun d => d.parameters.length) = some 0 := by decide +kernel
set_option maxRecDepth 100000 in
theorem ck_Statement_init : Cond.code y_Statement_init prog_7_method_1_code 1 none ∈ ALL := tw 150 rfl rfl
def y_Statement_clear : MethodName := ⟨"SqlReader$Statement", "clear", "()V"⟩
theorem dk_Statement_clear : y_Statement_clear.cls ≠ "java/lang/invoke/MethodHandle" ∧ y_Statement_clear.cls ≠ "java/lang/invoke/VarHandle" ∧ (parseMethodDescriptor y_Statement_clear.desc).map (fun d => d.parameters.length) = some 0 := by decide +kernel
set_option maxRecDepth 100000 in
theorem ck_Statement_clear : Cond.code y_Statement_clear prog_7_method_2_code 1 none ∈ ALL := tw 155 rfl rfl
def y_Parser_init : MethodName := ⟨"SqlReader$Parser", "<init>", "(LSqlReader$Tokens;LSqlReader$Nodes;LSqlReader$Lists;LSqlReader$Statement;)V"⟩
theorem dk_Parser_init : y_Parser_init.cls ≠ "java/lang/invoke/MethodHandle" ∧ y_Parser_init.cls ≠ "java/lang/invoke/VarHandle" ∧ (parseMethodDescriptor y_Parser_init.desc).map (fun d => d.parameters.length) = some 4 := by decide +kernel
set_option maxRecDepth 100000 in
theorem ck_Parser_init : Cond.code y_Parser_init prog_6_method_1_code 5 none ∈ ALL := tw 231 rfl rfl
def y_Meaning_init : MethodName := ⟨"SqlReader$Meaning", "<init>", "(LSqlReader$Catalog;LSqlReader$Tokens;LSqlReader$Nodes;LSqlReader$Lists;LSqlReader$Statement;)V"⟩
theorem dk_Meaning_init : y_Meaning_init.cls ≠ "java/lang/invoke/MethodHandle" ∧ y_Meaning_init.cls ≠ "java/lang/invoke/VarHandle" ∧ (parseMethodDescriptor y_Meaning_init.desc).map (fun d => d.parameters.length) = some 5 := by decide +kernel
set_option maxRecDepth 100000 in
theorem ck_Meaning_init : Cond.code y_Meaning_init prog_4_method_1_code 6 none ∈ ALL := tw 256 rfl rfl
def y_Tokens_text : MethodName := ⟨"SqlReader$Tokens", "text", "()LSqlReader$Text;"⟩
theorem dk_Tokens_text : y_Tokens_text.cls ≠ "java/lang/invoke/MethodHandle" ∧ y_Tokens_text.cls ≠ "java/lang/invoke/VarHandle" ∧ (parseMethodDescriptor y_Tokens_text.desc).map (fun d => d.parameters.length) = some 0 := by decide +kernel
set_option maxRecDepth 100000 in
theorem ck_Tokens_text : Cond.code y_Tokens_text prog_9_method_2_code 1 (some (.object "SqlReader$Text")) ∈ ALL := tw 261 rfl rfl
def y_SqlReader_type : MethodName := ⟨"SqlReader", "type", "(JI)Z"⟩
theorem dk_SqlReader_type : y_SqlReader_type.cls ≠ "java/lang/invoke/MethodHandle" ∧ y_SqlReader_type.cls ≠ "java/lang/invoke/VarHandle" ∧ (parseMethodDescriptor y_SqlReader_type.desc).map (fun d => d.parameters.length) = some 2 := by decide +kernel
set_option maxRecDepth 100000 in
theorem ck_SqlReader_type : Cond.code y_SqlReader_type prog_1_method_2_code 4 (some .boolean) ∈ ALL := tw 309 rfl rfl
def y_Text_append : MethodName := ⟨"SqlReader$Text", "append", "(JI)Z"⟩
theorem dk_Text_append : y_Text_append.cls ≠ "java/lang/invoke/MethodHandle" ∧ y_Text_append.cls ≠ "java/lang/invoke/VarHandle" ∧ (parseMethodDescriptor y_Text_append.desc).map (fun d => d.parameters.length) = some 2 := by decide +kernel
set_option maxRecDepth 100000 in
theorem ck_Text_append : Cond.code y_Text_append prog_8_method_12_code 5 (some .boolean) ∈ ALL := tw 313 rfl rfl
def y_SqlReader_table : MethodName := ⟨"SqlReader", "table", "()I"⟩
theorem dk_SqlReader_table : y_SqlReader_table.cls ≠ "java/lang/invoke/MethodHandle" ∧ y_SqlReader_table.cls ≠ "java/lang/invoke/VarHandle" ∧ (parseMethodDescriptor y_SqlReader_table.desc).map (fun d => d.parameters.length) = some 0 := by decide +kernel
set_option maxRecDepth 100000 in
theorem ck_SqlReader_table : Cond.code y_SqlReader_table prog_1_method_3_code 2 (some .int) ∈ ALL := tw 317 rfl rfl
def y_Catalog_addTable : MethodName := ⟨"SqlReader$Catalog", "addTable", "(LSqlReader$Text;)I"⟩
theorem dk_Catalog_addTable : y_Catalog_addTable.cls ≠ "java/lang/invoke/MethodHandle" ∧ y_Catalog_addTable.cls ≠ "java/lang/invoke/VarHandle" ∧ (parseMethodDescriptor y_Catalog_addTable.desc).map (fun d => d.parameters.length) = some 1 := by decide +kernel
set_option maxRecDepth 100000 in
theorem ck_Catalog_addTable : Cond.code y_Catalog_addTable prog_2_method_2_code 2 (some .int) ∈ ALL := tw 321 rfl rfl
def y_Text_isName : MethodName := ⟨"SqlReader$Text", "isName", "()Z"⟩
theorem dk_Text_isName : y_Text_isName.cls ≠ "java/lang/invoke/MethodHandle" ∧ y_Text_isName.cls ≠ "java/lang/invoke/VarHandle" ∧ (parseMethodDescriptor y_Text_isName.desc).map (fun d => d.parameters.length) = some 0 := by decide +kernel
set_option maxRecDepth 100000 in
theorem ck_Text_isName : Cond.code y_Text_isName prog_8_method_15_code 2 (some .boolean) ∈ ALL := tw 325 rfl rfl
def y_Text_at : MethodName := ⟨"SqlReader$Text", "at", "(I)I"⟩
theorem dk_Text_at : y_Text_at.cls ≠ "java/lang/invoke/MethodHandle" ∧ y_Text_at.cls ≠ "java/lang/invoke/VarHandle" ∧ (parseMethodDescriptor y_Text_at.desc).map (fun d => d.parameters.length) = some 1 := by decide +kernel
set_option maxRecDepth 100000 in
theorem ck_Text_at : Cond.code y_Text_at prog_8_method_10_code 2 (some .int) ∈ ALL := tw 329 rfl rfl
def y_Text_isSmall : MethodName := ⟨"SqlReader$Text", "isSmall", "(I)Z"⟩
theorem dk_Text_isSmall : y_Text_isSmall.cls ≠ "java/lang/invoke/MethodHandle" ∧ y_Text_isSmall.cls ≠ "java/lang/invoke/VarHandle" ∧ (parseMethodDescriptor y_Text_isSmall.desc).map (fun d => d.parameters.length) = some 1 := by decide +kernel
set_option maxRecDepth 100000 in
theorem ck_Text_isSmall : Cond.code y_Text_isSmall prog_8_method_5_code 1 (some .boolean) ∈ ALL := tw 332 rfl rfl
def y_Text_isOfName : MethodName := ⟨"SqlReader$Text", "isOfName", "(I)Z"⟩
theorem dk_Text_isOfName : y_Text_isOfName.cls ≠ "java/lang/invoke/MethodHandle" ∧ y_Text_isOfName.cls ≠ "java/lang/invoke/VarHandle" ∧ (parseMethodDescriptor y_Text_isOfName.desc).map (fun d => d.parameters.length) = some 1 := by decide +kernel
set_option maxRecDepth 100000 in
theorem ck_Text_isOfName : Cond.code y_Text_isOfName prog_8_method_7_code 1 (some .boolean) ∈ ALL := tw 335 rfl rfl
def y_Text_isDigit : MethodName := ⟨"SqlReader$Text", "isDigit", "(I)Z"⟩
theorem dk_Text_isDigit : y_Text_isDigit.cls ≠ "java/lang/invoke/MethodHandle" ∧ y_Text_isDigit.cls ≠ "java/lang/invoke/VarHandle" ∧ (parseMethodDescriptor y_Text_isDigit.desc).map (fun d => d.parameters.length) = some 1 := by decide +kernel
set_option maxRecDepth 100000 in
theorem ck_Text_isDigit : Cond.code y_Text_isDigit prog_8_method_6_code 1 (some .boolean) ∈ ALL := tw 338 rfl rfl
def y_Text_size : MethodName := ⟨"SqlReader$Text", "size", "()I"⟩
theorem dk_Text_size : y_Text_size.cls ≠ "java/lang/invoke/MethodHandle" ∧ y_Text_size.cls ≠ "java/lang/invoke/VarHandle" ∧ (parseMethodDescriptor y_Text_size.desc).map (fun d => d.parameters.length) = some 0 := by decide +kernel
set_option maxRecDepth 100000 in
theorem ck_Text_size : Cond.code y_Text_size prog_8_method_8_code 1 (some .int) ∈ ALL := tw 342 rfl rfl
def y_Text_span : MethodName := ⟨"SqlReader$Text", "span", "(II)I"⟩
theorem dk_Text_span : y_Text_span.cls ≠ "java/lang/invoke/MethodHandle" ∧ y_Text_span.cls ≠ "java/lang/invoke/VarHandle" ∧ (parseMethodDescriptor y_Text_span.desc).map (fun d => d.parameters.length) = some 2 := by decide +kernel
set_option maxRecDepth 100000 in
theorem ck_Text_span : Cond.code y_Text_span prog_8_method_2_code 2 (some .int) ∈ ALL := tw 345 rfl rfl
def y_Catalog_findTable : MethodName := ⟨"SqlReader$Catalog", "findTable", "(LSqlReader$Text;I)I"⟩
theorem dk_Catalog_findTable : y_Catalog_findTable.cls ≠ "java/lang/invoke/MethodHandle" ∧ y_Catalog_findTable.cls ≠ "java/lang/invoke/VarHandle" ∧ (parseMethodDescriptor y_Catalog_findTable.desc).map (fun d => d.parameters.length) = some 2 := by decide +kernel
set_option maxRecDepth 100000 in
theorem ck_Catalog_findTable : Cond.code y_Catalog_findTable prog_2_method_4_code 4 (some .int) ∈ ALL := tw 349 rfl rfl
def y_Text_same : MethodName := ⟨"SqlReader$Text", "same", "(ILSqlReader$Text;I)Z"⟩
theorem dk_Text_same : y_Text_same.cls ≠ "java/lang/invoke/MethodHandle" ∧ y_Text_same.cls ≠ "java/lang/invoke/VarHandle" ∧ (parseMethodDescriptor y_Text_same.desc).map (fun d => d.parameters.length) = some 3 := by decide +kernel
set_option maxRecDepth 100000 in
theorem ck_Text_same : Cond.code y_Text_same prog_8_method_17_code 6 (some .boolean) ∈ ALL := tw 353 rfl rfl
def y_Text_sizeOf : MethodName := ⟨"SqlReader$Text", "sizeOf", "(I)I"⟩
theorem dk_Text_sizeOf : y_Text_sizeOf.cls ≠ "java/lang/invoke/MethodHandle" ∧ y_Text_sizeOf.cls ≠ "java/lang/invoke/VarHandle" ∧ (parseMethodDescriptor y_Text_sizeOf.desc).map (fun d => d.parameters.length) = some 1 := by decide +kernel
set_option maxRecDepth 100000 in
theorem ck_Text_sizeOf : Cond.code y_Text_sizeOf prog_8_method_4_code 1 (some .int) ∈ ALL := tw 356 rfl rfl
def y_Text_startOf : MethodName := ⟨"SqlReader$Text", "startOf", "(I)I"⟩
theorem dk_Text_startOf : y_Text_startOf.cls ≠ "java/lang/invoke/MethodHandle" ∧ y_Text_startOf.cls ≠ "java/lang/invoke/VarHandle" ∧ (parseMethodDescriptor y_Text_startOf.desc).map (fun d => d.parameters.length) = some 1 := by decide +kernel
set_option maxRecDepth 100000 in
theorem ck_Text_startOf : Cond.code y_Text_startOf prog_8_method_3_code 1 (some .int) ∈ ALL := tw 359 rfl rfl
def y_Text_keep : MethodName := ⟨"SqlReader$Text", "keep", "(LSqlReader$Text;)I"⟩
theorem dk_Text_keep : y_Text_keep.cls ≠ "java/lang/invoke/MethodHandle" ∧ y_Text_keep.cls ≠ "java/lang/invoke/VarHandle" ∧ (parseMethodDescriptor y_Text_keep.desc).map (fun d => d.parameters.length) = some 1 := by decide +kernel
set_option maxRecDepth 100000 in
theorem ck_Text_keep : Cond.code y_Text_keep prog_8_method_14_code 4 (some .int) ∈ ALL := tw 363 rfl rfl
def y_Text_clear : MethodName := ⟨"SqlReader$Text", "clear", "()V"⟩
theorem dk_Text_clear : y_Text_clear.cls ≠ "java/lang/invoke/MethodHandle" ∧ y_Text_clear.cls ≠ "java/lang/invoke/VarHandle" ∧ (parseMethodDescriptor y_Text_clear.desc).map (fun d => d.parameters.length) = some 0 := by decide +kernel
set_option maxRecDepth 100000 in
theorem ck_Text_clear : Cond.code y_Text_clear prog_8_method_9_code 1 none ∈ ALL := tw 368 rfl rfl
def y_SqlReader_column : MethodName := ⟨"SqlReader", "column", "(II)I"⟩
theorem dk_SqlReader_column : y_SqlReader_column.cls ≠ "java/lang/invoke/MethodHandle" ∧ y_SqlReader_column.cls ≠ "java/lang/invoke/VarHandle" ∧ (parseMethodDescriptor y_SqlReader_column.desc).map (fun d => d.parameters.length) = some 2 := by decide +kernel
set_option maxRecDepth 100000 in
theorem ck_SqlReader_column : Cond.code y_SqlReader_column prog_1_method_4_code 4 (some .int) ∈ ALL := tw 372 rfl rfl
def y_Catalog_addColumn : MethodName := ⟨"SqlReader$Catalog", "addColumn", "(IILSqlReader$Text;)I"⟩
theorem dk_Catalog_addColumn : y_Catalog_addColumn.cls ≠ "java/lang/invoke/MethodHandle" ∧ y_Catalog_addColumn.cls ≠ "java/lang/invoke/VarHandle" ∧ (parseMethodDescriptor y_Catalog_addColumn.desc).map (fun d => d.parameters.length) = some 3 := by decide +kernel
set_option maxRecDepth 100000 in
theorem ck_Catalog_addColumn : Cond.code y_Catalog_addColumn prog_2_method_3_code 5 (some .int) ∈ ALL := tw 376 rfl rfl
def y_Catalog_has : MethodName := ⟨"SqlReader$Catalog", "has", "(I)Z"⟩
theorem dk_Catalog_has : y_Catalog_has.cls ≠ "java/lang/invoke/MethodHandle" ∧ y_Catalog_has.cls ≠ "java/lang/invoke/VarHandle" ∧ (parseMethodDescriptor y_Catalog_has.desc).map (fun d => d.parameters.length) = some 1 := by decide +kernel
set_option maxRecDepth 100000 in
theorem ck_Catalog_has : Cond.code y_Catalog_has prog_2_method_8_code 2 (some .boolean) ∈ ALL := tw 380 rfl rfl
def y_Catalog_findColumn : MethodName := ⟨"SqlReader$Catalog", "findColumn", "(ILSqlReader$Text;I)I"⟩
theorem dk_Catalog_findColumn : y_Catalog_findColumn.cls ≠ "java/lang/invoke/MethodHandle" ∧ y_Catalog_findColumn.cls ≠ "java/lang/invoke/VarHandle" ∧ (parseMethodDescriptor y_Catalog_findColumn.desc).map (fun d => d.parameters.length) = some 3 := by decide +kernel
set_option maxRecDepth 100000 in
theorem ck_Catalog_findColumn : Cond.code y_Catalog_findColumn prog_2_method_5_code 5 (some .int) ∈ ALL := tw 384 rfl rfl
def y_Catalog_columnsOf : MethodName := ⟨"SqlReader$Catalog", "columnsOf", "(I)I"⟩
theorem dk_Catalog_columnsOf : y_Catalog_columnsOf.cls ≠ "java/lang/invoke/MethodHandle" ∧ y_Catalog_columnsOf.cls ≠ "java/lang/invoke/VarHandle" ∧ (parseMethodDescriptor y_Catalog_columnsOf.desc).map (fun d => d.parameters.length) = some 1 := by decide +kernel
set_option maxRecDepth 100000 in
theorem ck_Catalog_columnsOf : Cond.code y_Catalog_columnsOf prog_2_method_6_code 2 (some .int) ∈ ALL := tw 388 rfl rfl
def y_SqlReader_read : MethodName := ⟨"SqlReader", "read", "()I"⟩
theorem dk_SqlReader_read : y_SqlReader_read.cls ≠ "java/lang/invoke/MethodHandle" ∧ y_SqlReader_read.cls ≠ "java/lang/invoke/VarHandle" ∧ (parseMethodDescriptor y_SqlReader_read.desc).map (fun d => d.parameters.length) = some 0 := by decide +kernel
set_option maxRecDepth 100000 in
theorem ck_SqlReader_read : Cond.code y_SqlReader_read prog_1_method_5_code 4 (some .int) ∈ ALL := tw 392 rfl rfl
def y_SqlReader_forget : MethodName := ⟨"SqlReader", "forget", "()V"⟩
theorem dk_SqlReader_forget : y_SqlReader_forget.cls ≠ "java/lang/invoke/MethodHandle" ∧ y_SqlReader_forget.cls ≠ "java/lang/invoke/VarHandle" ∧ (parseMethodDescriptor y_SqlReader_forget.desc).map (fun d => d.parameters.length) = some 0 := by decide +kernel
set_option maxRecDepth 100000 in
theorem ck_SqlReader_forget : Cond.code y_SqlReader_forget prog_1_method_12_code 1 none ∈ ALL := tw 396 rfl rfl
def y_Nodes_clear : MethodName := ⟨"SqlReader$Nodes", "clear", "()V"⟩
theorem dk_Nodes_clear : y_Nodes_clear.cls ≠ "java/lang/invoke/MethodHandle" ∧ y_Nodes_clear.cls ≠ "java/lang/invoke/VarHandle" ∧ (parseMethodDescriptor y_Nodes_clear.desc).map (fun d => d.parameters.length) = some 0 := by decide +kernel
set_option maxRecDepth 100000 in
theorem ck_Nodes_clear : Cond.code y_Nodes_clear prog_5_method_5_code 1 none ∈ ALL := tw 400 rfl rfl
def y_Lists_clear : MethodName := ⟨"SqlReader$Lists", "clear", "()V"⟩
theorem dk_Lists_clear : y_Lists_clear.cls ≠ "java/lang/invoke/MethodHandle" ∧ y_Lists_clear.cls ≠ "java/lang/invoke/VarHandle" ∧ (parseMethodDescriptor y_Lists_clear.desc).map (fun d => d.parameters.length) = some 0 := by decide +kernel
set_option maxRecDepth 100000 in
theorem ck_Lists_clear : Cond.code y_Lists_clear prog_3_method_2_code 1 none ∈ ALL := tw 404 rfl rfl
def y_Arrays_fill : MethodName := ⟨"java/util/Arrays", "fill", "([II)V"⟩
theorem dk_Arrays_fill : y_Arrays_fill.cls ≠ "java/lang/invoke/MethodHandle" ∧ y_Arrays_fill.cls ≠ "java/lang/invoke/VarHandle" ∧ (parseMethodDescriptor y_Arrays_fill.desc).map (fun d => d.parameters.length) = some 2 := by decide +kernel
set_option maxRecDepth 100000 in
theorem ck_Arrays_fill : Cond.code y_Arrays_fill prog_18_method_103_code 4 none ∈ ALL := tw 407 rfl rfl
def y_Tokens_cut : MethodName := ⟨"SqlReader$Tokens", "cut", "(LSqlReader$Text;)Z"⟩
theorem dk_Tokens_cut : y_Tokens_cut.cls ≠ "java/lang/invoke/MethodHandle" ∧ y_Tokens_cut.cls ≠ "java/lang/invoke/VarHandle" ∧ (parseMethodDescriptor y_Tokens_cut.desc).map (fun d => d.parameters.length) = some 1 := by decide +kernel
set_option maxRecDepth 100000 in
theorem ck_Tokens_cut : Cond.code y_Tokens_cut prog_9_method_3_code 4 (some .boolean) ∈ ALL := tw 412 rfl rfl
def y_Text_copy : MethodName := ⟨"SqlReader$Text", "copy", "(LSqlReader$Text;)V"⟩
theorem dk_Text_copy : y_Text_copy.cls ≠ "java/lang/invoke/MethodHandle" ∧ y_Text_copy.cls ≠ "java/lang/invoke/VarHandle" ∧ (parseMethodDescriptor y_Text_copy.desc).map (fun d => d.parameters.length) = some 1 := by decide +kernel
set_option maxRecDepth 100000 in
theorem ck_Text_copy : Cond.code y_Text_copy prog_8_method_13_code 2 none ∈ ALL := tw 416 rfl rfl
def y_Tokens_cutToken : MethodName := ⟨"SqlReader$Tokens", "cutToken", "(I)I"⟩
theorem dk_Tokens_cutToken : y_Tokens_cutToken.cls ≠ "java/lang/invoke/MethodHandle" ∧ y_Tokens_cutToken.cls ≠ "java/lang/invoke/VarHandle" ∧ (parseMethodDescriptor y_Tokens_cutToken.desc).map (fun d => d.parameters.length) = some 1 := by decide +kernel
set_option maxRecDepth 100000 in
theorem ck_Tokens_cutToken : Cond.code y_Tokens_cutToken prog_9_method_10_code 4 (some .int) ∈ ALL := tw 425 rfl rfl
def y_Tokens_isCapital : MethodName := ⟨"SqlReader$Tokens", "isCapital", "(I)Z"⟩
theorem dk_Tokens_isCapital : y_Tokens_isCapital.cls ≠ "java/lang/invoke/MethodHandle" ∧ y_Tokens_isCapital.cls ≠ "java/lang/invoke/VarHandle" ∧ (parseMethodDescriptor y_Tokens_isCapital.desc).map (fun d => d.parameters.length) = some 1 := by decide +kernel
set_option maxRecDepth 100000 in
theorem ck_Tokens_isCapital : Cond.code y_Tokens_isCapital prog_9_method_17_code 1 (some .boolean) ∈ ALL := tw 428 rfl rfl
def y_Tokens_endOfCapitals : MethodName := ⟨"SqlReader$Tokens", "endOfCapitals", "(I)I"⟩
theorem dk_Tokens_endOfCapitals : y_Tokens_endOfCapitals.cls ≠ "java/lang/invoke/MethodHandle" ∧ y_Tokens_endOfCapitals.cls ≠ "java/lang/invoke/VarHandle" ∧ (parseMethodDescriptor y_Tokens_endOfCapitals.desc).map (fun d => d.parameters.length) = some 1 := by decide +kernel
set_option maxRecDepth 100000 in
theorem ck_Tokens_endOfCapitals : Cond.code y_Tokens_endOfCapitals prog_9_method_14_code 4 (some .int) ∈ ALL := tw 432 rfl rfl
def y_Tokens_keep : MethodName := ⟨"SqlReader$Tokens", "keep", "(IIII)I"⟩
theorem dk_Tokens_keep : y_Tokens_keep.cls ≠ "java/lang/invoke/MethodHandle" ∧ y_Tokens_keep.cls ≠ "java/lang/invoke/VarHandle" ∧ (parseMethodDescriptor y_Tokens_keep.desc).map (fun d => d.parameters.length) = some 4 := by decide +kernel
set_option maxRecDepth 100000 in
theorem ck_Tokens_keep : Cond.code y_Tokens_keep prog_9_method_11_code 5 (some .int) ∈ ALL := tw 436 rfl rfl
def y_Tokens_endOfName : MethodName := ⟨"SqlReader$Tokens", "endOfName", "(I)I"⟩
theorem dk_Tokens_endOfName : y_Tokens_endOfName.cls ≠ "java/lang/invoke/MethodHandle" ∧ y_Tokens_endOfName.cls ≠ "java/lang/invoke/VarHandle" ∧ (parseMethodDescriptor y_Tokens_endOfName.desc).map (fun d => d.parameters.length) = some 1 := by decide +kernel
set_option maxRecDepth 100000 in
theorem ck_Tokens_endOfName : Cond.code y_Tokens_endOfName prog_9_method_15_code 4 (some .int) ∈ ALL := tw 442 rfl rfl
def y_Tokens_endOfDigits : MethodName := ⟨"SqlReader$Tokens", "endOfDigits", "(I)I"⟩
theorem dk_Tokens_endOfDigits : y_Tokens_endOfDigits.cls ≠ "java/lang/invoke/MethodHandle" ∧ y_Tokens_endOfDigits.cls ≠ "java/lang/invoke/VarHandle" ∧ (parseMethodDescriptor y_Tokens_endOfDigits.desc).map (fun d => d.parameters.length) = some 1 := by decide +kernel
set_option maxRecDepth 100000 in
theorem ck_Tokens_endOfDigits : Cond.code y_Tokens_endOfDigits prog_9_method_16_code 4 (some .int) ∈ ALL := tw 448 rfl rfl
def y_Tokens_cutText : MethodName := ⟨"SqlReader$Tokens", "cutText", "(I)I"⟩
theorem dk_Tokens_cutText : y_Tokens_cutText.cls ≠ "java/lang/invoke/MethodHandle" ∧ y_Tokens_cutText.cls ≠ "java/lang/invoke/VarHandle" ∧ (parseMethodDescriptor y_Tokens_cutText.desc).map (fun d => d.parameters.length) = some 1 := by decide +kernel
set_option maxRecDepth 100000 in
theorem ck_Tokens_cutText : Cond.code y_Tokens_cutText prog_9_method_12_code 6 (some .int) ∈ ALL := tw 452 rfl rfl
def y_Text_put : MethodName := ⟨"SqlReader$Text", "put", "(II)V"⟩
theorem dk_Text_put : y_Text_put.cls ≠ "java/lang/invoke/MethodHandle" ∧ y_Text_put.cls ≠ "java/lang/invoke/VarHandle" ∧ (parseMethodDescriptor y_Text_put.desc).map (fun d => d.parameters.length) = some 2 := by decide +kernel
set_option maxRecDepth 100000 in
theorem ck_Text_put : Cond.code y_Text_put prog_8_method_11_code 3 none ∈ ALL := tw 456 rfl rfl
def y_Tokens_signSize : MethodName := ⟨"SqlReader$Tokens", "signSize", "(I)I"⟩
theorem dk_Tokens_signSize : y_Tokens_signSize.cls ≠ "java/lang/invoke/MethodHandle" ∧ y_Tokens_signSize.cls ≠ "java/lang/invoke/VarHandle" ∧ (parseMethodDescriptor y_Tokens_signSize.desc).map (fun d => d.parameters.length) = some 1 := by decide +kernel
set_option maxRecDepth 100000 in
theorem ck_Tokens_signSize : Cond.code y_Tokens_signSize prog_9_method_13_code 5 (some .int) ∈ ALL := tw 460 rfl rfl
def y_String_indexOf0 : MethodName := ⟨"java/lang/String", "indexOf", "(I)I"⟩
theorem dk_String_indexOf0 : y_String_indexOf0.cls ≠ "java/lang/invoke/MethodHandle" ∧ y_String_indexOf0.cls ≠ "java/lang/invoke/VarHandle" ∧ (parseMethodDescriptor y_String_indexOf0.desc).map (fun d => d.parameters.length) = some 1 := by decide +kernel
set_option maxRecDepth 100000 in
theorem ck_String_indexOf0 : Cond.code y_String_indexOf0 prog_14_method_79_code 2 (some .int) ∈ ALL := tw 465 rfl rfl
def y_String_indexOf1 : MethodName := ⟨"java/lang/String", "indexOf", "(II)I"⟩
theorem dk_String_indexOf1 : y_String_indexOf1.cls ≠ "java/lang/invoke/MethodHandle" ∧ y_String_indexOf1.cls ≠ "java/lang/invoke/VarHandle" ∧ (parseMethodDescriptor y_String_indexOf1.desc).map (fun d => d.parameters.length) = some 2 := by decide +kernel
set_option maxRecDepth 100000 in
theorem ck_String_indexOf1 : Cond.code y_String_indexOf1 prog_14_method_80_code 3 (some .int) ∈ ALL := tw 469 rfl rfl
def y_String_isLatin1 : MethodName := ⟨"java/lang/String", "isLatin1", "()Z"⟩
theorem dk_String_isLatin1 : y_String_isLatin1.cls ≠ "java/lang/invoke/MethodHandle" ∧ y_String_isLatin1.cls ≠ "java/lang/invoke/VarHandle" ∧ (parseMethodDescriptor y_String_isLatin1.desc).map (fun d => d.parameters.length) = some 0 := by decide +kernel
set_option maxRecDepth 100000 in
theorem ck_String_isLatin1 : Cond.code y_String_isLatin1 prog_14_method_154_code 1 (some .boolean) ∈ ALL := tw 473 rfl rfl
def y_String_length : MethodName := ⟨"java/lang/String", "length", "()I"⟩
theorem dk_String_length : y_String_length.cls ≠ "java/lang/invoke/MethodHandle" ∧ y_String_length.cls ≠ "java/lang/invoke/VarHandle" ∧ (parseMethodDescriptor y_String_length.desc).map (fun d => d.parameters.length) = some 0 := by decide +kernel
set_option maxRecDepth 100000 in
theorem ck_String_length : Cond.code y_String_length prog_14_method_54_code 1 (some .int) ∈ ALL := tw 479 rfl rfl
def y_String_coder : MethodName := ⟨"java/lang/String", "coder", "()B"⟩
theorem dk_String_coder : y_String_coder.cls ≠ "java/lang/invoke/MethodHandle" ∧ y_String_coder.cls ≠ "java/lang/invoke/VarHandle" ∧ (parseMethodDescriptor y_String_coder.desc).map (fun d => d.parameters.length) = some 0 := by decide +kernel
set_option maxRecDepth 100000 in
theorem ck_String_coder : Cond.code y_String_coder prog_14_method_152_code 1 (some .byte) ∈ ALL := tw 483 rfl rfl
def y_StringLatin1_indexOf : MethodName := ⟨"java/lang/StringLatin1", "indexOf", "([BIII)I"⟩
theorem dk_StringLatin1_indexOf : y_StringLatin1_indexOf.cls ≠ "java/lang/invoke/MethodHandle" ∧ y_StringLatin1_indexOf.cls ≠ "java/lang/invoke/VarHandle" ∧ (parseMethodDescriptor y_StringLatin1_indexOf.desc).map (fun d => d.parameters.length) = some 4 := by decide +kernel
set_option maxRecDepth 100000 in
theorem ck_StringLatin1_indexOf : Cond.code y_StringLatin1_indexOf prog_15_method_22_code 4 (some .int) ∈ ALL := tw 486 rfl rfl
def y_StringLatin1_canEncode : MethodName := ⟨"java/lang/StringLatin1", "canEncode", "(I)Z"⟩
theorem dk_StringLatin1_canEncode : y_StringLatin1_canEncode.cls ≠ "java/lang/invoke/MethodHandle" ∧ y_StringLatin1_canEncode.cls ≠ "java/lang/invoke/VarHandle" ∧ (parseMethodDescriptor y_StringLatin1_canEncode.desc).map (fun d => d.parameters.length) = some 1 := by decide +kernel
set_option maxRecDepth 100000 in
theorem ck_StringLatin1_canEncode : Cond.code y_StringLatin1_canEncode prog_15_method_4_code 1 (some .boolean) ∈ ALL := tw 489 rfl rfl
def y_Math_max : MethodName := ⟨"java/lang/Math", "max", "(II)I"⟩
theorem dk_Math_max : y_Math_max.cls ≠ "java/lang/invoke/MethodHandle" ∧ y_Math_max.cls ≠ "java/lang/invoke/VarHandle" ∧ (parseMethodDescriptor y_Math_max.desc).map (fun d => d.parameters.length) = some 2 := by decide +kernel
set_option maxRecDepth 100000 in
theorem ck_Math_max : Cond.code y_Math_max prog_13_method_65_code 2 (some .int) ∈ ALL := tw 492 rfl rfl
def y_Math_min0 : MethodName := ⟨"java/lang/Math", "min", "(II)I"⟩
theorem dk_Math_min0 : y_Math_min0.cls ≠ "java/lang/invoke/MethodHandle" ∧ y_Math_min0.cls ≠ "java/lang/invoke/VarHandle" ∧ (parseMethodDescriptor y_Math_min0.desc).map (fun d => d.parameters.length) = some 2 := by decide +kernel
set_option maxRecDepth 100000 in
theorem ck_Math_min0 : Cond.code y_Math_min0 prog_13_method_69_code 2 (some .int) ∈ ALL := tw 495 rfl rfl
def y_StringLatin1_indexOfChar : MethodName := ⟨"java/lang/StringLatin1", "indexOfChar", "([BIII)I"⟩
theorem dk_StringLatin1_indexOfChar : y_StringLatin1_indexOfChar.cls ≠ "java/lang/invoke/MethodHandle" ∧ y_StringLatin1_indexOfChar.cls ≠ "java/lang/invoke/VarHandle" ∧ (parseMethodDescriptor y_StringLatin1_indexOfChar.desc).map (fun d => d.parameters.length) = some 4 := by decide +kernel
set_option maxRecDepth 100000 in
theorem ck_StringLatin1_indexOfChar : Cond.code y_StringLatin1_indexOfChar prog_15_method_23_code 6 (some .int) ∈ ALL := tw 498 rfl rfl
def y_StringUTF16_indexOf : MethodName := ⟨"java/lang/StringUTF16", "indexOf", "([BIII)I"⟩
theorem dk_StringUTF16_indexOf : y_StringUTF16_indexOf.cls ≠ "java/lang/invoke/MethodHandle" ∧ y_StringUTF16_indexOf.cls ≠ "java/lang/invoke/VarHandle" ∧ (parseMethodDescriptor y_StringUTF16_indexOf.desc).map (fun d => d.parameters.length) = some 4 := by decide +kernel
set_option maxRecDepth 100000 in
theorem ck_StringUTF16_indexOf : Cond.code y_StringUTF16_indexOf prog_16_method_40_code 4 (some .int) ∈ ALL := tw 501 rfl rfl
def y_StringUTF16_indexOfChar : MethodName := ⟨"java/lang/StringUTF16", "indexOfChar", "([BIII)I"⟩
theorem dk_StringUTF16_indexOfChar : y_StringUTF16_indexOfChar.cls ≠ "java/lang/invoke/MethodHandle" ∧ y_StringUTF16_indexOfChar.cls ≠ "java/lang/invoke/VarHandle" ∧ (parseMethodDescriptor y_StringUTF16_indexOfChar.desc).map (fun d => d.parameters.length) = some 4 := by decide +kernel
set_option maxRecDepth 100000 in
theorem ck_StringUTF16_indexOfChar : Cond.code y_StringUTF16_indexOfChar prog_16_method_47_code 4 (some .int) ∈ ALL := tw 507 rfl rfl
def y_StringUTF16_checkBoundsBeginEnd : MethodName := ⟨"java/lang/StringUTF16", "checkBoundsBeginEnd", "(II[B)V"⟩
theorem dk_StringUTF16_checkBoundsBeginEnd : y_StringUTF16_checkBoundsBeginEnd.cls ≠ "java/lang/invoke/MethodHandle" ∧ y_StringUTF16_checkBoundsBeginEnd.cls ≠ "java/lang/invoke/VarHandle" ∧ (parseMethodDescriptor y_StringUTF16_checkBoundsBeginEnd.desc).map (fun d => d.parameters.length) = some 3 := by decide +kernel
set_option maxRecDepth 100000 in
theorem ck_StringUTF16_checkBoundsBeginEnd : Cond.code y_StringUTF16_checkBoundsBeginEnd prog_16_method_93_code 3 none ∈ ALL := tw 510 rfl rfl
def y_StringUTF16_length : MethodName := ⟨"java/lang/StringUTF16", "length", "([B)I"⟩
theorem dk_StringUTF16_length : y_StringUTF16_length.cls ≠ "java/lang/invoke/MethodHandle" ∧ y_StringUTF16_length.cls ≠ "java/lang/invoke/VarHandle" ∧ (parseMethodDescriptor y_StringUTF16_length.desc).map (fun d => d.parameters.length) = some 1 := by decide +kernel
set_option maxRecDepth 100000 in
theorem ck_StringUTF16_length : Cond.code y_StringUTF16_length prog_16_method_6_code 1 (some .int) ∈ ALL := tw 513 rfl rfl
def y_String_checkBoundsBeginEnd : MethodName := ⟨"java/lang/String", "checkBoundsBeginEnd", "(III)V"⟩
theorem dk_String_checkBoundsBeginEnd : y_String_checkBoundsBeginEnd.cls ≠ "java/lang/invoke/MethodHandle" ∧ y_String_checkBoundsBeginEnd.cls ≠ "java/lang/invoke/VarHandle" ∧ (parseMethodDescriptor y_String_checkBoundsBeginEnd.desc).map (fun d => d.parameters.length) = some 3 := by decide +kernel
set_option maxRecDepth 100000 in
theorem ck_String_checkBoundsBeginEnd : Cond.code y_String_checkBoundsBeginEnd prog_14_method_158_code 3 none ∈ ALL := tw 516 rfl rfl
def y_Preconditions_checkFromToIndex : MethodName := ⟨"jdk/internal/util/Preconditions", "checkFromToIndex", "(IIILjava/util/function/BiFunction;)I"⟩
theorem dk_Preconditions_checkFromToIndex : y_Preconditions_checkFromToIndex.cls ≠ "java/lang/invoke/MethodHandle" ∧ y_Preconditions_checkFromToIndex.cls ≠ "java/lang/invoke/VarHandle" ∧ (parseMethodDescriptor y_Preconditions_checkFromToIndex.desc).map (fun d => d.parameters.length) = some 4 := by decide +kernel
set_option maxRecDepth 100000 in
theorem ck_Preconditions_checkFromToIndex : Cond.code y_Preconditions_checkFromToIndex prog_19_method_12_code 4 (some .int) ∈ ALL := tw 521 rfl rfl
def y_StringUTF16_indexOfCharUnsafe : MethodName := ⟨"java/lang/StringUTF16", "indexOfCharUnsafe", "([BIII)I"⟩
theorem dk_StringUTF16_indexOfCharUnsafe : y_StringUTF16_indexOfCharUnsafe.cls ≠ "java/lang/invoke/MethodHandle" ∧ y_StringUTF16_indexOfCharUnsafe.cls ≠ "java/lang/invoke/VarHandle" ∧ (parseMethodDescriptor y_StringUTF16_indexOfCharUnsafe.desc).map (fun d => d.parameters.length) = some 4 := by decide +kernel
set_option maxRecDepth 100000 in
theorem ck_StringUTF16_indexOfCharUnsafe : Cond.code y_StringUTF16_indexOfCharUnsafe prog_16_method_48_code 5 (some .int) ∈ ALL := tw 524 rfl rfl
def y_StringUTF16_getChar : MethodName := ⟨"java/lang/StringUTF16", "getChar", "([BI)C"⟩
theorem dk_StringUTF16_getChar : y_StringUTF16_getChar.cls ≠ "java/lang/invoke/MethodHandle" ∧ y_StringUTF16_getChar.cls ≠ "java/lang/invoke/VarHandle" ∧ (parseMethodDescriptor y_StringUTF16_getChar.desc).map (fun d => d.parameters.length) = some 2 := by decide +kernel
set_option maxRecDepth 100000 in
theorem ck_StringUTF16_getChar : Cond.code y_StringUTF16_getChar prog_16_method_5_code 2 (some .char) ∈ ALL := tw 527 rfl rfl
def y_StringUTF16_indexOfSupplementary : MethodName := ⟨"java/lang/StringUTF16", "indexOfSupplementary", "([BIII)I"⟩
theorem dk_StringUTF16_indexOfSupplementary : y_StringUTF16_indexOfSupplementary.cls ≠ "java/lang/invoke/MethodHandle" ∧ y_StringUTF16_indexOfSupplementary.cls ≠ "java/lang/invoke/VarHandle" ∧ (parseMethodDescriptor y_StringUTF16_indexOfSupplementary.desc).map (fun d => d.parameters.length) = some 4 := by decide +kernel
set_option maxRecDepth 100000 in
theorem ck_StringUTF16_indexOfSupplementary : Cond.code y_StringUTF16_indexOfSupplementary prog_16_method_49_code 7 (some .int) ∈ ALL := tw 536 rfl rfl
def y_Character_isValidCodePoint : MethodName := ⟨"java/lang/Character", "isValidCodePoint", "(I)Z"⟩
theorem dk_Character_isValidCodePoint : y_Character_isValidCodePoint.cls ≠ "java/lang/invoke/MethodHandle" ∧ y_Character_isValidCodePoint.cls ≠ "java/lang/invoke/VarHandle" ∧ (parseMethodDescriptor y_Character_isValidCodePoint.desc).map (fun d => d.parameters.length) = some 1 := by decide +kernel
set_option maxRecDepth 100000 in
theorem ck_Character_isValidCodePoint : Cond.code y_Character_isValidCodePoint prog_12_method_11_code 2 (some .boolean) ∈ ALL := tw 539 rfl rfl
def y_Character_highSurrogate : MethodName := ⟨"java/lang/Character", "highSurrogate", "(I)C"⟩
theorem dk_Character_highSurrogate : y_Character_highSurrogate.cls ≠ "java/lang/invoke/MethodHandle" ∧ y_Character_highSurrogate.cls ≠ "java/lang/invoke/VarHandle" ∧ (parseMethodDescriptor y_Character_highSurrogate.desc).map (fun d => d.parameters.length) = some 1 := by decide +kernel
set_option maxRecDepth 100000 in
theorem ck_Character_highSurrogate : Cond.code y_Character_highSurrogate prog_12_method_28_code 1 (some .char) ∈ ALL := tw 542 rfl rfl
def y_Character_lowSurrogate : MethodName := ⟨"java/lang/Character", "lowSurrogate", "(I)C"⟩
theorem dk_Character_lowSurrogate : y_Character_lowSurrogate.cls ≠ "java/lang/invoke/MethodHandle" ∧ y_Character_lowSurrogate.cls ≠ "java/lang/invoke/VarHandle" ∧ (parseMethodDescriptor y_Character_lowSurrogate.desc).map (fun d => d.parameters.length) = some 1 := by decide +kernel
set_option maxRecDepth 100000 in
theorem ck_Character_lowSurrogate : Cond.code y_Character_lowSurrogate prog_12_method_29_code 1 (some .char) ∈ ALL := tw 546 rfl rfl
def y_Parser_begins : MethodName := ⟨"SqlReader$Parser", "begins", "()Z"⟩
theorem dk_Parser_begins : y_Parser_begins.cls ≠ "java/lang/invoke/MethodHandle" ∧ y_Parser_begins.cls ≠ "java/lang/invoke/VarHandle" ∧ (parseMethodDescriptor y_Parser_begins.desc).map (fun d => d.parameters.length) = some 0 := by decide +kernel
set_option maxRecDepth 100000 in
theorem ck_Parser_begins : Cond.code y_Parser_begins prog_6_method_2_code 1 (some .boolean) ∈ ALL := tw 551 rfl rfl
def y_Tokens_takes : MethodName := ⟨"SqlReader$Tokens", "takes", "(Ljava/lang/String;)Z"⟩
theorem dk_Tokens_takes : y_Tokens_takes.cls ≠ "java/lang/invoke/MethodHandle" ∧ y_Tokens_takes.cls ≠ "java/lang/invoke/VarHandle" ∧ (parseMethodDescriptor y_Tokens_takes.desc).map (fun d => d.parameters.length) = some 1 := by decide +kernel
set_option maxRecDepth 100000 in
theorem ck_Tokens_takes : Cond.code y_Tokens_takes prog_9_method_5_code 5 (some .boolean) ∈ ALL := tw 556 rfl rfl
def y_String_charAt : MethodName := ⟨"java/lang/String", "charAt", "(I)C"⟩
theorem dk_String_charAt : y_String_charAt.cls ≠ "java/lang/invoke/MethodHandle" ∧ y_String_charAt.cls ≠ "java/lang/invoke/VarHandle" ∧ (parseMethodDescriptor y_String_charAt.desc).map (fun d => d.parameters.length) = some 1 := by decide +kernel
set_option maxRecDepth 100000 in
theorem ck_String_charAt : Cond.code y_String_charAt prog_14_method_56_code 2 (some .char) ∈ ALL := tw 563 rfl rfl
def y_StringLatin1_charAt : MethodName := ⟨"java/lang/StringLatin1", "charAt", "([BI)C"⟩
theorem dk_StringLatin1_charAt : y_StringLatin1_charAt.cls ≠ "java/lang/invoke/MethodHandle" ∧ y_StringLatin1_charAt.cls ≠ "java/lang/invoke/VarHandle" ∧ (parseMethodDescriptor y_StringLatin1_charAt.desc).map (fun d => d.parameters.length) = some 2 := by decide +kernel
set_option maxRecDepth 100000 in
theorem ck_StringLatin1_charAt : Cond.code y_StringLatin1_charAt prog_15_method_2_code 2 (some .char) ∈ ALL := tw 566 rfl rfl
def y_String_checkIndex : MethodName := ⟨"java/lang/String", "checkIndex", "(II)V"⟩
theorem dk_String_checkIndex : y_String_checkIndex.cls ≠ "java/lang/invoke/MethodHandle" ∧ y_String_checkIndex.cls ≠ "java/lang/invoke/VarHandle" ∧ (parseMethodDescriptor y_String_checkIndex.desc).map (fun d => d.parameters.length) = some 2 := by decide +kernel
set_option maxRecDepth 100000 in
theorem ck_String_checkIndex : Cond.code y_String_checkIndex prog_14_method_155_code 2 none ∈ ALL := tw 569 rfl rfl
def y_Preconditions_checkIndex : MethodName := ⟨"jdk/internal/util/Preconditions", "checkIndex", "(IILjava/util/function/BiFunction;)I"⟩
theorem dk_Preconditions_checkIndex : y_Preconditions_checkIndex.cls ≠ "java/lang/invoke/MethodHandle" ∧ y_Preconditions_checkIndex.cls ≠ "java/lang/invoke/VarHandle" ∧ (parseMethodDescriptor y_Preconditions_checkIndex.desc).map (fun d => d.parameters.length) = some 3 := by decide +kernel
set_option maxRecDepth 100000 in
theorem ck_Preconditions_checkIndex : Cond.code y_Preconditions_checkIndex prog_19_method_11_code 3 (some .int) ∈ ALL := tw 572 rfl rfl
def y_StringUTF16_charAt : MethodName := ⟨"java/lang/StringUTF16", "charAt", "([BI)C"⟩
theorem dk_StringUTF16_charAt : y_StringUTF16_charAt.cls ≠ "java/lang/invoke/MethodHandle" ∧ y_StringUTF16_charAt.cls ≠ "java/lang/invoke/VarHandle" ∧ (parseMethodDescriptor y_StringUTF16_charAt.desc).map (fun d => d.parameters.length) = some 2 := by decide +kernel
set_option maxRecDepth 100000 in
theorem ck_StringUTF16_charAt : Cond.code y_StringUTF16_charAt prog_16_method_83_code 2 (some .char) ∈ ALL := tw 575 rfl rfl
def y_StringUTF16_checkIndex : MethodName := ⟨"java/lang/StringUTF16", "checkIndex", "(I[B)V"⟩
theorem dk_StringUTF16_checkIndex : y_StringUTF16_checkIndex.cls ≠ "java/lang/invoke/MethodHandle" ∧ y_StringUTF16_checkIndex.cls ≠ "java/lang/invoke/VarHandle" ∧ (parseMethodDescriptor y_StringUTF16_checkIndex.desc).map (fun d => d.parameters.length) = some 2 := by decide +kernel
set_option maxRecDepth 100000 in
theorem ck_StringUTF16_checkIndex : Cond.code y_StringUTF16_checkIndex prog_16_method_91_code 2 none ∈ ALL := tw 578 rfl rfl
def y_Parser_title : MethodName := ⟨"SqlReader$Parser", "title", "()Z"⟩
theorem dk_Parser_title : y_Parser_title.cls ≠ "java/lang/invoke/MethodHandle" ∧ y_Parser_title.cls ≠ "java/lang/invoke/VarHandle" ∧ (parseMethodDescriptor y_Parser_title.desc).map (fun d => d.parameters.length) = some 0 := by decide +kernel
set_option maxRecDepth 100000 in
theorem ck_Parser_title : Cond.code y_Parser_title prog_6_method_7_code 1 (some .boolean) ∈ ALL := tw 583 rfl rfl
def y_Tokens_take : MethodName := ⟨"SqlReader$Tokens", "take", "(I)I"⟩
theorem dk_Tokens_take : y_Tokens_take.cls ≠ "java/lang/invoke/MethodHandle" ∧ y_Tokens_take.cls ≠ "java/lang/invoke/VarHandle" ∧ (parseMethodDescriptor y_Tokens_take.desc).map (fun d => d.parameters.length) = some 1 := by decide +kernel
set_option maxRecDepth 100000 in
theorem ck_Tokens_take : Cond.code y_Tokens_take prog_9_method_6_code 2 (some .int) ∈ ALL := tw 587 rfl rfl
def y_Parser_deed : MethodName := ⟨"SqlReader$Parser", "deed", "()Z"⟩
theorem dk_Parser_deed : y_Parser_deed.cls ≠ "java/lang/invoke/MethodHandle" ∧ y_Parser_deed.cls ≠ "java/lang/invoke/VarHandle" ∧ (parseMethodDescriptor y_Parser_deed.desc).map (fun d => d.parameters.length) = some 0 := by decide +kernel
set_option maxRecDepth 100000 in
theorem ck_Parser_deed : Cond.code y_Parser_deed prog_6_method_3_code 1 (some .boolean) ∈ ALL := tw 593 rfl rfl
def y_Parser_query : MethodName := ⟨"SqlReader$Parser", "query", "(I)Z"⟩
theorem dk_Parser_query : y_Parser_query.cls ≠ "java/lang/invoke/MethodHandle" ∧ y_Parser_query.cls ≠ "java/lang/invoke/VarHandle" ∧ (parseMethodDescriptor y_Parser_query.desc).map (fun d => d.parameters.length) = some 1 := by decide +kernel
set_option maxRecDepth 100000 in
theorem ck_Parser_query : Cond.code y_Parser_query prog_6_method_20_code 3 (some .boolean) ∈ ALL := tw 598 rfl rfl
def y_Parser_expressions : MethodName := ⟨"SqlReader$Parser", "expressions", "(I)Z"⟩
theorem dk_Parser_expressions : y_Parser_expressions.cls ≠ "java/lang/invoke/MethodHandle" ∧ y_Parser_expressions.cls ≠ "java/lang/invoke/VarHandle" ∧ (parseMethodDescriptor y_Parser_expressions.desc).map (fun d => d.parameters.length) = some 1 := by decide +kernel
set_option maxRecDepth 100000 in
theorem ck_Parser_expressions : Cond.code y_Parser_expressions prog_6_method_15_code 4 (some .boolean) ∈ ALL := tw 604 rfl rfl
def y_Parser_expression : MethodName := ⟨"SqlReader$Parser", "expression", "(II)I"⟩
theorem dk_Parser_expression : y_Parser_expression.cls ≠ "java/lang/invoke/MethodHandle" ∧ y_Parser_expression.cls ≠ "java/lang/invoke/VarHandle" ∧ (parseMethodDescriptor y_Parser_expression.desc).map (fun d => d.parameters.length) = some 2 := by decide +kernel
set_option maxRecDepth 100000 in
theorem ck_Parser_expression : Cond.code y_Parser_expression prog_6_method_33_code 12 (some .int) ∈ ALL := tw 608 rfl rfl
def y_Nodes_size : MethodName := ⟨"SqlReader$Nodes", "size", "()I"⟩
theorem dk_Nodes_size : y_Nodes_size.cls ≠ "java/lang/invoke/MethodHandle" ∧ y_Nodes_size.cls ≠ "java/lang/invoke/VarHandle" ∧ (parseMethodDescriptor y_Nodes_size.desc).map (fun d => d.parameters.length) = some 0 := by decide +kernel
set_option maxRecDepth 100000 in
theorem ck_Nodes_size : Cond.code y_Nodes_size prog_5_method_6_code 1 (some .int) ∈ ALL := tw 612 rfl rfl
def y_Nodes_top : MethodName := ⟨"SqlReader$Nodes", "top", "(II)I"⟩
theorem dk_Nodes_top : y_Nodes_top.cls ≠ "java/lang/invoke/MethodHandle" ∧ y_Nodes_top.cls ≠ "java/lang/invoke/VarHandle" ∧ (parseMethodDescriptor y_Nodes_top.desc).map (fun d => d.parameters.length) = some 2 := by decide +kernel
set_option maxRecDepth 100000 in
theorem ck_Nodes_top : Cond.code y_Nodes_top prog_5_method_9_code 4 (some .int) ∈ ALL := tw 617 rfl rfl
def y_Nodes_leaf : MethodName := ⟨"SqlReader$Nodes", "leaf", "(IIII)I"⟩
theorem dk_Nodes_leaf : y_Nodes_leaf.cls ≠ "java/lang/invoke/MethodHandle" ∧ y_Nodes_leaf.cls ≠ "java/lang/invoke/VarHandle" ∧ (parseMethodDescriptor y_Nodes_leaf.desc).map (fun d => d.parameters.length) = some 4 := by decide +kernel
set_option maxRecDepth 100000 in
theorem ck_Nodes_leaf : Cond.code y_Nodes_leaf prog_5_method_10_code 6 (some .int) ∈ ALL := tw 621 rfl rfl
def y_Nodes_adopt : MethodName := ⟨"SqlReader$Nodes", "adopt", "(II)V"⟩
theorem dk_Nodes_adopt : y_Nodes_adopt.cls ≠ "java/lang/invoke/MethodHandle" ∧ y_Nodes_adopt.cls ≠ "java/lang/invoke/VarHandle" ∧ (parseMethodDescriptor y_Nodes_adopt.desc).map (fun d => d.parameters.length) = some 2 := by decide +kernel
set_option maxRecDepth 100000 in
theorem ck_Nodes_adopt : Cond.code y_Nodes_adopt prog_5_method_25_code 3 none ∈ ALL := tw 625 rfl rfl
def y_Parser_operand : MethodName := ⟨"SqlReader$Parser", "operand", "(I)I"⟩
theorem dk_Parser_operand : y_Parser_operand.cls ≠ "java/lang/invoke/MethodHandle" ∧ y_Parser_operand.cls ≠ "java/lang/invoke/VarHandle" ∧ (parseMethodDescriptor y_Parser_operand.desc).map (fun d => d.parameters.length) = some 1 := by decide +kernel
set_option maxRecDepth 100000 in
theorem ck_Parser_operand : Cond.code y_Parser_operand prog_6_method_37_code 4 (some .int) ∈ ALL := tw 629 rfl rfl
def y_Parser_aggregate : MethodName := ⟨"SqlReader$Parser", "aggregate", "()I"⟩
theorem dk_Parser_aggregate : y_Parser_aggregate.cls ≠ "java/lang/invoke/MethodHandle" ∧ y_Parser_aggregate.cls ≠ "java/lang/invoke/VarHandle" ∧ (parseMethodDescriptor y_Parser_aggregate.desc).map (fun d => d.parameters.length) = some 0 := by decide +kernel
set_option maxRecDepth 100000 in
theorem ck_Parser_aggregate : Cond.code y_Parser_aggregate prog_6_method_39_code 1 (some .int) ∈ ALL := tw 636 rfl rfl
def y_Parser_aggregated : MethodName := ⟨"SqlReader$Parser", "aggregated", "(II)I"⟩
theorem dk_Parser_aggregated : y_Parser_aggregated.cls ≠ "java/lang/invoke/MethodHandle" ∧ y_Parser_aggregated.cls ≠ "java/lang/invoke/VarHandle" ∧ (parseMethodDescriptor y_Parser_aggregated.desc).map (fun d => d.parameters.length) = some 2 := by decide +kernel
set_option maxRecDepth 100000 in
theorem ck_Parser_aggregated : Cond.code y_Parser_aggregated prog_6_method_38_code 4 (some .int) ∈ ALL := tw 644 rfl rfl
def y_Parser_leaf : MethodName := ⟨"SqlReader$Parser", "leaf", "()I"⟩
theorem dk_Parser_leaf : y_Parser_leaf.cls ≠ "java/lang/invoke/MethodHandle" ∧ y_Parser_leaf.cls ≠ "java/lang/invoke/VarHandle" ∧ (parseMethodDescriptor y_Parser_leaf.desc).map (fun d => d.parameters.length) = some 0 := by decide +kernel
set_option maxRecDepth 100000 in
theorem ck_Parser_leaf : Cond.code y_Parser_leaf prog_6_method_40_code 2 (some .int) ∈ ALL := tw 649 rfl rfl
def y_Tokens_numberOf : MethodName := ⟨"SqlReader$Tokens", "numberOf", "(I)J"⟩
theorem dk_Tokens_numberOf : y_Tokens_numberOf.cls ≠ "java/lang/invoke/MethodHandle" ∧ y_Tokens_numberOf.cls ≠ "java/lang/invoke/VarHandle" ∧ (parseMethodDescriptor y_Tokens_numberOf.desc).map (fun d => d.parameters.length) = some 1 := by decide +kernel
set_option maxRecDepth 100000 in
theorem ck_Tokens_numberOf : Cond.code y_Tokens_numberOf prog_9_method_9_code 5 (some .long) ∈ ALL := tw 653 rfl rfl
def y_Parser_place : MethodName := ⟨"SqlReader$Parser", "place", "()I"⟩
theorem dk_Parser_place : y_Parser_place.cls ≠ "java/lang/invoke/MethodHandle" ∧ y_Parser_place.cls ≠ "java/lang/invoke/VarHandle" ∧ (parseMethodDescriptor y_Parser_place.desc).map (fun d => d.parameters.length) = some 0 := by decide +kernel
set_option maxRecDepth 100000 in
theorem ck_Parser_place : Cond.code y_Parser_place prog_6_method_41_code 3 (some .int) ∈ ALL := tw 661 rfl rfl
def y_Tokens_mark : MethodName := ⟨"SqlReader$Tokens", "mark", "()I"⟩
theorem dk_Tokens_mark : y_Tokens_mark.cls ≠ "java/lang/invoke/MethodHandle" ∧ y_Tokens_mark.cls ≠ "java/lang/invoke/VarHandle" ∧ (parseMethodDescriptor y_Tokens_mark.desc).map (fun d => d.parameters.length) = some 0 := by decide +kernel
set_option maxRecDepth 100000 in
theorem ck_Tokens_mark : Cond.code y_Tokens_mark prog_9_method_7_code 1 (some .int) ∈ ALL := tw 666 rfl rfl
def y_Parser_wordBehind : MethodName := ⟨"SqlReader$Parser", "wordBehind", "()I"⟩
theorem dk_Parser_wordBehind : y_Parser_wordBehind.cls ≠ "java/lang/invoke/MethodHandle" ∧ y_Parser_wordBehind.cls ≠ "java/lang/invoke/VarHandle" ∧ (parseMethodDescriptor y_Parser_wordBehind.desc).map (fun d => d.parameters.length) = some 0 := by decide +kernel
set_option maxRecDepth 100000 in
theorem ck_Parser_wordBehind : Cond.code y_Parser_wordBehind prog_6_method_42_code 1 (some .int) ∈ ALL := tw 670 rfl rfl
def y_Parser_signBehind : MethodName := ⟨"SqlReader$Parser", "signBehind", "()I"⟩
theorem dk_Parser_signBehind : y_Parser_signBehind.cls ≠ "java/lang/invoke/MethodHandle" ∧ y_Parser_signBehind.cls ≠ "java/lang/invoke/VarHandle" ∧ (parseMethodDescriptor y_Parser_signBehind.desc).map (fun d => d.parameters.length) = some 0 := by decide +kernel
set_option maxRecDepth 100000 in
theorem ck_Parser_signBehind : Cond.code y_Parser_signBehind prog_6_method_43_code 1 (some .int) ∈ ALL := tw 679 rfl rfl
def y_Parser_levelOf : MethodName := ⟨"SqlReader$Parser", "levelOf", "(I)I"⟩
theorem dk_Parser_levelOf : y_Parser_levelOf.cls ≠ "java/lang/invoke/MethodHandle" ∧ y_Parser_levelOf.cls ≠ "java/lang/invoke/VarHandle" ∧ (parseMethodDescriptor y_Parser_levelOf.desc).map (fun d => d.parameters.length) = some 1 := by decide +kernel
set_option maxRecDepth 100000 in
theorem ck_Parser_levelOf : Cond.code y_Parser_levelOf prog_6_method_44_code 1 (some .int) ∈ ALL := tw 692 rfl rfl
def y_Tokens_backTo : MethodName := ⟨"SqlReader$Tokens", "backTo", "(I)V"⟩
theorem dk_Tokens_backTo : y_Tokens_backTo.cls ≠ "java/lang/invoke/MethodHandle" ∧ y_Tokens_backTo.cls ≠ "java/lang/invoke/VarHandle" ∧ (parseMethodDescriptor y_Tokens_backTo.desc).map (fun d => d.parameters.length) = some 1 := by decide +kernel
set_option maxRecDepth 100000 in
theorem ck_Tokens_backTo : Cond.code y_Tokens_backTo prog_9_method_8_code 2 none ∈ ALL := tw 696 rfl rfl
def y_Parser_comparison : MethodName := ⟨"SqlReader$Parser", "comparison", "(IIII)I"⟩
theorem dk_Parser_comparison : y_Parser_comparison.cls ≠ "java/lang/invoke/MethodHandle" ∧ y_Parser_comparison.cls ≠ "java/lang/invoke/VarHandle" ∧ (parseMethodDescriptor y_Parser_comparison.desc).map (fun d => d.parameters.length) = some 4 := by decide +kernel
set_option maxRecDepth 100000 in
theorem ck_Parser_comparison : Cond.code y_Parser_comparison prog_6_method_34_code 7 (some .int) ∈ ALL := tw 700 rfl rfl
def y_Nodes_join : MethodName := ⟨"SqlReader$Nodes", "join", "(III)I"⟩
theorem dk_Nodes_join : y_Nodes_join.cls ≠ "java/lang/invoke/MethodHandle" ∧ y_Nodes_join.cls ≠ "java/lang/invoke/VarHandle" ∧ (parseMethodDescriptor y_Nodes_join.desc).map (fun d => d.parameters.length) = some 3 := by decide +kernel
set_option maxRecDepth 100000 in
theorem ck_Nodes_join : Cond.code y_Nodes_join prog_5_method_8_code 5 (some .int) ∈ ALL := tw 704 rfl rfl
def y_Parser_between : MethodName := ⟨"SqlReader$Parser", "between", "(III)I"⟩
theorem dk_Parser_between : y_Parser_between.cls ≠ "java/lang/invoke/MethodHandle" ∧ y_Parser_between.cls ≠ "java/lang/invoke/VarHandle" ∧ (parseMethodDescriptor y_Parser_between.desc).map (fun d => d.parameters.length) = some 3 := by decide +kernel
set_option maxRecDepth 100000 in
theorem ck_Parser_between : Cond.code y_Parser_between prog_6_method_35_code 7 (some .int) ∈ ALL := tw 708 rfl rfl
def y_Nodes_again : MethodName := ⟨"SqlReader$Nodes", "again", "(II)I"⟩
theorem dk_Nodes_again : y_Nodes_again.cls ≠ "java/lang/invoke/MethodHandle" ∧ y_Nodes_again.cls ≠ "java/lang/invoke/VarHandle" ∧ (parseMethodDescriptor y_Nodes_again.desc).map (fun d => d.parameters.length) = some 2 := by decide +kernel
set_option maxRecDepth 100000 in
theorem ck_Nodes_again : Cond.code y_Nodes_again prog_5_method_11_code 6 (some .int) ∈ ALL := tw 712 rfl rfl
def y_Nodes_works : MethodName := ⟨"SqlReader$Nodes", "works", "(I)Z"⟩
theorem dk_Nodes_works : y_Nodes_works.cls ≠ "java/lang/invoke/MethodHandle" ∧ y_Nodes_works.cls ≠ "java/lang/invoke/VarHandle" ∧ (parseMethodDescriptor y_Nodes_works.desc).map (fun d => d.parameters.length) = some 1 := by decide +kernel
set_option maxRecDepth 100000 in
theorem ck_Nodes_works : Cond.code y_Nodes_works prog_5_method_2_code 1 (some .boolean) ∈ ALL := tw 716 rfl rfl
def y_Parser_among : MethodName := ⟨"SqlReader$Parser", "among", "(III)I"⟩
theorem dk_Parser_among : y_Parser_among.cls ≠ "java/lang/invoke/MethodHandle" ∧ y_Parser_among.cls ≠ "java/lang/invoke/VarHandle" ∧ (parseMethodDescriptor y_Parser_among.desc).map (fun d => d.parameters.length) = some 3 := by decide +kernel
set_option maxRecDepth 100000 in
theorem ck_Parser_among : Cond.code y_Parser_among prog_6_method_36_code 8 (some .int) ∈ ALL := tw 722 rfl rfl
def y_Lists_add : MethodName := ⟨"SqlReader$Lists", "add", "(II)V"⟩
theorem dk_Lists_add : y_Lists_add.cls ≠ "java/lang/invoke/MethodHandle" ∧ y_Lists_add.cls ≠ "java/lang/invoke/VarHandle" ∧ (parseMethodDescriptor y_Lists_add.desc).map (fun d => d.parameters.length) = some 2 := by decide +kernel
set_option maxRecDepth 100000 in
theorem ck_Lists_add : Cond.code y_Lists_add prog_3_method_5_code 3 none ∈ ALL := tw 727 rfl rfl
def y_Parser_from : MethodName := ⟨"SqlReader$Parser", "from", "()Z"⟩
theorem dk_Parser_from : y_Parser_from.cls ≠ "java/lang/invoke/MethodHandle" ∧ y_Parser_from.cls ≠ "java/lang/invoke/VarHandle" ∧ (parseMethodDescriptor y_Parser_from.desc).map (fun d => d.parameters.length) = some 0 := by decide +kernel
set_option maxRecDepth 100000 in
theorem ck_Parser_from : Cond.code y_Parser_from prog_6_method_21_code 3 (some .boolean) ∈ ALL := tw 735 rfl rfl
def y_Parser_tableOfQuery : MethodName := ⟨"SqlReader$Parser", "tableOfQuery", "()Z"⟩
theorem dk_Parser_tableOfQuery : y_Parser_tableOfQuery.cls ≠ "java/lang/invoke/MethodHandle" ∧ y_Parser_tableOfQuery.cls ≠ "java/lang/invoke/VarHandle" ∧ (parseMethodDescriptor y_Parser_tableOfQuery.desc).map (fun d => d.parameters.length) = some 0 := by decide +kernel
set_option maxRecDepth 100000 in
theorem ck_Parser_tableOfQuery : Cond.code y_Parser_tableOfQuery prog_6_method_22_code 2 (some .boolean) ∈ ALL := tw 740 rfl rfl
def y_Parser_where : MethodName := ⟨"SqlReader$Parser", "where", "()Z"⟩
theorem dk_Parser_where : y_Parser_where.cls ≠ "java/lang/invoke/MethodHandle" ∧ y_Parser_where.cls ≠ "java/lang/invoke/VarHandle" ∧ (parseMethodDescriptor y_Parser_where.desc).map (fun d => d.parameters.length) = some 0 := by decide +kernel
set_option maxRecDepth 100000 in
theorem ck_Parser_where : Cond.code y_Parser_where prog_6_method_23_code 1 (some .boolean) ∈ ALL := tw 744 rfl rfl
def y_Parser_groups : MethodName := ⟨"SqlReader$Parser", "groups", "()Z"⟩
theorem dk_Parser_groups : y_Parser_groups.cls ≠ "java/lang/invoke/MethodHandle" ∧ y_Parser_groups.cls ≠ "java/lang/invoke/VarHandle" ∧ (parseMethodDescriptor y_Parser_groups.desc).map (fun d => d.parameters.length) = some 0 := by decide +kernel
set_option maxRecDepth 100000 in
theorem ck_Parser_groups : Cond.code y_Parser_groups prog_6_method_24_code 3 (some .boolean) ∈ ALL := tw 749 rfl rfl
def y_Parser_group : MethodName := ⟨"SqlReader$Parser", "group", "()Z"⟩
theorem dk_Parser_group : y_Parser_group.cls ≠ "java/lang/invoke/MethodHandle" ∧ y_Parser_group.cls ≠ "java/lang/invoke/VarHandle" ∧ (parseMethodDescriptor y_Parser_group.desc).map (fun d => d.parameters.length) = some 0 := by decide +kernel
set_option maxRecDepth 100000 in
theorem ck_Parser_group : Cond.code y_Parser_group prog_6_method_25_code 2 (some .boolean) ∈ ALL := tw 755 rfl rfl
def y_Parser_orders : MethodName := ⟨"SqlReader$Parser", "orders", "()Z"⟩
theorem dk_Parser_orders : y_Parser_orders.cls ≠ "java/lang/invoke/MethodHandle" ∧ y_Parser_orders.cls ≠ "java/lang/invoke/VarHandle" ∧ (parseMethodDescriptor y_Parser_orders.desc).map (fun d => d.parameters.length) = some 0 := by decide +kernel
set_option maxRecDepth 100000 in
theorem ck_Parser_orders : Cond.code y_Parser_orders prog_6_method_26_code 3 (some .boolean) ∈ ALL := tw 759 rfl rfl
def y_Parser_order : MethodName := ⟨"SqlReader$Parser", "order", "()Z"⟩
theorem dk_Parser_order : y_Parser_order.cls ≠ "java/lang/invoke/MethodHandle" ∧ y_Parser_order.cls ≠ "java/lang/invoke/VarHandle" ∧ (parseMethodDescriptor y_Parser_order.desc).map (fun d => d.parameters.length) = some 0 := by decide +kernel
set_option maxRecDepth 100000 in
theorem ck_Parser_order : Cond.code y_Parser_order prog_6_method_27_code 5 (some .boolean) ∈ ALL := tw 764 rfl rfl
def y_Parser_limit : MethodName := ⟨"SqlReader$Parser", "limit", "()Z"⟩
theorem dk_Parser_limit : y_Parser_limit.cls ≠ "java/lang/invoke/MethodHandle" ∧ y_Parser_limit.cls ≠ "java/lang/invoke/VarHandle" ∧ (parseMethodDescriptor y_Parser_limit.desc).map (fun d => d.parameters.length) = some 0 := by decide +kernel
set_option maxRecDepth 100000 in
theorem ck_Parser_limit : Cond.code y_Parser_limit prog_6_method_28_code 2 (some .boolean) ∈ ALL := tw 770 rfl rfl
def y_Math_min1 : MethodName := ⟨"java/lang/Math", "min", "(JJ)J"⟩
theorem dk_Math_min1 : y_Math_min1.cls ≠ "java/lang/invoke/MethodHandle" ∧ y_Math_min1.cls ≠ "java/lang/invoke/VarHandle" ∧ (parseMethodDescriptor y_Math_min1.desc).map (fun d => d.parameters.length) = some 2 := by decide +kernel
set_option maxRecDepth 100000 in
theorem ck_Math_min1 : Cond.code y_Math_min1 prog_13_method_70_code 4 (some .long) ∈ ALL := tw 775 rfl rfl
def y_Parser_lock : MethodName := ⟨"SqlReader$Parser", "lock", "()Z"⟩
theorem dk_Parser_lock : y_Parser_lock.cls ≠ "java/lang/invoke/MethodHandle" ∧ y_Parser_lock.cls ≠ "java/lang/invoke/VarHandle" ∧ (parseMethodDescriptor y_Parser_lock.desc).map (fun d => d.parameters.length) = some 0 := by decide +kernel
set_option maxRecDepth 100000 in
theorem ck_Parser_lock : Cond.code y_Parser_lock prog_6_method_29_code 1 (some .boolean) ∈ ALL := tw 779 rfl rfl
def y_Parser_is : MethodName := ⟨"SqlReader$Parser", "is", "(I)Z"⟩
theorem dk_Parser_is : y_Parser_is.cls ≠ "java/lang/invoke/MethodHandle" ∧ y_Parser_is.cls ≠ "java/lang/invoke/VarHandle" ∧ (parseMethodDescriptor y_Parser_is.desc).map (fun d => d.parameters.length) = some 1 := by decide +kernel
set_option maxRecDepth 100000 in
theorem ck_Parser_is : Cond.code y_Parser_is prog_6_method_6_code 2 (some .boolean) ∈ ALL := tw 786 rfl rfl
def y_Parser_target : MethodName := ⟨"SqlReader$Parser", "target", "()Z"⟩
theorem dk_Parser_target : y_Parser_target.cls ≠ "java/lang/invoke/MethodHandle" ∧ y_Parser_target.cls ≠ "java/lang/invoke/VarHandle" ∧ (parseMethodDescriptor y_Parser_target.desc).map (fun d => d.parameters.length) = some 0 := by decide +kernel
set_option maxRecDepth 100000 in
theorem ck_Parser_target : Cond.code y_Parser_target prog_6_method_8_code 1 (some .boolean) ∈ ALL := tw 792 rfl rfl
def y_Parser_rows : MethodName := ⟨"SqlReader$Parser", "rows", "()Z"⟩
theorem dk_Parser_rows : y_Parser_rows.cls ≠ "java/lang/invoke/MethodHandle" ∧ y_Parser_rows.cls ≠ "java/lang/invoke/VarHandle" ∧ (parseMethodDescriptor y_Parser_rows.desc).map (fun d => d.parameters.length) = some 0 := by decide +kernel
set_option maxRecDepth 100000 in
theorem ck_Parser_rows : Cond.code y_Parser_rows prog_6_method_13_code 3 (some .boolean) ∈ ALL := tw 796 rfl rfl
def y_Lists_size : MethodName := ⟨"SqlReader$Lists", "size", "(I)I"⟩
theorem dk_Lists_size : y_Lists_size.cls ≠ "java/lang/invoke/MethodHandle" ∧ y_Lists_size.cls ≠ "java/lang/invoke/VarHandle" ∧ (parseMethodDescriptor y_Lists_size.desc).map (fun d => d.parameters.length) = some 1 := by decide +kernel
set_option maxRecDepth 100000 in
theorem ck_Lists_size : Cond.code y_Lists_size prog_3_method_4_code 2 (some .int) ∈ ALL := tw 801 rfl rfl
def y_Parser_update : MethodName := ⟨"SqlReader$Parser", "update", "()Z"⟩
theorem dk_Parser_update : y_Parser_update.cls ≠ "java/lang/invoke/MethodHandle" ∧ y_Parser_update.cls ≠ "java/lang/invoke/VarHandle" ∧ (parseMethodDescriptor y_Parser_update.desc).map (fun d => d.parameters.length) = some 0 := by decide +kernel
set_option maxRecDepth 100000 in
theorem ck_Parser_update : Cond.code y_Parser_update prog_6_method_16_code 3 (some .boolean) ∈ ALL := tw 805 rfl rfl
def y_Parser_setting : MethodName := ⟨"SqlReader$Parser", "setting", "()Z"⟩
theorem dk_Parser_setting : y_Parser_setting.cls ≠ "java/lang/invoke/MethodHandle" ∧ y_Parser_setting.cls ≠ "java/lang/invoke/VarHandle" ∧ (parseMethodDescriptor y_Parser_setting.desc).map (fun d => d.parameters.length) = some 0 := by decide +kernel
set_option maxRecDepth 100000 in
theorem ck_Parser_setting : Cond.code y_Parser_setting prog_6_method_17_code 3 (some .boolean) ∈ ALL := tw 810 rfl rfl
def y_Parser_ownTable : MethodName := ⟨"SqlReader$Parser", "ownTable", "()V"⟩
theorem dk_Parser_ownTable : y_Parser_ownTable.cls ≠ "java/lang/invoke/MethodHandle" ∧ y_Parser_ownTable.cls ≠ "java/lang/invoke/VarHandle" ∧ (parseMethodDescriptor y_Parser_ownTable.desc).map (fun d => d.parameters.length) = some 0 := by decide +kernel
set_option maxRecDepth 100000 in
theorem ck_Parser_ownTable : Cond.code y_Parser_ownTable prog_6_method_19_code 1 none ∈ ALL := tw 814 rfl rfl
def y_Parser_delete : MethodName := ⟨"SqlReader$Parser", "delete", "()Z"⟩
theorem dk_Parser_delete : y_Parser_delete.cls ≠ "java/lang/invoke/MethodHandle" ∧ y_Parser_delete.cls ≠ "java/lang/invoke/VarHandle" ∧ (parseMethodDescriptor y_Parser_delete.desc).map (fun d => d.parameters.length) = some 0 := by decide +kernel
set_option maxRecDepth 100000 in
theorem ck_Parser_delete : Cond.code y_Parser_delete prog_6_method_18_code 2 (some .boolean) ∈ ALL := tw 819 rfl rfl
def y_Parser_execute : MethodName := ⟨"SqlReader$Parser", "execute", "()Z"⟩
theorem dk_Parser_execute : y_Parser_execute.cls ≠ "java/lang/invoke/MethodHandle" ∧ y_Parser_execute.cls ≠ "java/lang/invoke/VarHandle" ∧ (parseMethodDescriptor y_Parser_execute.desc).map (fun d => d.parameters.length) = some 0 := by decide +kernel
set_option maxRecDepth 100000 in
theorem ck_Parser_execute : Cond.code y_Parser_execute prog_6_method_14_code 2 (some .boolean) ∈ ALL := tw 824 rfl rfl
def y_Parser_create : MethodName := ⟨"SqlReader$Parser", "create", "()Z"⟩
theorem dk_Parser_create : y_Parser_create.cls ≠ "java/lang/invoke/MethodHandle" ∧ y_Parser_create.cls ≠ "java/lang/invoke/VarHandle" ∧ (parseMethodDescriptor y_Parser_create.desc).map (fun d => d.parameters.length) = some 0 := by decide +kernel
set_option maxRecDepth 100000 in
theorem ck_Parser_create : Cond.code y_Parser_create prog_6_method_9_code 1 (some .boolean) ∈ ALL := tw 829 rfl rfl
def y_Parser_columns : MethodName := ⟨"SqlReader$Parser", "columns", "()Z"⟩
theorem dk_Parser_columns : y_Parser_columns.cls ≠ "java/lang/invoke/MethodHandle" ∧ y_Parser_columns.cls ≠ "java/lang/invoke/VarHandle" ∧ (parseMethodDescriptor y_Parser_columns.desc).map (fun d => d.parameters.length) = some 0 := by decide +kernel
set_option maxRecDepth 100000 in
theorem ck_Parser_columns : Cond.code y_Parser_columns prog_6_method_10_code 3 (some .boolean) ∈ ALL := tw 834 rfl rfl
def y_Parser_newColumn : MethodName := ⟨"SqlReader$Parser", "newColumn", "()Z"⟩
theorem dk_Parser_newColumn : y_Parser_newColumn.cls ≠ "java/lang/invoke/MethodHandle" ∧ y_Parser_newColumn.cls ≠ "java/lang/invoke/VarHandle" ∧ (parseMethodDescriptor y_Parser_newColumn.desc).map (fun d => d.parameters.length) = some 0 := by decide +kernel
set_option maxRecDepth 100000 in
theorem ck_Parser_newColumn : Cond.code y_Parser_newColumn prog_6_method_11_code 5 (some .boolean) ∈ ALL := tw 838 rfl rfl
def y_Parser_typeWord : MethodName := ⟨"SqlReader$Parser", "typeWord", "()I"⟩
theorem dk_Parser_typeWord : y_Parser_typeWord.cls ≠ "java/lang/invoke/MethodHandle" ∧ y_Parser_typeWord.cls ≠ "java/lang/invoke/VarHandle" ∧ (parseMethodDescriptor y_Parser_typeWord.desc).map (fun d => d.parameters.length) = some 0 := by decide +kernel
set_option maxRecDepth 100000 in
theorem ck_Parser_typeWord : Cond.code y_Parser_typeWord prog_6_method_12_code 1 (some .int) ∈ ALL := tw 842 rfl rfl
def y_Parser_otherDeed : MethodName := ⟨"SqlReader$Parser", "otherDeed", "()Z"⟩
theorem dk_Parser_otherDeed : y_Parser_otherDeed.cls ≠ "java/lang/invoke/MethodHandle" ∧ y_Parser_otherDeed.cls ≠ "java/lang/invoke/VarHandle" ∧ (parseMethodDescriptor y_Parser_otherDeed.desc).map (fun d => d.parameters.length) = some 0 := by decide +kernel
set_option maxRecDepth 100000 in
theorem ck_Parser_otherDeed : Cond.code y_Parser_otherDeed prog_6_method_5_code 1 (some .boolean) ∈ ALL := tw 852 rfl rfl
def y_Parser_begin : MethodName := ⟨"SqlReader$Parser", "begin", "()Z"⟩
theorem dk_Parser_begin : y_Parser_begin.cls ≠ "java/lang/invoke/MethodHandle" ∧ y_Parser_begin.cls ≠ "java/lang/invoke/VarHandle" ∧ (parseMethodDescriptor y_Parser_begin.desc).map (fun d => d.parameters.length) = some 0 := by decide +kernel
set_option maxRecDepth 100000 in
theorem ck_Parser_begin : Cond.code y_Parser_begin prog_6_method_30_code 1 (some .boolean) ∈ ALL := tw 858 rfl rfl
def y_Parser_lockMode : MethodName := ⟨"SqlReader$Parser", "lockMode", "()Z"⟩
theorem dk_Parser_lockMode : y_Parser_lockMode.cls ≠ "java/lang/invoke/MethodHandle" ∧ y_Parser_lockMode.cls ≠ "java/lang/invoke/VarHandle" ∧ (parseMethodDescriptor y_Parser_lockMode.desc).map (fun d => d.parameters.length) = some 0 := by decide +kernel
set_option maxRecDepth 100000 in
theorem ck_Parser_lockMode : Cond.code y_Parser_lockMode prog_6_method_31_code 1 (some .boolean) ∈ ALL := tw 872 rfl rfl
def y_Parser_shareMode : MethodName := ⟨"SqlReader$Parser", "shareMode", "()I"⟩
theorem dk_Parser_shareMode : y_Parser_shareMode.cls ≠ "java/lang/invoke/MethodHandle" ∧ y_Parser_shareMode.cls ≠ "java/lang/invoke/VarHandle" ∧ (parseMethodDescriptor y_Parser_shareMode.desc).map (fun d => d.parameters.length) = some 0 := by decide +kernel
set_option maxRecDepth 100000 in
theorem ck_Parser_shareMode : Cond.code y_Parser_shareMode prog_6_method_32_code 1 (some .int) ∈ ALL := tw 879 rfl rfl
def y_Parser_ends : MethodName := ⟨"SqlReader$Parser", "ends", "()Z"⟩
theorem dk_Parser_ends : y_Parser_ends.cls ≠ "java/lang/invoke/MethodHandle" ∧ y_Parser_ends.cls ≠ "java/lang/invoke/VarHandle" ∧ (parseMethodDescriptor y_Parser_ends.desc).map (fun d => d.parameters.length) = some 0 := by decide +kernel
set_option maxRecDepth 100000 in
theorem ck_Parser_ends : Cond.code y_Parser_ends prog_6_method_4_code 1 (some .boolean) ∈ ALL := tw 885 rfl rfl
def y_Tokens_ended : MethodName := ⟨"SqlReader$Tokens", "ended", "()Z"⟩
theorem dk_Tokens_ended : y_Tokens_ended.cls ≠ "java/lang/invoke/MethodHandle" ∧ y_Tokens_ended.cls ≠ "java/lang/invoke/VarHandle" ∧ (parseMethodDescriptor y_Tokens_ended.desc).map (fun d => d.parameters.length) = some 0 := by decide +kernel
set_option maxRecDepth 100000 in
theorem ck_Tokens_ended : Cond.code y_Tokens_ended prog_9_method_4_code 1 (some .boolean) ∈ ALL := tw 890 rfl rfl
def y_Nodes_isOver : MethodName := ⟨"SqlReader$Nodes", "isOver", "()Z"⟩
theorem dk_Nodes_isOver : y_Nodes_isOver.cls ≠ "java/lang/invoke/MethodHandle" ∧ y_Nodes_isOver.cls ≠ "java/lang/invoke/VarHandle" ∧ (parseMethodDescriptor y_Nodes_isOver.desc).map (fun d => d.parameters.length) = some 0 := by decide +kernel
set_option maxRecDepth 100000 in
theorem ck_Nodes_isOver : Cond.code y_Nodes_isOver prog_5_method_7_code 1 (some .boolean) ∈ ALL := tw 894 rfl rfl
def y_Lists_isOver : MethodName := ⟨"SqlReader$Lists", "isOver", "()Z"⟩
theorem dk_Lists_isOver : y_Lists_isOver.cls ≠ "java/lang/invoke/MethodHandle" ∧ y_Lists_isOver.cls ≠ "java/lang/invoke/VarHandle" ∧ (parseMethodDescriptor y_Lists_isOver.desc).map (fun d => d.parameters.length) = some 0 := by decide +kernel
set_option maxRecDepth 100000 in
theorem ck_Lists_isOver : Cond.code y_Lists_isOver prog_3_method_3_code 1 (some .boolean) ∈ ALL := tw 898 rfl rfl
def y_Meaning_firstError : MethodName := ⟨"SqlReader$Meaning", "firstError", "()I"⟩
theorem dk_Meaning_firstError : y_Meaning_firstError.cls ≠ "java/lang/invoke/MethodHandle" ∧ y_Meaning_firstError.cls ≠ "java/lang/invoke/VarHandle" ∧ (parseMethodDescriptor y_Meaning_firstError.desc).map (fun d => d.parameters.length) = some 0 := by decide +kernel
set_option maxRecDepth 100000 in
theorem ck_Meaning_firstError : Cond.code y_Meaning_firstError prog_4_method_2_code 2 (some .int) ∈ ALL := tw 902 rfl rfl
def y_Meaning_tableError : MethodName := ⟨"SqlReader$Meaning", "tableError", "()I"⟩
theorem dk_Meaning_tableError : y_Meaning_tableError.cls ≠ "java/lang/invoke/MethodHandle" ∧ y_Meaning_tableError.cls ≠ "java/lang/invoke/VarHandle" ∧ (parseMethodDescriptor y_Meaning_tableError.desc).map (fun d => d.parameters.length) = some 0 := by decide +kernel
set_option maxRecDepth 100000 in
theorem ck_Meaning_tableError : Cond.code y_Meaning_tableError prog_4_method_3_code 3 (some .int) ∈ ALL := tw 906 rfl rfl
def y_Lists_at : MethodName := ⟨"SqlReader$Lists", "at", "(II)I"⟩
theorem dk_Lists_at : y_Lists_at.cls ≠ "java/lang/invoke/MethodHandle" ∧ y_Lists_at.cls ≠ "java/lang/invoke/VarHandle" ∧ (parseMethodDescriptor y_Lists_at.desc).map (fun d => d.parameters.length) = some 2 := by decide +kernel
set_option maxRecDepth 100000 in
theorem ck_Lists_at : Cond.code y_Lists_at prog_3_method_6_code 4 (some .int) ∈ ALL := tw 912 rfl rfl
def y_Meaning_nameOfTable : MethodName := ⟨"SqlReader$Meaning", "nameOfTable", "(I)I"⟩
theorem dk_Meaning_nameOfTable : y_Meaning_nameOfTable.cls ≠ "java/lang/invoke/MethodHandle" ∧ y_Meaning_nameOfTable.cls ≠ "java/lang/invoke/VarHandle" ∧ (parseMethodDescriptor y_Meaning_nameOfTable.desc).map (fun d => d.parameters.length) = some 1 := by decide +kernel
set_option maxRecDepth 100000 in
theorem ck_Meaning_nameOfTable : Cond.code y_Meaning_nameOfTable prog_4_method_4_code 3 (some .int) ∈ ALL := tw 916 rfl rfl
def y_Meaning_tableCalled : MethodName := ⟨"SqlReader$Meaning", "tableCalled", "(I)I"⟩
theorem dk_Meaning_tableCalled : y_Meaning_tableCalled.cls ≠ "java/lang/invoke/MethodHandle" ∧ y_Meaning_tableCalled.cls ≠ "java/lang/invoke/VarHandle" ∧ (parseMethodDescriptor y_Meaning_tableCalled.desc).map (fun d => d.parameters.length) = some 1 := by decide +kernel
set_option maxRecDepth 100000 in
theorem ck_Meaning_tableCalled : Cond.code y_Meaning_tableCalled prog_4_method_5_code 4 (some .int) ∈ ALL := tw 920 rfl rfl
def y_Meaning_typeError : MethodName := ⟨"SqlReader$Meaning", "typeError", "()I"⟩
theorem dk_Meaning_typeError : y_Meaning_typeError.cls ≠ "java/lang/invoke/MethodHandle" ∧ y_Meaning_typeError.cls ≠ "java/lang/invoke/VarHandle" ∧ (parseMethodDescriptor y_Meaning_typeError.desc).map (fun d => d.parameters.length) = some 0 := by decide +kernel
set_option maxRecDepth 100000 in
theorem ck_Meaning_typeError : Cond.code y_Meaning_typeError prog_4_method_6_code 2 (some .int) ∈ ALL := tw 926 rfl rfl
def y_Meaning_findPlaces : MethodName := ⟨"SqlReader$Meaning", "findPlaces", "()V"⟩
theorem dk_Meaning_findPlaces : y_Meaning_findPlaces.cls ≠ "java/lang/invoke/MethodHandle" ∧ y_Meaning_findPlaces.cls ≠ "java/lang/invoke/VarHandle" ∧ (parseMethodDescriptor y_Meaning_findPlaces.desc).map (fun d => d.parameters.length) = some 0 := by decide +kernel
set_option maxRecDepth 100000 in
theorem ck_Meaning_findPlaces : Cond.code y_Meaning_findPlaces prog_4_method_7_code 2 none ∈ ALL := tw 930 rfl rfl
def y_Nodes_kindOf : MethodName := ⟨"SqlReader$Nodes", "kindOf", "(I)I"⟩
theorem dk_Nodes_kindOf : y_Nodes_kindOf.cls ≠ "java/lang/invoke/MethodHandle" ∧ y_Nodes_kindOf.cls ≠ "java/lang/invoke/VarHandle" ∧ (parseMethodDescriptor y_Nodes_kindOf.desc).map (fun d => d.parameters.length) = some 1 := by decide +kernel
set_option maxRecDepth 100000 in
theorem ck_Nodes_kindOf : Cond.code y_Nodes_kindOf prog_5_method_12_code 2 (some .int) ∈ ALL := tw 935 rfl rfl
def y_Meaning_findPlace : MethodName := ⟨"SqlReader$Meaning", "findPlace", "(I)I"⟩
theorem dk_Meaning_findPlace : y_Meaning_findPlace.cls ≠ "java/lang/invoke/MethodHandle" ∧ y_Meaning_findPlace.cls ≠ "java/lang/invoke/VarHandle" ∧ (parseMethodDescriptor y_Meaning_findPlace.desc).map (fun d => d.parameters.length) = some 1 := by decide +kernel
set_option maxRecDepth 100000 in
theorem ck_Meaning_findPlace : Cond.code y_Meaning_findPlace prog_4_method_8_code 9 (some .int) ∈ ALL := tw 939 rfl rfl
def y_Nodes_qualifierOf : MethodName := ⟨"SqlReader$Nodes", "qualifierOf", "(I)I"⟩
theorem dk_Nodes_qualifierOf : y_Nodes_qualifierOf.cls ≠ "java/lang/invoke/MethodHandle" ∧ y_Nodes_qualifierOf.cls ≠ "java/lang/invoke/VarHandle" ∧ (parseMethodDescriptor y_Nodes_qualifierOf.desc).map (fun d => d.parameters.length) = some 1 := by decide +kernel
set_option maxRecDepth 100000 in
theorem ck_Nodes_qualifierOf : Cond.code y_Nodes_qualifierOf prog_5_method_20_code 2 (some .int) ∈ ALL := tw 943 rfl rfl
def y_Nodes_spanOf : MethodName := ⟨"SqlReader$Nodes", "spanOf", "(I)I"⟩
theorem dk_Nodes_spanOf : y_Nodes_spanOf.cls ≠ "java/lang/invoke/MethodHandle" ∧ y_Nodes_spanOf.cls ≠ "java/lang/invoke/VarHandle" ∧ (parseMethodDescriptor y_Nodes_spanOf.desc).map (fun d => d.parameters.length) = some 1 := by decide +kernel
set_option maxRecDepth 100000 in
theorem ck_Nodes_spanOf : Cond.code y_Nodes_spanOf prog_5_method_19_code 2 (some .int) ∈ ALL := tw 947 rfl rfl
def y_Nodes_putPlace : MethodName := ⟨"SqlReader$Nodes", "putPlace", "(III)V"⟩
theorem dk_Nodes_putPlace : y_Nodes_putPlace.cls ≠ "java/lang/invoke/MethodHandle" ∧ y_Nodes_putPlace.cls ≠ "java/lang/invoke/VarHandle" ∧ (parseMethodDescriptor y_Nodes_putPlace.desc).map (fun d => d.parameters.length) = some 3 := by decide +kernel
set_option maxRecDepth 100000 in
theorem ck_Nodes_putPlace : Cond.code y_Nodes_putPlace prog_5_method_24_code 4 none ∈ ALL := tw 952 rfl rfl
def y_Catalog_typeOf : MethodName := ⟨"SqlReader$Catalog", "typeOf", "(II)I"⟩
theorem dk_Catalog_typeOf : y_Catalog_typeOf.cls ≠ "java/lang/invoke/MethodHandle" ∧ y_Catalog_typeOf.cls ≠ "java/lang/invoke/VarHandle" ∧ (parseMethodDescriptor y_Catalog_typeOf.desc).map (fun d => d.parameters.length) = some 2 := by decide +kernel
set_option maxRecDepth 100000 in
theorem ck_Catalog_typeOf : Cond.code y_Catalog_typeOf prog_2_method_7_code 4 (some .int) ∈ ALL := tw 956 rfl rfl
def y_Nodes_putType : MethodName := ⟨"SqlReader$Nodes", "putType", "(II)V"⟩
theorem dk_Nodes_putType : y_Nodes_putType.cls ≠ "java/lang/invoke/MethodHandle" ∧ y_Nodes_putType.cls ≠ "java/lang/invoke/VarHandle" ∧ (parseMethodDescriptor y_Nodes_putType.desc).map (fun d => d.parameters.length) = some 2 := by decide +kernel
set_option maxRecDepth 100000 in
theorem ck_Nodes_putType : Cond.code y_Nodes_putType prog_5_method_21_code 3 none ∈ ALL := tw 960 rfl rfl
def y_Nodes_putFault : MethodName := ⟨"SqlReader$Nodes", "putFault", "(II)V"⟩
theorem dk_Nodes_putFault : y_Nodes_putFault.cls ≠ "java/lang/invoke/MethodHandle" ∧ y_Nodes_putFault.cls ≠ "java/lang/invoke/VarHandle" ∧ (parseMethodDescriptor y_Nodes_putFault.desc).map (fun d => d.parameters.length) = some 2 := by decide +kernel
set_option maxRecDepth 100000 in
theorem ck_Nodes_putFault : Cond.code y_Nodes_putFault prog_5_method_23_code 3 none ∈ ALL := tw 964 rfl rfl
def y_Meaning_findColumnsSet : MethodName := ⟨"SqlReader$Meaning", "findColumnsSet", "()V"⟩
theorem dk_Meaning_findColumnsSet : y_Meaning_findColumnsSet.cls ≠ "java/lang/invoke/MethodHandle" ∧ y_Meaning_findColumnsSet.cls ≠ "java/lang/invoke/VarHandle" ∧ (parseMethodDescriptor y_Meaning_findColumnsSet.desc).map (fun d => d.parameters.length) = some 0 := by decide +kernel
set_option maxRecDepth 100000 in
theorem ck_Meaning_findColumnsSet : Cond.code y_Meaning_findColumnsSet prog_4_method_9_code 3 none ∈ ALL := tw 968 rfl rfl
def y_Meaning_tellNeeds : MethodName := ⟨"SqlReader$Meaning", "tellNeeds", "()V"⟩
theorem dk_Meaning_tellNeeds : y_Meaning_tellNeeds.cls ≠ "java/lang/invoke/MethodHandle" ∧ y_Meaning_tellNeeds.cls ≠ "java/lang/invoke/VarHandle" ∧ (parseMethodDescriptor y_Meaning_tellNeeds.desc).map (fun d => d.parameters.length) = some 0 := by decide +kernel
set_option maxRecDepth 100000 in
theorem ck_Meaning_tellNeeds : Cond.code y_Meaning_tellNeeds prog_4_method_10_code 4 none ∈ ALL := tw 972 rfl rfl
def y_Nodes_putNeed : MethodName := ⟨"SqlReader$Nodes", "putNeed", "(II)V"⟩
theorem dk_Nodes_putNeed : y_Nodes_putNeed.cls ≠ "java/lang/invoke/MethodHandle" ∧ y_Nodes_putNeed.cls ≠ "java/lang/invoke/VarHandle" ∧ (parseMethodDescriptor y_Nodes_putNeed.desc).map (fun d => d.parameters.length) = some 2 := by decide +kernel
set_option maxRecDepth 100000 in
theorem ck_Nodes_putNeed : Cond.code y_Nodes_putNeed prog_5_method_22_code 3 none ∈ ALL := tw 976 rfl rfl
def y_Meaning_tellColumns : MethodName := ⟨"SqlReader$Meaning", "tellColumns", "(III)V"⟩
theorem dk_Meaning_tellColumns : y_Meaning_tellColumns.cls ≠ "java/lang/invoke/MethodHandle" ∧ y_Meaning_tellColumns.cls ≠ "java/lang/invoke/VarHandle" ∧ (parseMethodDescriptor y_Meaning_tellColumns.desc).map (fun d => d.parameters.length) = some 3 := by decide +kernel
set_option maxRecDepth 100000 in
theorem ck_Meaning_tellColumns : Cond.code y_Meaning_tellColumns prog_4_method_11_code 5 none ∈ ALL := tw 980 rfl rfl
def y_Meaning_typeParameters : MethodName := ⟨"SqlReader$Meaning", "typeParameters", "()V"⟩
theorem dk_Meaning_typeParameters : y_Meaning_typeParameters.cls ≠ "java/lang/invoke/MethodHandle" ∧ y_Meaning_typeParameters.cls ≠ "java/lang/invoke/VarHandle" ∧ (parseMethodDescriptor y_Meaning_typeParameters.desc).map (fun d => d.parameters.length) = some 0 := by decide +kernel
set_option maxRecDepth 100000 in
theorem ck_Meaning_typeParameters : Cond.code y_Meaning_typeParameters prog_4_method_21_code 2 none ∈ ALL := tw 984 rfl rfl
def y_Meaning_parameterType : MethodName := ⟨"SqlReader$Meaning", "parameterType", "(I)I"⟩
theorem dk_Meaning_parameterType : y_Meaning_parameterType.cls ≠ "java/lang/invoke/MethodHandle" ∧ y_Meaning_parameterType.cls ≠ "java/lang/invoke/VarHandle" ∧ (parseMethodDescriptor y_Meaning_parameterType.desc).map (fun d => d.parameters.length) = some 1 := by decide +kernel
set_option maxRecDepth 100000 in
theorem ck_Meaning_parameterType : Cond.code y_Meaning_parameterType prog_4_method_22_code 4 (some .int) ∈ ALL := tw 988 rfl rfl
def y_Nodes_firstOf : MethodName := ⟨"SqlReader$Nodes", "firstOf", "(I)I"⟩
theorem dk_Nodes_firstOf : y_Nodes_firstOf.cls ≠ "java/lang/invoke/MethodHandle" ∧ y_Nodes_firstOf.cls ≠ "java/lang/invoke/VarHandle" ∧ (parseMethodDescriptor y_Nodes_firstOf.desc).map (fun d => d.parameters.length) = some 1 := by decide +kernel
set_option maxRecDepth 100000 in
theorem ck_Nodes_firstOf : Cond.code y_Nodes_firstOf prog_5_method_13_code 2 (some .int) ∈ ALL := tw 992 rfl rfl
def y_Meaning_neededAt : MethodName := ⟨"SqlReader$Meaning", "neededAt", "(I)I"⟩
theorem dk_Meaning_neededAt : y_Meaning_neededAt.cls ≠ "java/lang/invoke/MethodHandle" ∧ y_Meaning_neededAt.cls ≠ "java/lang/invoke/VarHandle" ∧ (parseMethodDescriptor y_Meaning_neededAt.desc).map (fun d => d.parameters.length) = some 1 := by decide +kernel
set_option maxRecDepth 100000 in
theorem ck_Meaning_neededAt : Cond.code y_Meaning_neededAt prog_4_method_23_code 5 (some .int) ∈ ALL := tw 996 rfl rfl
def y_Nodes_parentOf : MethodName := ⟨"SqlReader$Nodes", "parentOf", "(I)I"⟩
theorem dk_Nodes_parentOf : y_Nodes_parentOf.cls ≠ "java/lang/invoke/MethodHandle" ∧ y_Nodes_parentOf.cls ≠ "java/lang/invoke/VarHandle" ∧ (parseMethodDescriptor y_Nodes_parentOf.desc).map (fun d => d.parameters.length) = some 1 := by decide +kernel
set_option maxRecDepth 100000 in
theorem ck_Nodes_parentOf : Cond.code y_Nodes_parentOf prog_5_method_16_code 2 (some .int) ∈ ALL := tw 1000 rfl rfl
def y_Nodes_needOf : MethodName := ⟨"SqlReader$Nodes", "needOf", "(I)I"⟩
theorem dk_Nodes_needOf : y_Nodes_needOf.cls ≠ "java/lang/invoke/MethodHandle" ∧ y_Nodes_needOf.cls ≠ "java/lang/invoke/VarHandle" ∧ (parseMethodDescriptor y_Nodes_needOf.desc).map (fun d => d.parameters.length) = some 1 := by decide +kernel
set_option maxRecDepth 100000 in
theorem ck_Nodes_needOf : Cond.code y_Nodes_needOf prog_5_method_17_code 2 (some .int) ∈ ALL := tw 1006 rfl rfl
def y_Nodes_compares : MethodName := ⟨"SqlReader$Nodes", "compares", "(I)Z"⟩
theorem dk_Nodes_compares : y_Nodes_compares.cls ≠ "java/lang/invoke/MethodHandle" ∧ y_Nodes_compares.cls ≠ "java/lang/invoke/VarHandle" ∧ (parseMethodDescriptor y_Nodes_compares.desc).map (fun d => d.parameters.length) = some 1 := by decide +kernel
set_option maxRecDepth 100000 in
theorem ck_Nodes_compares : Cond.code y_Nodes_compares prog_5_method_4_code 1 (some .boolean) ∈ ALL := tw 1009 rfl rfl
def y_Nodes_secondOf : MethodName := ⟨"SqlReader$Nodes", "secondOf", "(I)I"⟩
theorem dk_Nodes_secondOf : y_Nodes_secondOf.cls ≠ "java/lang/invoke/MethodHandle" ∧ y_Nodes_secondOf.cls ≠ "java/lang/invoke/VarHandle" ∧ (parseMethodDescriptor y_Nodes_secondOf.desc).map (fun d => d.parameters.length) = some 1 := by decide +kernel
set_option maxRecDepth 100000 in
theorem ck_Nodes_secondOf : Cond.code y_Nodes_secondOf prog_5_method_14_code 2 (some .int) ∈ ALL := tw 1013 rfl rfl
def y_Meaning_typeAhead : MethodName := ⟨"SqlReader$Meaning", "typeAhead", "(I)I"⟩
theorem dk_Meaning_typeAhead : y_Meaning_typeAhead.cls ≠ "java/lang/invoke/MethodHandle" ∧ y_Meaning_typeAhead.cls ≠ "java/lang/invoke/VarHandle" ∧ (parseMethodDescriptor y_Meaning_typeAhead.desc).map (fun d => d.parameters.length) = some 1 := by decide +kernel
set_option maxRecDepth 100000 in
theorem ck_Meaning_typeAhead : Cond.code y_Meaning_typeAhead prog_4_method_24_code 5 (some .int) ∈ ALL := tw 1017 rfl rfl
def y_Nodes_typeOf : MethodName := ⟨"SqlReader$Nodes", "typeOf", "(I)I"⟩
theorem dk_Nodes_typeOf : y_Nodes_typeOf.cls ≠ "java/lang/invoke/MethodHandle" ∧ y_Nodes_typeOf.cls ≠ "java/lang/invoke/VarHandle" ∧ (parseMethodDescriptor y_Nodes_typeOf.desc).map (fun d => d.parameters.length) = some 1 := by decide +kernel
set_option maxRecDepth 100000 in
theorem ck_Nodes_typeOf : Cond.code y_Nodes_typeOf prog_5_method_15_code 2 (some .int) ∈ ALL := tw 1021 rfl rfl
def y_Meaning_typeByKind : MethodName := ⟨"SqlReader$Meaning", "typeByKind", "(I)I"⟩
theorem dk_Meaning_typeByKind : y_Meaning_typeByKind.cls ≠ "java/lang/invoke/MethodHandle" ∧ y_Meaning_typeByKind.cls ≠ "java/lang/invoke/VarHandle" ∧ (parseMethodDescriptor y_Meaning_typeByKind.desc).map (fun d => d.parameters.length) = some 1 := by decide +kernel
set_option maxRecDepth 100000 in
theorem ck_Meaning_typeByKind : Cond.code y_Meaning_typeByKind prog_4_method_20_code 1 (some .int) ∈ ALL := tw 1025 rfl rfl
def y_Lists_put : MethodName := ⟨"SqlReader$Lists", "put", "(III)V"⟩
theorem dk_Lists_put : y_Lists_put.cls ≠ "java/lang/invoke/MethodHandle" ∧ y_Lists_put.cls ≠ "java/lang/invoke/VarHandle" ∧ (parseMethodDescriptor y_Lists_put.desc).map (fun d => d.parameters.length) = some 3 := by decide +kernel
set_option maxRecDepth 100000 in
theorem ck_Lists_put : Cond.code y_Lists_put prog_3_method_7_code 4 none ∈ ALL := tw 1031 rfl rfl
def y_Meaning_indexError : MethodName := ⟨"SqlReader$Meaning", "indexError", "()I"⟩
theorem dk_Meaning_indexError : y_Meaning_indexError.cls ≠ "java/lang/invoke/MethodHandle" ∧ y_Meaning_indexError.cls ≠ "java/lang/invoke/VarHandle" ∧ (parseMethodDescriptor y_Meaning_indexError.desc).map (fun d => d.parameters.length) = some 0 := by decide +kernel
set_option maxRecDepth 100000 in
theorem ck_Meaning_indexError : Cond.code y_Meaning_indexError prog_4_method_12_code 1 (some .int) ∈ ALL := tw 1035 rfl rfl
def y_Meaning_starError : MethodName := ⟨"SqlReader$Meaning", "starError", "()I"⟩
theorem dk_Meaning_starError : y_Meaning_starError.cls ≠ "java/lang/invoke/MethodHandle" ∧ y_Meaning_starError.cls ≠ "java/lang/invoke/VarHandle" ∧ (parseMethodDescriptor y_Meaning_starError.desc).map (fun d => d.parameters.length) = some 0 := by decide +kernel
set_option maxRecDepth 100000 in
theorem ck_Meaning_starError : Cond.code y_Meaning_starError prog_4_method_13_code 6 (some .int) ∈ ALL := tw 1039 rfl rfl
def y_Meaning_fits : MethodName := ⟨"SqlReader$Meaning", "fits", "(II)Z"⟩
theorem dk_Meaning_fits : y_Meaning_fits.cls ≠ "java/lang/invoke/MethodHandle" ∧ y_Meaning_fits.cls ≠ "java/lang/invoke/VarHandle" ∧ (parseMethodDescriptor y_Meaning_fits.desc).map (fun d => d.parameters.length) = some 2 := by decide +kernel
set_option maxRecDepth 100000 in
theorem ck_Meaning_fits : Cond.code y_Meaning_fits prog_4_method_18_code 2 (some .boolean) ∈ ALL := tw 1043 rfl rfl
def y_Meaning_settingsError : MethodName := ⟨"SqlReader$Meaning", "settingsError", "()I"⟩
theorem dk_Meaning_settingsError : y_Meaning_settingsError.cls ≠ "java/lang/invoke/MethodHandle" ∧ y_Meaning_settingsError.cls ≠ "java/lang/invoke/VarHandle" ∧ (parseMethodDescriptor y_Meaning_settingsError.desc).map (fun d => d.parameters.length) = some 0 := by decide +kernel
set_option maxRecDepth 100000 in
theorem ck_Meaning_settingsError : Cond.code y_Meaning_settingsError prog_4_method_14_code 4 (some .int) ∈ ALL := tw 1047 rfl rfl
def y_Meaning_judgeTo : MethodName := ⟨"SqlReader$Meaning", "judgeTo", "(I)I"⟩
theorem dk_Meaning_judgeTo : y_Meaning_judgeTo.cls ≠ "java/lang/invoke/MethodHandle" ∧ y_Meaning_judgeTo.cls ≠ "java/lang/invoke/VarHandle" ∧ (parseMethodDescriptor y_Meaning_judgeTo.desc).map (fun d => d.parameters.length) = some 1 := by decide +kernel
set_option maxRecDepth 100000 in
theorem ck_Meaning_judgeTo : Cond.code y_Meaning_judgeTo prog_4_method_15_code 4 (some .int) ∈ ALL := tw 1051 rfl rfl
def y_Meaning_judge : MethodName := ⟨"SqlReader$Meaning", "judge", "(I)I"⟩
theorem dk_Meaning_judge : y_Meaning_judge.cls ≠ "java/lang/invoke/MethodHandle" ∧ y_Meaning_judge.cls ≠ "java/lang/invoke/VarHandle" ∧ (parseMethodDescriptor y_Meaning_judge.desc).map (fun d => d.parameters.length) = some 1 := by decide +kernel
set_option maxRecDepth 100000 in
theorem ck_Meaning_judge : Cond.code y_Meaning_judge prog_4_method_16_code 4 (some .int) ∈ ALL := tw 1055 rfl rfl
def y_Nodes_faultOf : MethodName := ⟨"SqlReader$Nodes", "faultOf", "(I)I"⟩
theorem dk_Nodes_faultOf : y_Nodes_faultOf.cls ≠ "java/lang/invoke/MethodHandle" ∧ y_Nodes_faultOf.cls ≠ "java/lang/invoke/VarHandle" ∧ (parseMethodDescriptor y_Nodes_faultOf.desc).map (fun d => d.parameters.length) = some 1 := by decide +kernel
set_option maxRecDepth 100000 in
theorem ck_Nodes_faultOf : Cond.code y_Nodes_faultOf prog_5_method_18_code 2 (some .int) ∈ ALL := tw 1059 rfl rfl
def y_Meaning_operandsFit : MethodName := ⟨"SqlReader$Meaning", "operandsFit", "(I)Z"⟩
theorem dk_Meaning_operandsFit : y_Meaning_operandsFit.cls ≠ "java/lang/invoke/MethodHandle" ∧ y_Meaning_operandsFit.cls ≠ "java/lang/invoke/VarHandle" ∧ (parseMethodDescriptor y_Meaning_operandsFit.desc).map (fun d => d.parameters.length) = some 1 := by decide +kernel
set_option maxRecDepth 100000 in
theorem ck_Meaning_operandsFit : Cond.code y_Meaning_operandsFit prog_4_method_17_code 5 (some .boolean) ∈ ALL := tw 1063 rfl rfl
def y_Meaning_typeFor : MethodName := ⟨"SqlReader$Meaning", "typeFor", "(I)I"⟩
theorem dk_Meaning_typeFor : y_Meaning_typeFor.cls ≠ "java/lang/invoke/MethodHandle" ∧ y_Meaning_typeFor.cls ≠ "java/lang/invoke/VarHandle" ∧ (parseMethodDescriptor y_Meaning_typeFor.desc).map (fun d => d.parameters.length) = some 1 := by decide +kernel
set_option maxRecDepth 100000 in
theorem ck_Meaning_typeFor : Cond.code y_Meaning_typeFor prog_4_method_19_code 4 (some .int) ∈ ALL := tw 1068 rfl rfl
def y_Meaning_measureError : MethodName := ⟨"SqlReader$Meaning", "measureError", "()I"⟩
theorem dk_Meaning_measureError : y_Meaning_measureError.cls ≠ "java/lang/invoke/MethodHandle" ∧ y_Meaning_measureError.cls ≠ "java/lang/invoke/VarHandle" ∧ (parseMethodDescriptor y_Meaning_measureError.desc).map (fun d => d.parameters.length) = some 0 := by decide +kernel
set_option maxRecDepth 100000 in
theorem ck_Meaning_measureError : Cond.code y_Meaning_measureError prog_4_method_25_code 4 (some .int) ∈ ALL := tw 1072 rfl rfl
def y_Meaning_columnsOfStar : MethodName := ⟨"SqlReader$Meaning", "columnsOfStar", "()I"⟩
theorem dk_Meaning_columnsOfStar : y_Meaning_columnsOfStar.cls ≠ "java/lang/invoke/MethodHandle" ∧ y_Meaning_columnsOfStar.cls ≠ "java/lang/invoke/VarHandle" ∧ (parseMethodDescriptor y_Meaning_columnsOfStar.desc).map (fun d => d.parameters.length) = some 0 := by decide +kernel
set_option maxRecDepth 100000 in
theorem ck_Meaning_columnsOfStar : Cond.code y_Meaning_columnsOfStar prog_4_method_26_code 3 (some .int) ∈ ALL := tw 1076 rfl rfl
def y_Meaning_spreadStar : MethodName := ⟨"SqlReader$Meaning", "spreadStar", "()V"⟩
theorem dk_Meaning_spreadStar : y_Meaning_spreadStar.cls ≠ "java/lang/invoke/MethodHandle" ∧ y_Meaning_spreadStar.cls ≠ "java/lang/invoke/VarHandle" ∧ (parseMethodDescriptor y_Meaning_spreadStar.desc).map (fun d => d.parameters.length) = some 0 := by decide +kernel
set_option maxRecDepth 100000 in
theorem ck_Meaning_spreadStar : Cond.code y_Meaning_spreadStar prog_4_method_27_code 5 none ∈ ALL := tw 1080 rfl rfl
def y_Meaning_valuesMatch : MethodName := ⟨"SqlReader$Meaning", "valuesMatch", "()Z"⟩
theorem dk_Meaning_valuesMatch : y_Meaning_valuesMatch.cls ≠ "java/lang/invoke/MethodHandle" ∧ y_Meaning_valuesMatch.cls ≠ "java/lang/invoke/VarHandle" ∧ (parseMethodDescriptor y_Meaning_valuesMatch.desc).map (fun d => d.parameters.length) = some 0 := by decide +kernel
set_option maxRecDepth 100000 in
theorem ck_Meaning_valuesMatch : Cond.code y_Meaning_valuesMatch prog_4_method_28_code 5 (some .boolean) ∈ ALL := tw 1085 rfl rfl
def y_Meaning_namesDiffer : MethodName := ⟨"SqlReader$Meaning", "namesDiffer", "()Z"⟩
theorem dk_Meaning_namesDiffer : y_Meaning_namesDiffer.cls ≠ "java/lang/invoke/MethodHandle" ∧ y_Meaning_namesDiffer.cls ≠ "java/lang/invoke/VarHandle" ∧ (parseMethodDescriptor y_Meaning_namesDiffer.desc).map (fun d => d.parameters.length) = some 0 := by decide +kernel
set_option maxRecDepth 100000 in
theorem ck_Meaning_namesDiffer : Cond.code y_Meaning_namesDiffer prog_4_method_29_code 4 (some .boolean) ∈ ALL := tw 1089 rfl rfl
def y_Meaning_ordersMatch : MethodName := ⟨"SqlReader$Meaning", "ordersMatch", "()Z"⟩
theorem dk_Meaning_ordersMatch : y_Meaning_ordersMatch.cls ≠ "java/lang/invoke/MethodHandle" ∧ y_Meaning_ordersMatch.cls ≠ "java/lang/invoke/VarHandle" ∧ (parseMethodDescriptor y_Meaning_ordersMatch.desc).map (fun d => d.parameters.length) = some 0 := by decide +kernel
set_option maxRecDepth 100000 in
theorem ck_Meaning_ordersMatch : Cond.code y_Meaning_ordersMatch prog_4_method_30_code 3 (some .boolean) ∈ ALL := tw 1093 rfl rfl
def y_Meaning_groupError : MethodName := ⟨"SqlReader$Meaning", "groupError", "()I"⟩
theorem dk_Meaning_groupError : y_Meaning_groupError.cls ≠ "java/lang/invoke/MethodHandle" ∧ y_Meaning_groupError.cls ≠ "java/lang/invoke/VarHandle" ∧ (parseMethodDescriptor y_Meaning_groupError.desc).map (fun d => d.parameters.length) = some 0 := by decide +kernel
set_option maxRecDepth 100000 in
theorem ck_Meaning_groupError : Cond.code y_Meaning_groupError prog_4_method_31_code 5 (some .int) ∈ ALL := tw 1097 rfl rfl
def y_Nodes_aggregates : MethodName := ⟨"SqlReader$Nodes", "aggregates", "(I)Z"⟩
theorem dk_Nodes_aggregates : y_Nodes_aggregates.cls ≠ "java/lang/invoke/MethodHandle" ∧ y_Nodes_aggregates.cls ≠ "java/lang/invoke/VarHandle" ∧ (parseMethodDescriptor y_Nodes_aggregates.desc).map (fun d => d.parameters.length) = some 1 := by decide +kernel
set_option maxRecDepth 100000 in
theorem ck_Nodes_aggregates : Cond.code y_Nodes_aggregates prog_5_method_3_code 1 (some .boolean) ∈ ALL := tw 1100 rfl rfl
def y_Meaning_isAggregated : MethodName := ⟨"SqlReader$Meaning", "isAggregated", "(I)Z"⟩
theorem dk_Meaning_isAggregated : y_Meaning_isAggregated.cls ≠ "java/lang/invoke/MethodHandle" ∧ y_Meaning_isAggregated.cls ≠ "java/lang/invoke/VarHandle" ∧ (parseMethodDescriptor y_Meaning_isAggregated.desc).map (fun d => d.parameters.length) = some 1 := by decide +kernel
set_option maxRecDepth 100000 in
theorem ck_Meaning_isAggregated : Cond.code y_Meaning_isAggregated prog_4_method_32_code 4 (some .boolean) ∈ ALL := tw 1104 rfl rfl
def y_Meaning_itemsAreGrouped : MethodName := ⟨"SqlReader$Meaning", "itemsAreGrouped", "()Z"⟩
theorem dk_Meaning_itemsAreGrouped : y_Meaning_itemsAreGrouped.cls ≠ "java/lang/invoke/MethodHandle" ∧ y_Meaning_itemsAreGrouped.cls ≠ "java/lang/invoke/VarHandle" ∧ (parseMethodDescriptor y_Meaning_itemsAreGrouped.desc).map (fun d => d.parameters.length) = some 0 := by decide +kernel
set_option maxRecDepth 100000 in
theorem ck_Meaning_itemsAreGrouped : Cond.code y_Meaning_itemsAreGrouped prog_4_method_33_code 6 (some .boolean) ∈ ALL := tw 1108 rfl rfl
def y_Meaning_isGrouped : MethodName := ⟨"SqlReader$Meaning", "isGrouped", "(I)Z"⟩
theorem dk_Meaning_isGrouped : y_Meaning_isGrouped.cls ≠ "java/lang/invoke/MethodHandle" ∧ y_Meaning_isGrouped.cls ≠ "java/lang/invoke/VarHandle" ∧ (parseMethodDescriptor y_Meaning_isGrouped.desc).map (fun d => d.parameters.length) = some 1 := by decide +kernel
set_option maxRecDepth 100000 in
theorem ck_Meaning_isGrouped : Cond.code y_Meaning_isGrouped prog_4_method_34_code 5 (some .boolean) ∈ ALL := tw 1112 rfl rfl
def y_SqlReader_node : MethodName := ⟨"SqlReader", "node", "(II)I"⟩
theorem dk_SqlReader_node : y_SqlReader_node.cls ≠ "java/lang/invoke/MethodHandle" ∧ y_SqlReader_node.cls ≠ "java/lang/invoke/VarHandle" ∧ (parseMethodDescriptor y_SqlReader_node.desc).map (fun d => d.parameters.length) = some 2 := by decide +kernel
set_option maxRecDepth 100000 in
theorem ck_SqlReader_node : Cond.code y_SqlReader_node prog_1_method_6_code 3 (some .int) ∈ ALL := tw 1116 rfl rfl
def y_SqlReader_value : MethodName := ⟨"SqlReader", "value", "(I)J"⟩
theorem dk_SqlReader_value : y_SqlReader_value.cls ≠ "java/lang/invoke/MethodHandle" ∧ y_SqlReader_value.cls ≠ "java/lang/invoke/VarHandle" ∧ (parseMethodDescriptor y_SqlReader_value.desc).map (fun d => d.parameters.length) = some 1 := by decide +kernel
set_option maxRecDepth 100000 in
theorem ck_SqlReader_value : Cond.code y_SqlReader_value prog_1_method_7_code 3 (some .long) ∈ ALL := tw 1124 rfl rfl
def y_SqlReader_letter : MethodName := ⟨"SqlReader", "letter", "(II)I"⟩
theorem dk_SqlReader_letter : y_SqlReader_letter.cls ≠ "java/lang/invoke/MethodHandle" ∧ y_SqlReader_letter.cls ≠ "java/lang/invoke/VarHandle" ∧ (parseMethodDescriptor y_SqlReader_letter.desc).map (fun d => d.parameters.length) = some 2 := by decide +kernel
set_option maxRecDepth 100000 in
theorem ck_SqlReader_letter : Cond.code y_SqlReader_letter prog_1_method_8_code 3 (some .int) ∈ ALL := tw 1131 rfl rfl
def y_Text_letterAt : MethodName := ⟨"SqlReader$Text", "letterAt", "(II)I"⟩
theorem dk_Text_letterAt : y_Text_letterAt.cls ≠ "java/lang/invoke/MethodHandle" ∧ y_Text_letterAt.cls ≠ "java/lang/invoke/VarHandle" ∧ (parseMethodDescriptor y_Text_letterAt.desc).map (fun d => d.parameters.length) = some 2 := by decide +kernel
set_option maxRecDepth 100000 in
theorem ck_Text_letterAt : Cond.code y_Text_letterAt prog_8_method_16_code 3 (some .int) ∈ ALL := tw 1136 rfl rfl
def y_SqlReader_count : MethodName := ⟨"SqlReader", "count", "(I)I"⟩
theorem dk_SqlReader_count : y_SqlReader_count.cls ≠ "java/lang/invoke/MethodHandle" ∧ y_SqlReader_count.cls ≠ "java/lang/invoke/VarHandle" ∧ (parseMethodDescriptor y_SqlReader_count.desc).map (fun d => d.parameters.length) = some 1 := by decide +kernel
set_option maxRecDepth 100000 in
theorem ck_SqlReader_count : Cond.code y_SqlReader_count prog_1_method_9_code 2 (some .int) ∈ ALL := tw 1140 rfl rfl
def y_SqlReader_list : MethodName := ⟨"SqlReader", "list", "(II)I"⟩
theorem dk_SqlReader_list : y_SqlReader_list.cls ≠ "java/lang/invoke/MethodHandle" ∧ y_SqlReader_list.cls ≠ "java/lang/invoke/VarHandle" ∧ (parseMethodDescriptor y_SqlReader_list.desc).map (fun d => d.parameters.length) = some 2 := by decide +kernel
set_option maxRecDepth 100000 in
theorem ck_SqlReader_list : Cond.code y_SqlReader_list prog_1_method_10_code 3 (some .int) ∈ ALL := tw 1146 rfl rfl
def y_SqlReader_name : MethodName := ⟨"SqlReader", "name", "(II)I"⟩
theorem dk_SqlReader_name : y_SqlReader_name.cls ≠ "java/lang/invoke/MethodHandle" ∧ y_SqlReader_name.cls ≠ "java/lang/invoke/VarHandle" ∧ (parseMethodDescriptor y_SqlReader_name.desc).map (fun d => d.parameters.length) = some 2 := by decide +kernel
set_option maxRecDepth 100000 in
theorem ck_SqlReader_name : Cond.code y_SqlReader_name prog_1_method_11_code 4 (some .int) ∈ ALL := tw 1151 rfl rfl
def y_SqlReaderModel_init : MethodName := ⟨"SqlReaderModel", "<init>", "()V"⟩
theorem dk_SqlReaderModel_init : y_SqlReaderModel_init.cls ≠ "java/lang/invoke/MethodHandle" ∧ y_SqlReaderModel_init.cls ≠ "java/lang/invoke/VarHandle" ∧ (parseMethodDescriptor y_SqlReaderModel_init.desc).map (fun d => d.parameters.length) = some 0 := by decide +kernel
set_option maxRecDepth 100000 in
theorem ck_SqlReaderModel_init : Cond.code y_SqlReaderModel_init prog_11_method_1_code 1 none ∈ ALL := tw 1156 rfl rfl
def y_SqlReaderModel_forget : MethodName := ⟨"SqlReaderModel", "forget", "()V"⟩
theorem dk_SqlReaderModel_forget : y_SqlReaderModel_forget.cls ≠ "java/lang/invoke/MethodHandle" ∧ y_SqlReaderModel_forget.cls ≠ "java/lang/invoke/VarHandle" ∧ (parseMethodDescriptor y_SqlReaderModel_forget.desc).map (fun d => d.parameters.length) = some 0 := by decide +kernel
set_option maxRecDepth 100000 in
theorem ck_SqlReaderModel_forget : Cond.code y_SqlReaderModel_forget prog_11_method_2_code 2 none ∈ ALL := tw 1161 rfl rfl
def y_SqlReaderModel_type : MethodName := ⟨"SqlReaderModel", "type", "(JI)Z"⟩
theorem dk_SqlReaderModel_type : y_SqlReaderModel_type.cls ≠ "java/lang/invoke/MethodHandle" ∧ y_SqlReaderModel_type.cls ≠ "java/lang/invoke/VarHandle" ∧ (parseMethodDescriptor y_SqlReaderModel_type.desc).map (fun d => d.parameters.length) = some 2 := by decide +kernel
set_option maxRecDepth 100000 in
theorem ck_SqlReaderModel_type : Cond.code y_SqlReaderModel_type prog_11_method_3_code 5 (some .boolean) ∈ ALL := tw 1382 rfl rfl
def y_SqlReaderModel_table : MethodName := ⟨"SqlReaderModel", "table", "()I"⟩
theorem dk_SqlReaderModel_table : y_SqlReaderModel_table.cls ≠ "java/lang/invoke/MethodHandle" ∧ y_SqlReaderModel_table.cls ≠ "java/lang/invoke/VarHandle" ∧ (parseMethodDescriptor y_SqlReaderModel_table.desc).map (fun d => d.parameters.length) = some 0 := by decide +kernel
set_option maxRecDepth 100000 in
theorem ck_SqlReaderModel_table : Cond.code y_SqlReaderModel_table prog_11_method_21_code 2 (some .int) ∈ ALL := tw 1386 rfl rfl
def y_SqlReaderModel_takesName : MethodName := ⟨"SqlReaderModel", "takesName", "()Z"⟩
theorem dk_SqlReaderModel_takesName : y_SqlReaderModel_takesName.cls ≠ "java/lang/invoke/MethodHandle" ∧ y_SqlReaderModel_takesName.cls ≠ "java/lang/invoke/VarHandle" ∧ (parseMethodDescriptor y_SqlReaderModel_takesName.desc).map (fun d => d.parameters.length) = some 0 := by decide +kernel
set_option maxRecDepth 100000 in
theorem ck_SqlReaderModel_takesName : Cond.code y_SqlReaderModel_takesName prog_11_method_18_code 2 (some .boolean) ∈ ALL := tw 1390 rfl rfl
def y_SqlReaderModel_cut : MethodName := ⟨"SqlReaderModel", "cut", "()V"⟩
theorem dk_SqlReaderModel_cut : y_SqlReaderModel_cut.cls ≠ "java/lang/invoke/MethodHandle" ∧ y_SqlReaderModel_cut.cls ≠ "java/lang/invoke/VarHandle" ∧ (parseMethodDescriptor y_SqlReaderModel_cut.desc).map (fun d => d.parameters.length) = some 0 := by decide +kernel
set_option maxRecDepth 100000 in
theorem ck_SqlReaderModel_cut : Cond.code y_SqlReaderModel_cut prog_11_method_10_code 5 none ∈ ALL := tw 1394 rfl rfl
def y_SqlReaderModel_cutText : MethodName := ⟨"SqlReaderModel", "cutText", "(I)I"⟩
theorem dk_SqlReaderModel_cutText : y_SqlReaderModel_cutText.cls ≠ "java/lang/invoke/MethodHandle" ∧ y_SqlReaderModel_cutText.cls ≠ "java/lang/invoke/VarHandle" ∧ (parseMethodDescriptor y_SqlReaderModel_cutText.desc).map (fun d => d.parameters.length) = some 1 := by decide +kernel
set_option maxRecDepth 100000 in
theorem ck_SqlReaderModel_cutText : Cond.code y_SqlReaderModel_cutText prog_11_method_12_code 6 (some .int) ∈ ALL := tw 1398 rfl rfl
def y_SqlReaderModel_at : MethodName := ⟨"SqlReaderModel", "at", "(I)I"⟩
theorem dk_SqlReaderModel_at : y_SqlReaderModel_at.cls ≠ "java/lang/invoke/MethodHandle" ∧ y_SqlReaderModel_at.cls ≠ "java/lang/invoke/VarHandle" ∧ (parseMethodDescriptor y_SqlReaderModel_at.desc).map (fun d => d.parameters.length) = some 1 := by decide +kernel
set_option maxRecDepth 100000 in
theorem ck_SqlReaderModel_at : Cond.code y_SqlReaderModel_at prog_11_method_8_code 2 (some .int) ∈ ALL := tw 1402 rfl rfl
def y_SqlReaderModel_token : MethodName := ⟨"SqlReaderModel", "token", "(III)V"⟩
theorem dk_SqlReaderModel_token : y_SqlReaderModel_token.cls ≠ "java/lang/invoke/MethodHandle" ∧ y_SqlReaderModel_token.cls ≠ "java/lang/invoke/VarHandle" ∧ (parseMethodDescriptor y_SqlReaderModel_token.desc).map (fun d => d.parameters.length) = some 3 := by decide +kernel
set_option maxRecDepth 100000 in
theorem ck_SqlReaderModel_token : Cond.code y_SqlReaderModel_token prog_11_method_9_code 4 none ∈ ALL := tw 1406 rfl rfl
def y_SqlReaderModel_isCapital : MethodName := ⟨"SqlReaderModel", "isCapital", "(I)Z"⟩
theorem dk_SqlReaderModel_isCapital : y_SqlReaderModel_isCapital.cls ≠ "java/lang/invoke/MethodHandle" ∧ y_SqlReaderModel_isCapital.cls ≠ "java/lang/invoke/VarHandle" ∧ (parseMethodDescriptor y_SqlReaderModel_isCapital.desc).map (fun d => d.parameters.length) = some 1 := by decide +kernel
set_option maxRecDepth 100000 in
theorem ck_SqlReaderModel_isCapital : Cond.code y_SqlReaderModel_isCapital prog_11_method_4_code 1 (some .boolean) ∈ ALL := tw 1409 rfl rfl
def y_SqlReaderModel_isSmall : MethodName := ⟨"SqlReaderModel", "isSmall", "(I)Z"⟩
theorem dk_SqlReaderModel_isSmall : y_SqlReaderModel_isSmall.cls ≠ "java/lang/invoke/MethodHandle" ∧ y_SqlReaderModel_isSmall.cls ≠ "java/lang/invoke/VarHandle" ∧ (parseMethodDescriptor y_SqlReaderModel_isSmall.desc).map (fun d => d.parameters.length) = some 1 := by decide +kernel
set_option maxRecDepth 100000 in
theorem ck_SqlReaderModel_isSmall : Cond.code y_SqlReaderModel_isSmall prog_11_method_5_code 1 (some .boolean) ∈ ALL := tw 1412 rfl rfl
def y_SqlReaderModel_isDigit : MethodName := ⟨"SqlReaderModel", "isDigit", "(I)Z"⟩
theorem dk_SqlReaderModel_isDigit : y_SqlReaderModel_isDigit.cls ≠ "java/lang/invoke/MethodHandle" ∧ y_SqlReaderModel_isDigit.cls ≠ "java/lang/invoke/VarHandle" ∧ (parseMethodDescriptor y_SqlReaderModel_isDigit.desc).map (fun d => d.parameters.length) = some 1 := by decide +kernel
set_option maxRecDepth 100000 in
theorem ck_SqlReaderModel_isDigit : Cond.code y_SqlReaderModel_isDigit prog_11_method_6_code 1 (some .boolean) ∈ ALL := tw 1415 rfl rfl
def y_SqlReaderModel_isInName : MethodName := ⟨"SqlReaderModel", "isInName", "(I)Z"⟩
theorem dk_SqlReaderModel_isInName : y_SqlReaderModel_isInName.cls ≠ "java/lang/invoke/MethodHandle" ∧ y_SqlReaderModel_isInName.cls ≠ "java/lang/invoke/VarHandle" ∧ (parseMethodDescriptor y_SqlReaderModel_isInName.desc).map (fun d => d.parameters.length) = some 1 := by decide +kernel
set_option maxRecDepth 100000 in
theorem ck_SqlReaderModel_isInName : Cond.code y_SqlReaderModel_isInName prog_11_method_7_code 1 (some .boolean) ∈ ALL := tw 1418 rfl rfl
def y_SqlReaderModel_signEnd : MethodName := ⟨"SqlReaderModel", "signEnd", "(I)I"⟩
theorem dk_SqlReaderModel_signEnd : y_SqlReaderModel_signEnd.cls ≠ "java/lang/invoke/MethodHandle" ∧ y_SqlReaderModel_signEnd.cls ≠ "java/lang/invoke/VarHandle" ∧ (parseMethodDescriptor y_SqlReaderModel_signEnd.desc).map (fun d => d.parameters.length) = some 1 := by decide +kernel
set_option maxRecDepth 100000 in
theorem ck_SqlReaderModel_signEnd : Cond.code y_SqlReaderModel_signEnd prog_11_method_11_code 5 (some .int) ∈ ALL := tw 1422 rfl rfl
def y_SqlReaderModel_tableOf : MethodName := ⟨"SqlReaderModel", "tableOf", "(I)I"⟩
theorem dk_SqlReaderModel_tableOf : y_SqlReaderModel_tableOf.cls ≠ "java/lang/invoke/MethodHandle" ∧ y_SqlReaderModel_tableOf.cls ≠ "java/lang/invoke/VarHandle" ∧ (parseMethodDescriptor y_SqlReaderModel_tableOf.desc).map (fun d => d.parameters.length) = some 1 := by decide +kernel
set_option maxRecDepth 100000 in
theorem ck_SqlReaderModel_tableOf : Cond.code y_SqlReaderModel_tableOf prog_11_method_19_code 4 (some .int) ∈ ALL := tw 1426 rfl rfl
def y_SqlReaderModel_isName : MethodName := ⟨"SqlReaderModel", "isName", "(I[BII)Z"⟩
theorem dk_SqlReaderModel_isName : y_SqlReaderModel_isName.cls ≠ "java/lang/invoke/MethodHandle" ∧ y_SqlReaderModel_isName.cls ≠ "java/lang/invoke/VarHandle" ∧ (parseMethodDescriptor y_SqlReaderModel_isName.desc).map (fun d => d.parameters.length) = some 4 := by decide +kernel
set_option maxRecDepth 100000 in
theorem ck_SqlReaderModel_isName : Cond.code y_SqlReaderModel_isName prog_11_method_16_code 7 (some .boolean) ∈ ALL := tw 1430 rfl rfl
def y_SqlReaderModel_column : MethodName := ⟨"SqlReaderModel", "column", "(II)I"⟩
theorem dk_SqlReaderModel_column : y_SqlReaderModel_column.cls ≠ "java/lang/invoke/MethodHandle" ∧ y_SqlReaderModel_column.cls ≠ "java/lang/invoke/VarHandle" ∧ (parseMethodDescriptor y_SqlReaderModel_column.desc).map (fun d => d.parameters.length) = some 2 := by decide +kernel
set_option maxRecDepth 100000 in
theorem ck_SqlReaderModel_column : Cond.code y_SqlReaderModel_column prog_11_method_22_code 6 (some .int) ∈ ALL := tw 1434 rfl rfl
def y_SqlReaderModel_columnOf : MethodName := ⟨"SqlReaderModel", "columnOf", "(II)I"⟩
theorem dk_SqlReaderModel_columnOf : y_SqlReaderModel_columnOf.cls ≠ "java/lang/invoke/MethodHandle" ∧ y_SqlReaderModel_columnOf.cls ≠ "java/lang/invoke/VarHandle" ∧ (parseMethodDescriptor y_SqlReaderModel_columnOf.desc).map (fun d => d.parameters.length) = some 2 := by decide +kernel
set_option maxRecDepth 100000 in
theorem ck_SqlReaderModel_columnOf : Cond.code y_SqlReaderModel_columnOf prog_11_method_20_code 5 (some .int) ∈ ALL := tw 1438 rfl rfl
def y_SqlReaderModel_read : MethodName := ⟨"SqlReaderModel", "read", "()I"⟩
theorem dk_SqlReaderModel_read : y_SqlReaderModel_read.cls ≠ "java/lang/invoke/MethodHandle" ∧ y_SqlReaderModel_read.cls ≠ "java/lang/invoke/VarHandle" ∧ (parseMethodDescriptor y_SqlReaderModel_read.desc).map (fun d => d.parameters.length) = some 0 := by decide +kernel
set_option maxRecDepth 100000 in
theorem ck_SqlReaderModel_read : Cond.code y_SqlReaderModel_read prog_11_method_86_code 2 (some .int) ∈ ALL := tw 1442 rfl rfl
def y_SqlReaderModel_fault : MethodName := ⟨"SqlReaderModel", "fault", "()I"⟩
theorem dk_SqlReaderModel_fault : y_SqlReaderModel_fault.cls ≠ "java/lang/invoke/MethodHandle" ∧ y_SqlReaderModel_fault.cls ≠ "java/lang/invoke/VarHandle" ∧ (parseMethodDescriptor y_SqlReaderModel_fault.desc).map (fun d => d.parameters.length) = some 0 := by decide +kernel
set_option maxRecDepth 100000 in
theorem ck_SqlReaderModel_fault : Cond.code y_SqlReaderModel_fault prog_11_method_84_code 4 (some .int) ∈ ALL := tw 1446 rfl rfl
def y_SqlReaderModel_readDeed : MethodName := ⟨"SqlReaderModel", "readDeed", "()Z"⟩
theorem dk_SqlReaderModel_readDeed : y_SqlReaderModel_readDeed.cls ≠ "java/lang/invoke/MethodHandle" ∧ y_SqlReaderModel_readDeed.cls ≠ "java/lang/invoke/VarHandle" ∧ (parseMethodDescriptor y_SqlReaderModel_readDeed.desc).map (fun d => d.parameters.length) = some 0 := by decide +kernel
set_option maxRecDepth 100000 in
theorem ck_SqlReaderModel_readDeed : Cond.code y_SqlReaderModel_readDeed prog_11_method_60_code 1 (some .boolean) ∈ ALL := tw 1450 rfl rfl
def y_SqlReaderModel_takes : MethodName := ⟨"SqlReaderModel", "takes", "(Ljava/lang/String;)Z"⟩
theorem dk_SqlReaderModel_takes : y_SqlReaderModel_takes.cls ≠ "java/lang/invoke/MethodHandle" ∧ y_SqlReaderModel_takes.cls ≠ "java/lang/invoke/VarHandle" ∧ (parseMethodDescriptor y_SqlReaderModel_takes.desc).map (fun d => d.parameters.length) = some 1 := by decide +kernel
set_option maxRecDepth 100000 in
theorem ck_SqlReaderModel_takes : Cond.code y_SqlReaderModel_takes prog_11_method_42_code 3 (some .boolean) ∈ ALL := tw 1455 rfl rfl
def y_SqlReaderModel_is : MethodName := ⟨"SqlReaderModel", "is", "(ILjava/lang/String;)Z"⟩
theorem dk_SqlReaderModel_is : y_SqlReaderModel_is.cls ≠ "java/lang/invoke/MethodHandle" ∧ y_SqlReaderModel_is.cls ≠ "java/lang/invoke/VarHandle" ∧ (parseMethodDescriptor y_SqlReaderModel_is.desc).map (fun d => d.parameters.length) = some 2 := by decide +kernel
set_option maxRecDepth 100000 in
theorem ck_SqlReaderModel_is : Cond.code y_SqlReaderModel_is prog_11_method_13_code 5 (some .boolean) ∈ ALL := tw 1459 rfl rfl
def y_SqlReaderModel_readInsert : MethodName := ⟨"SqlReaderModel", "readInsert", "()V"⟩
theorem dk_SqlReaderModel_readInsert : y_SqlReaderModel_readInsert.cls ≠ "java/lang/invoke/MethodHandle" ∧ y_SqlReaderModel_readInsert.cls ≠ "java/lang/invoke/VarHandle" ∧ (parseMethodDescriptor y_SqlReaderModel_readInsert.desc).map (fun d => d.parameters.length) = some 0 := by decide +kernel
set_option maxRecDepth 100000 in
theorem ck_SqlReaderModel_readInsert : Cond.code y_SqlReaderModel_readInsert prog_11_method_50_code 1 none ∈ ALL := tw 1465 rfl rfl
def y_SqlReaderModel_need : MethodName := ⟨"SqlReaderModel", "need", "(Ljava/lang/String;)V"⟩
theorem dk_SqlReaderModel_need : y_SqlReaderModel_need.cls ≠ "java/lang/invoke/MethodHandle" ∧ y_SqlReaderModel_need.cls ≠ "java/lang/invoke/VarHandle" ∧ (parseMethodDescriptor y_SqlReaderModel_need.desc).map (fun d => d.parameters.length) = some 1 := by decide +kernel
set_option maxRecDepth 100000 in
theorem ck_SqlReaderModel_need : Cond.code y_SqlReaderModel_need prog_11_method_43_code 2 none ∈ ALL := tw 1470 rfl rfl
def y_SqlReaderModel_needName : MethodName := ⟨"SqlReaderModel", "needName", "()I"⟩
theorem dk_SqlReaderModel_needName : y_SqlReaderModel_needName.cls ≠ "java/lang/invoke/MethodHandle" ∧ y_SqlReaderModel_needName.cls ≠ "java/lang/invoke/VarHandle" ∧ (parseMethodDescriptor y_SqlReaderModel_needName.desc).map (fun d => d.parameters.length) = some 0 := by decide +kernel
set_option maxRecDepth 100000 in
theorem ck_SqlReaderModel_needName : Cond.code y_SqlReaderModel_needName prog_11_method_44_code 1 (some .int) ∈ ALL := tw 1474 rfl rfl
def y_SqlReaderModel_isKind : MethodName := ⟨"SqlReaderModel", "isKind", "(II)Z"⟩
theorem dk_SqlReaderModel_isKind : y_SqlReaderModel_isKind.cls ≠ "java/lang/invoke/MethodHandle" ∧ y_SqlReaderModel_isKind.cls ≠ "java/lang/invoke/VarHandle" ∧ (parseMethodDescriptor y_SqlReaderModel_isKind.desc).map (fun d => d.parameters.length) = some 2 := by decide +kernel
set_option maxRecDepth 100000 in
theorem ck_SqlReaderModel_isKind : Cond.code y_SqlReaderModel_isKind prog_11_method_14_code 3 (some .boolean) ∈ ALL := tw 1478 rfl rfl
def y_SqlReaderModel_readRows : MethodName := ⟨"SqlReaderModel", "readRows", "()V"⟩
theorem dk_SqlReaderModel_readRows : y_SqlReaderModel_readRows.cls ≠ "java/lang/invoke/MethodHandle" ∧ y_SqlReaderModel_readRows.cls ≠ "java/lang/invoke/VarHandle" ∧ (parseMethodDescriptor y_SqlReaderModel_readRows.desc).map (fun d => d.parameters.length) = some 0 := by decide +kernel
set_option maxRecDepth 100000 in
theorem ck_SqlReaderModel_readRows : Cond.code y_SqlReaderModel_readRows prog_11_method_49_code 4 none ∈ ALL := tw 1483 rfl rfl
def y_SqlReaderModel_expression : MethodName := ⟨"SqlReaderModel", "expression", "()I"⟩
theorem dk_SqlReaderModel_expression : y_SqlReaderModel_expression.cls ≠ "java/lang/invoke/MethodHandle" ∧ y_SqlReaderModel_expression.cls ≠ "java/lang/invoke/VarHandle" ∧ (parseMethodDescriptor y_SqlReaderModel_expression.desc).map (fun d => d.parameters.length) = some 0 := by decide +kernel
set_option maxRecDepth 100000 in
theorem ck_SqlReaderModel_expression : Cond.code y_SqlReaderModel_expression prog_11_method_46_code 3 (some .int) ∈ ALL := tw 1488 rfl rfl
def y_SqlReaderModel_reach : MethodName := ⟨"SqlReaderModel", "reach", "()I"⟩
theorem dk_SqlReaderModel_reach : y_SqlReaderModel_reach.cls ≠ "java/lang/invoke/MethodHandle" ∧ y_SqlReaderModel_reach.cls ≠ "java/lang/invoke/VarHandle" ∧ (parseMethodDescriptor y_SqlReaderModel_reach.desc).map (fun d => d.parameters.length) = some 0 := by decide +kernel
set_option maxRecDepth 100000 in
theorem ck_SqlReaderModel_reach : Cond.code y_SqlReaderModel_reach prog_11_method_45_code 4 (some .int) ∈ ALL := tw 1492 rfl rfl
def y_SqlReaderModel_opens : MethodName := ⟨"SqlReaderModel", "opens", "(I)I"⟩
theorem dk_SqlReaderModel_opens : y_SqlReaderModel_opens.cls ≠ "java/lang/invoke/MethodHandle" ∧ y_SqlReaderModel_opens.cls ≠ "java/lang/invoke/VarHandle" ∧ (parseMethodDescriptor y_SqlReaderModel_opens.desc).map (fun d => d.parameters.length) = some 1 := by decide +kernel
set_option maxRecDepth 100000 in
theorem ck_SqlReaderModel_opens : Cond.code y_SqlReaderModel_opens prog_11_method_26_code 2 (some .int) ∈ ALL := tw 1505 rfl rfl
def y_SqlReaderModel_part : MethodName := ⟨"SqlReaderModel", "part", "(LSqlReaderModel;IIII)I"⟩
theorem dk_SqlReaderModel_part : y_SqlReaderModel_part.cls ≠ "java/lang/invoke/MethodHandle" ∧ y_SqlReaderModel_part.cls ≠ "java/lang/invoke/VarHandle" ∧ (parseMethodDescriptor y_SqlReaderModel_part.desc).map (fun d => d.parameters.length) = some 5 := by decide +kernel
set_option maxRecDepth 100000 in
theorem ck_SqlReaderModel_part : Cond.code y_SqlReaderModel_part prog_11_method_30_code 5 (some .int) ∈ ALL := tw 1508 rfl rfl
def y_SqlReaderModel_prefixed : MethodName := ⟨"SqlReaderModel", "prefixed", "(LSqlReaderModel;IIII)I"⟩
theorem dk_SqlReaderModel_prefixed : y_SqlReaderModel_prefixed.cls ≠ "java/lang/invoke/MethodHandle" ∧ y_SqlReaderModel_prefixed.cls ≠ "java/lang/invoke/VarHandle" ∧ (parseMethodDescriptor y_SqlReaderModel_prefixed.desc).map (fun d => d.parameters.length) = some 5 := by decide +kernel
set_option maxRecDepth 100000 in
theorem ck_SqlReaderModel_prefixed : Cond.code y_SqlReaderModel_prefixed prog_11_method_31_code 8 (some .int) ∈ ALL := tw 1511 rfl rfl
def y_SqlReaderModel_add : MethodName := ⟨"SqlReaderModel", "add", "(III)I"⟩
theorem dk_SqlReaderModel_add : y_SqlReaderModel_add.cls ≠ "java/lang/invoke/MethodHandle" ∧ y_SqlReaderModel_add.cls ≠ "java/lang/invoke/VarHandle" ∧ (parseMethodDescriptor y_SqlReaderModel_add.desc).map (fun d => d.parameters.length) = some 3 := by decide +kernel
set_option maxRecDepth 100000 in
theorem ck_SqlReaderModel_add : Cond.code y_SqlReaderModel_add prog_11_method_24_code 4 (some .int) ∈ ALL := tw 1517 rfl rfl
def y_SqlReaderModel_note : MethodName := ⟨"SqlReaderModel", "note", "(III)V"⟩
theorem dk_SqlReaderModel_note : y_SqlReaderModel_note.cls ≠ "java/lang/invoke/MethodHandle" ∧ y_SqlReaderModel_note.cls ≠ "java/lang/invoke/VarHandle" ∧ (parseMethodDescriptor y_SqlReaderModel_note.desc).map (fun d => d.parameters.length) = some 3 := by decide +kernel
set_option maxRecDepth 100000 in
theorem ck_SqlReaderModel_note : Cond.code y_SqlReaderModel_note prog_11_method_23_code 4 none ∈ ALL := tw 1521 rfl rfl
def y_SqlReaderModel_comparison : MethodName := ⟨"SqlReaderModel", "comparison", "(LSqlReaderModel;III)I"⟩
theorem dk_SqlReaderModel_comparison : y_SqlReaderModel_comparison.cls ≠ "java/lang/invoke/MethodHandle" ∧ y_SqlReaderModel_comparison.cls ≠ "java/lang/invoke/VarHandle" ∧ (parseMethodDescriptor y_SqlReaderModel_comparison.desc).map (fun d => d.parameters.length) = some 4 := by decide +kernel
set_option maxRecDepth 100000 in
theorem ck_SqlReaderModel_comparison : Cond.code y_SqlReaderModel_comparison prog_11_method_35_code 16 (some .int) ∈ ALL := tw 1524 rfl rfl
def y_SqlReaderModel_firstComparison : MethodName := ⟨"SqlReaderModel", "firstComparison", "(II)I"⟩
theorem dk_SqlReaderModel_firstComparison : y_SqlReaderModel_firstComparison.cls ≠ "java/lang/invoke/MethodHandle" ∧ y_SqlReaderModel_firstComparison.cls ≠ "java/lang/invoke/VarHandle" ∧ (parseMethodDescriptor y_SqlReaderModel_firstComparison.desc).map (fun d => d.parameters.length) = some 2 := by decide +kernel
set_option maxRecDepth 100000 in
theorem ck_SqlReaderModel_firstComparison : Cond.code y_SqlReaderModel_firstComparison prog_11_method_33_code 6 (some .int) ∈ ALL := tw 1528 rfl rfl
def y_SqlReaderModel_compares : MethodName := ⟨"SqlReaderModel", "compares", "(I)I"⟩
theorem dk_SqlReaderModel_compares : y_SqlReaderModel_compares.cls ≠ "java/lang/invoke/MethodHandle" ∧ y_SqlReaderModel_compares.cls ≠ "java/lang/invoke/VarHandle" ∧ (parseMethodDescriptor y_SqlReaderModel_compares.desc).map (fun d => d.parameters.length) = some 1 := by decide +kernel
set_option maxRecDepth 100000 in
theorem ck_SqlReaderModel_compares : Cond.code y_SqlReaderModel_compares prog_11_method_32_code 2 (some .int) ∈ ALL := tw 1532 rfl rfl
def y_SqlReaderModel_find : MethodName := ⟨"SqlReaderModel", "find", "(Ljava/lang/String;II)I"⟩
theorem dk_SqlReaderModel_find : y_SqlReaderModel_find.cls ≠ "java/lang/invoke/MethodHandle" ∧ y_SqlReaderModel_find.cls ≠ "java/lang/invoke/VarHandle" ∧ (parseMethodDescriptor y_SqlReaderModel_find.desc).map (fun d => d.parameters.length) = some 3 := by decide +kernel
set_option maxRecDepth 100000 in
theorem ck_SqlReaderModel_find : Cond.code y_SqlReaderModel_find prog_11_method_34_code 6 (some .int) ∈ ALL := tw 1547 rfl rfl
def y_SqlReaderModel_again : MethodName := ⟨"SqlReaderModel", "again", "(II)I"⟩
theorem dk_SqlReaderModel_again : y_SqlReaderModel_again.cls ≠ "java/lang/invoke/MethodHandle" ∧ y_SqlReaderModel_again.cls ≠ "java/lang/invoke/VarHandle" ∧ (parseMethodDescriptor y_SqlReaderModel_again.desc).map (fun d => d.parameters.length) = some 2 := by decide +kernel
set_option maxRecDepth 100000 in
theorem ck_SqlReaderModel_again : Cond.code y_SqlReaderModel_again prog_11_method_25_code 9 (some .int) ∈ ALL := tw 1551 rfl rfl
def y_SqlReaderModel_in : MethodName := ⟨"SqlReaderModel", "in", "(LSqlReaderModel;IIIIII)I"⟩
theorem dk_SqlReaderModel_in : y_SqlReaderModel_in.cls ≠ "java/lang/invoke/MethodHandle" ∧ y_SqlReaderModel_in.cls ≠ "java/lang/invoke/VarHandle" ∧ (parseMethodDescriptor y_SqlReaderModel_in.desc).map (fun d => d.parameters.length) = some 7 := by decide +kernel
set_option maxRecDepth 100000 in
theorem ck_SqlReaderModel_in : Cond.code y_SqlReaderModel_in prog_11_method_36_code 13 (some .int) ∈ ALL := tw 1555 rfl rfl
def y_SqlReaderModel_closing : MethodName := ⟨"SqlReaderModel", "closing", "(II)I"⟩
theorem dk_SqlReaderModel_closing : y_SqlReaderModel_closing.cls ≠ "java/lang/invoke/MethodHandle" ∧ y_SqlReaderModel_closing.cls ≠ "java/lang/invoke/VarHandle" ∧ (parseMethodDescriptor y_SqlReaderModel_closing.desc).map (fun d => d.parameters.length) = some 2 := by decide +kernel
set_option maxRecDepth 100000 in
theorem ck_SqlReaderModel_closing : Cond.code y_SqlReaderModel_closing prog_11_method_37_code 5 (some .int) ∈ ALL := tw 1559 rfl rfl
def y_SqlReaderModel_primary : MethodName := ⟨"SqlReaderModel", "primary", "(LSqlReaderModel;III)I"⟩
theorem dk_SqlReaderModel_primary : y_SqlReaderModel_primary.cls ≠ "java/lang/invoke/MethodHandle" ∧ y_SqlReaderModel_primary.cls ≠ "java/lang/invoke/VarHandle" ∧ (parseMethodDescriptor y_SqlReaderModel_primary.desc).map (fun d => d.parameters.length) = some 4 := by decide +kernel
set_option maxRecDepth 100000 in
theorem ck_SqlReaderModel_primary : Cond.code y_SqlReaderModel_primary prog_11_method_39_code 6 (some .int) ∈ ALL := tw 1562 rfl rfl
def y_SqlReaderModel_gathers : MethodName := ⟨"SqlReaderModel", "gathers", "(I)I"⟩
theorem dk_SqlReaderModel_gathers : y_SqlReaderModel_gathers.cls ≠ "java/lang/invoke/MethodHandle" ∧ y_SqlReaderModel_gathers.cls ≠ "java/lang/invoke/VarHandle" ∧ (parseMethodDescriptor y_SqlReaderModel_gathers.desc).map (fun d => d.parameters.length) = some 1 := by decide +kernel
set_option maxRecDepth 100000 in
theorem ck_SqlReaderModel_gathers : Cond.code y_SqlReaderModel_gathers prog_11_method_38_code 2 (some .int) ∈ ALL := tw 1566 rfl rfl
def y_SqlReaderModel_place : MethodName := ⟨"SqlReaderModel", "place", "(II)I"⟩
theorem dk_SqlReaderModel_place : y_SqlReaderModel_place.cls ≠ "java/lang/invoke/MethodHandle" ∧ y_SqlReaderModel_place.cls ≠ "java/lang/invoke/VarHandle" ∧ (parseMethodDescriptor y_SqlReaderModel_place.desc).map (fun d => d.parameters.length) = some 2 := by decide +kernel
set_option maxRecDepth 100000 in
theorem ck_SqlReaderModel_place : Cond.code y_SqlReaderModel_place prog_11_method_40_code 4 (some .int) ∈ ALL := tw 1576 rfl rfl
def y_SqlReaderModel_constant : MethodName := ⟨"SqlReaderModel", "constant", "(I)I"⟩
theorem dk_SqlReaderModel_constant : y_SqlReaderModel_constant.cls ≠ "java/lang/invoke/MethodHandle" ∧ y_SqlReaderModel_constant.cls ≠ "java/lang/invoke/VarHandle" ∧ (parseMethodDescriptor y_SqlReaderModel_constant.desc).map (fun d => d.parameters.length) = some 1 := by decide +kernel
set_option maxRecDepth 100000 in
theorem ck_SqlReaderModel_constant : Cond.code y_SqlReaderModel_constant prog_11_method_41_code 6 (some .int) ∈ ALL := tw 1580 rfl rfl
def y_SqlReaderModel_numberOf : MethodName := ⟨"SqlReaderModel", "numberOf", "(I)J"⟩
theorem dk_SqlReaderModel_numberOf : y_SqlReaderModel_numberOf.cls ≠ "java/lang/invoke/MethodHandle" ∧ y_SqlReaderModel_numberOf.cls ≠ "java/lang/invoke/VarHandle" ∧ (parseMethodDescriptor y_SqlReaderModel_numberOf.desc).map (fun d => d.parameters.length) = some 1 := by decide +kernel
set_option maxRecDepth 100000 in
theorem ck_SqlReaderModel_numberOf : Cond.code y_SqlReaderModel_numberOf prog_11_method_17_code 5 (some .long) ∈ ALL := tw 1586 rfl rfl
def y_SqlReaderModel_chain : MethodName := ⟨"SqlReaderModel", "chain", "(LSqlReaderModel;IIII)I"⟩
theorem dk_SqlReaderModel_chain : y_SqlReaderModel_chain.cls ≠ "java/lang/invoke/MethodHandle" ∧ y_SqlReaderModel_chain.cls ≠ "java/lang/invoke/VarHandle" ∧ (parseMethodDescriptor y_SqlReaderModel_chain.desc).map (fun d => d.parameters.length) = some 5 := by decide +kernel
set_option maxRecDepth 100000 in
theorem ck_SqlReaderModel_chain : Cond.code y_SqlReaderModel_chain prog_11_method_29_code 15 (some .int) ∈ ALL := tw 1591 rfl rfl
def y_SqlReaderModel_endsOperand : MethodName := ⟨"SqlReaderModel", "endsOperand", "(I)Z"⟩
theorem dk_SqlReaderModel_endsOperand : y_SqlReaderModel_endsOperand.cls ≠ "java/lang/invoke/MethodHandle" ∧ y_SqlReaderModel_endsOperand.cls ≠ "java/lang/invoke/VarHandle" ∧ (parseMethodDescriptor y_SqlReaderModel_endsOperand.desc).map (fun d => d.parameters.length) = some 1 := by decide +kernel
set_option maxRecDepth 100000 in
theorem ck_SqlReaderModel_endsOperand : Cond.code y_SqlReaderModel_endsOperand prog_11_method_27_code 3 (some .boolean) ∈ ALL := tw 1595 rfl rfl
def y_SqlReaderModel_joins : MethodName := ⟨"SqlReaderModel", "joins", "(IIZ)I"⟩
theorem dk_SqlReaderModel_joins : y_SqlReaderModel_joins.cls ≠ "java/lang/invoke/MethodHandle" ∧ y_SqlReaderModel_joins.cls ≠ "java/lang/invoke/VarHandle" ∧ (parseMethodDescriptor y_SqlReaderModel_joins.desc).map (fun d => d.parameters.length) = some 3 := by decide +kernel
set_option maxRecDepth 100000 in
theorem ck_SqlReaderModel_joins : Cond.code y_SqlReaderModel_joins prog_11_method_28_code 4 (some .int) ∈ ALL := tw 1599 rfl rfl
def y_SqlReaderModel_readQuery : MethodName := ⟨"SqlReaderModel", "readQuery", "()V"⟩
theorem dk_SqlReaderModel_readQuery : y_SqlReaderModel_readQuery.cls ≠ "java/lang/invoke/MethodHandle" ∧ y_SqlReaderModel_readQuery.cls ≠ "java/lang/invoke/VarHandle" ∧ (parseMethodDescriptor y_SqlReaderModel_readQuery.desc).map (fun d => d.parameters.length) = some 0 := by decide +kernel
set_option maxRecDepth 100000 in
theorem ck_SqlReaderModel_readQuery : Cond.code y_SqlReaderModel_readQuery prog_11_method_57_code 4 none ∈ ALL := tw 1609 rfl rfl
def y_SqlReaderModel_readItems : MethodName := ⟨"SqlReaderModel", "readItems", "()V"⟩
theorem dk_SqlReaderModel_readItems : y_SqlReaderModel_readItems.cls ≠ "java/lang/invoke/MethodHandle" ∧ y_SqlReaderModel_readItems.cls ≠ "java/lang/invoke/VarHandle" ∧ (parseMethodDescriptor y_SqlReaderModel_readItems.desc).map (fun d => d.parameters.length) = some 0 := by decide +kernel
set_option maxRecDepth 100000 in
theorem ck_SqlReaderModel_readItems : Cond.code y_SqlReaderModel_readItems prog_11_method_53_code 3 none ∈ ALL := tw 1614 rfl rfl
def y_SqlReaderModel_from : MethodName := ⟨"SqlReaderModel", "from", "(II)V"⟩
theorem dk_SqlReaderModel_from : y_SqlReaderModel_from.cls ≠ "java/lang/invoke/MethodHandle" ∧ y_SqlReaderModel_from.cls ≠ "java/lang/invoke/VarHandle" ∧ (parseMethodDescriptor y_SqlReaderModel_from.desc).map (fun d => d.parameters.length) = some 2 := by decide +kernel
set_option maxRecDepth 100000 in
theorem ck_SqlReaderModel_from : Cond.code y_SqlReaderModel_from prog_11_method_51_code 3 none ∈ ALL := tw 1618 rfl rfl
def y_SqlReaderModel_readWhere : MethodName := ⟨"SqlReaderModel", "readWhere", "()V"⟩
theorem dk_SqlReaderModel_readWhere : y_SqlReaderModel_readWhere.cls ≠ "java/lang/invoke/MethodHandle" ∧ y_SqlReaderModel_readWhere.cls ≠ "java/lang/invoke/VarHandle" ∧ (parseMethodDescriptor y_SqlReaderModel_readWhere.desc).map (fun d => d.parameters.length) = some 0 := by decide +kernel
set_option maxRecDepth 100000 in
theorem ck_SqlReaderModel_readWhere : Cond.code y_SqlReaderModel_readWhere prog_11_method_47_code 1 none ∈ ALL := tw 1622 rfl rfl
def y_SqlReaderModel_readGroups : MethodName := ⟨"SqlReaderModel", "readGroups", "()V"⟩
theorem dk_SqlReaderModel_readGroups : y_SqlReaderModel_readGroups.cls ≠ "java/lang/invoke/MethodHandle" ∧ y_SqlReaderModel_readGroups.cls ≠ "java/lang/invoke/VarHandle" ∧ (parseMethodDescriptor y_SqlReaderModel_readGroups.desc).map (fun d => d.parameters.length) = some 0 := by decide +kernel
set_option maxRecDepth 100000 in
theorem ck_SqlReaderModel_readGroups : Cond.code y_SqlReaderModel_readGroups prog_11_method_54_code 4 none ∈ ALL := tw 1626 rfl rfl
def y_SqlReaderModel_readOrders : MethodName := ⟨"SqlReaderModel", "readOrders", "()V"⟩
theorem dk_SqlReaderModel_readOrders : y_SqlReaderModel_readOrders.cls ≠ "java/lang/invoke/MethodHandle" ∧ y_SqlReaderModel_readOrders.cls ≠ "java/lang/invoke/VarHandle" ∧ (parseMethodDescriptor y_SqlReaderModel_readOrders.desc).map (fun d => d.parameters.length) = some 0 := by decide +kernel
set_option maxRecDepth 100000 in
theorem ck_SqlReaderModel_readOrders : Cond.code y_SqlReaderModel_readOrders prog_11_method_56_code 2 none ∈ ALL := tw 1631 rfl rfl
def y_SqlReaderModel_needNumber : MethodName := ⟨"SqlReaderModel", "needNumber", "()J"⟩
theorem dk_SqlReaderModel_needNumber : y_SqlReaderModel_needNumber.cls ≠ "java/lang/invoke/MethodHandle" ∧ y_SqlReaderModel_needNumber.cls ≠ "java/lang/invoke/VarHandle" ∧ (parseMethodDescriptor y_SqlReaderModel_needNumber.desc).map (fun d => d.parameters.length) = some 0 := by decide +kernel
set_option maxRecDepth 100000 in
theorem ck_SqlReaderModel_needNumber : Cond.code y_SqlReaderModel_needNumber prog_11_method_55_code 1 (some .long) ∈ ALL := tw 1635 rfl rfl
def y_SqlReaderModel_readUpdate : MethodName := ⟨"SqlReaderModel", "readUpdate", "()V"⟩
theorem dk_SqlReaderModel_readUpdate : y_SqlReaderModel_readUpdate.cls ≠ "java/lang/invoke/MethodHandle" ∧ y_SqlReaderModel_readUpdate.cls ≠ "java/lang/invoke/VarHandle" ∧ (parseMethodDescriptor y_SqlReaderModel_readUpdate.desc).map (fun d => d.parameters.length) = some 0 := by decide +kernel
set_option maxRecDepth 100000 in
theorem ck_SqlReaderModel_readUpdate : Cond.code y_SqlReaderModel_readUpdate prog_11_method_52_code 2 none ∈ ALL := tw 1643 rfl rfl
def y_SqlReaderModel_readOther : MethodName := ⟨"SqlReaderModel", "readOther", "()V"⟩
theorem dk_SqlReaderModel_readOther : y_SqlReaderModel_readOther.cls ≠ "java/lang/invoke/MethodHandle" ∧ y_SqlReaderModel_readOther.cls ≠ "java/lang/invoke/VarHandle" ∧ (parseMethodDescriptor y_SqlReaderModel_readOther.desc).map (fun d => d.parameters.length) = some 0 := by decide +kernel
set_option maxRecDepth 100000 in
theorem ck_SqlReaderModel_readOther : Cond.code y_SqlReaderModel_readOther prog_11_method_63_code 2 none ∈ ALL := tw 1649 rfl rfl
def y_SqlReaderModel_readCreate : MethodName := ⟨"SqlReaderModel", "readCreate", "()V"⟩
theorem dk_SqlReaderModel_readCreate : y_SqlReaderModel_readCreate.cls ≠ "java/lang/invoke/MethodHandle" ∧ y_SqlReaderModel_readCreate.cls ≠ "java/lang/invoke/VarHandle" ∧ (parseMethodDescriptor y_SqlReaderModel_readCreate.desc).map (fun d => d.parameters.length) = some 0 := by decide +kernel
set_option maxRecDepth 100000 in
theorem ck_SqlReaderModel_readCreate : Cond.code y_SqlReaderModel_readCreate prog_11_method_48_code 3 none ∈ ALL := tw 1654 rfl rfl
def y_SqlReaderModel_readBegin : MethodName := ⟨"SqlReaderModel", "readBegin", "()V"⟩
theorem dk_SqlReaderModel_readBegin : y_SqlReaderModel_readBegin.cls ≠ "java/lang/invoke/MethodHandle" ∧ y_SqlReaderModel_readBegin.cls ≠ "java/lang/invoke/VarHandle" ∧ (parseMethodDescriptor y_SqlReaderModel_readBegin.desc).map (fun d => d.parameters.length) = some 0 := by decide +kernel
set_option maxRecDepth 100000 in
theorem ck_SqlReaderModel_readBegin : Cond.code y_SqlReaderModel_readBegin prog_11_method_59_code 1 none ∈ ALL := tw 1667 rfl rfl
def y_SqlReaderModel_readNamed : MethodName := ⟨"SqlReaderModel", "readNamed", "(I)V"⟩
theorem dk_SqlReaderModel_readNamed : y_SqlReaderModel_readNamed.cls ≠ "java/lang/invoke/MethodHandle" ∧ y_SqlReaderModel_readNamed.cls ≠ "java/lang/invoke/VarHandle" ∧ (parseMethodDescriptor y_SqlReaderModel_readNamed.desc).map (fun d => d.parameters.length) = some 1 := by decide +kernel
set_option maxRecDepth 100000 in
theorem ck_SqlReaderModel_readNamed : Cond.code y_SqlReaderModel_readNamed prog_11_method_61_code 2 none ∈ ALL := tw 1678 rfl rfl
def y_SqlReaderModel_readMode : MethodName := ⟨"SqlReaderModel", "readMode", "()V"⟩
theorem dk_SqlReaderModel_readMode : y_SqlReaderModel_readMode.cls ≠ "java/lang/invoke/MethodHandle" ∧ y_SqlReaderModel_readMode.cls ≠ "java/lang/invoke/VarHandle" ∧ (parseMethodDescriptor y_SqlReaderModel_readMode.desc).map (fun d => d.parameters.length) = some 0 := by decide +kernel
set_option maxRecDepth 100000 in
theorem ck_SqlReaderModel_readMode : Cond.code y_SqlReaderModel_readMode prog_11_method_58_code 1 none ∈ ALL := tw 1685 rfl rfl
def y_SqlReaderModel_readValues : MethodName := ⟨"SqlReaderModel", "readValues", "()V"⟩
theorem dk_SqlReaderModel_readValues : y_SqlReaderModel_readValues.cls ≠ "java/lang/invoke/MethodHandle" ∧ y_SqlReaderModel_readValues.cls ≠ "java/lang/invoke/VarHandle" ∧ (parseMethodDescriptor y_SqlReaderModel_readValues.desc).map (fun d => d.parameters.length) = some 0 := by decide +kernel
set_option maxRecDepth 100000 in
theorem ck_SqlReaderModel_readValues : Cond.code y_SqlReaderModel_readValues prog_11_method_62_code 2 none ∈ ALL := tw 1695 rfl rfl
def y_SqlReaderModel_checkTables : MethodName := ⟨"SqlReaderModel", "checkTables", "()I"⟩
theorem dk_SqlReaderModel_checkTables : y_SqlReaderModel_checkTables.cls ≠ "java/lang/invoke/MethodHandle" ∧ y_SqlReaderModel_checkTables.cls ≠ "java/lang/invoke/VarHandle" ∧ (parseMethodDescriptor y_SqlReaderModel_checkTables.desc).map (fun d => d.parameters.length) = some 0 := by decide +kernel
set_option maxRecDepth 100000 in
theorem ck_SqlReaderModel_checkTables : Cond.code y_SqlReaderModel_checkTables prog_11_method_76_code 3 (some .int) ∈ ALL := tw 1701 rfl rfl
def y_SqlReaderModel_sameToken : MethodName := ⟨"SqlReaderModel", "sameToken", "(II)Z"⟩
theorem dk_SqlReaderModel_sameToken : y_SqlReaderModel_sameToken.cls ≠ "java/lang/invoke/MethodHandle" ∧ y_SqlReaderModel_sameToken.cls ≠ "java/lang/invoke/VarHandle" ∧ (parseMethodDescriptor y_SqlReaderModel_sameToken.desc).map (fun d => d.parameters.length) = some 2 := by decide +kernel
set_option maxRecDepth 100000 in
theorem ck_SqlReaderModel_sameToken : Cond.code y_SqlReaderModel_sameToken prog_11_method_15_code 5 (some .boolean) ∈ ALL := tw 1705 rfl rfl
def y_SqlReaderModel_checkOne : MethodName := ⟨"SqlReaderModel", "checkOne", "(I)I"⟩
theorem dk_SqlReaderModel_checkOne : y_SqlReaderModel_checkOne.cls ≠ "java/lang/invoke/MethodHandle" ∧ y_SqlReaderModel_checkOne.cls ≠ "java/lang/invoke/VarHandle" ∧ (parseMethodDescriptor y_SqlReaderModel_checkOne.desc).map (fun d => d.parameters.length) = some 1 := by decide +kernel
set_option maxRecDepth 100000 in
theorem ck_SqlReaderModel_checkOne : Cond.code y_SqlReaderModel_checkOne prog_11_method_75_code 3 (some .int) ∈ ALL := tw 1709 rfl rfl
def y_SqlReaderModel_checkNode : MethodName := ⟨"SqlReaderModel", "checkNode", "(I)I"⟩
theorem dk_SqlReaderModel_checkNode : y_SqlReaderModel_checkNode.cls ≠ "java/lang/invoke/MethodHandle" ∧ y_SqlReaderModel_checkNode.cls ≠ "java/lang/invoke/VarHandle" ∧ (parseMethodDescriptor y_SqlReaderModel_checkNode.desc).map (fun d => d.parameters.length) = some 1 := by decide +kernel
set_option maxRecDepth 100000 in
theorem ck_SqlReaderModel_checkNode : Cond.code y_SqlReaderModel_checkNode prog_11_method_71_code 7 (some .int) ∈ ALL := tw 1713 rfl rfl
def y_SqlReaderModel_resolve : MethodName := ⟨"SqlReaderModel", "resolve", "(I)I"⟩
theorem dk_SqlReaderModel_resolve : y_SqlReaderModel_resolve.cls ≠ "java/lang/invoke/MethodHandle" ∧ y_SqlReaderModel_resolve.cls ≠ "java/lang/invoke/VarHandle" ∧ (parseMethodDescriptor y_SqlReaderModel_resolve.desc).map (fun d => d.parameters.length) = some 1 := by decide +kernel
set_option maxRecDepth 100000 in
theorem ck_SqlReaderModel_resolve : Cond.code y_SqlReaderModel_resolve prog_11_method_69_code 6 (some .int) ∈ ALL := tw 1717 rfl rfl
def y_SqlReaderModel_gives : MethodName := ⟨"SqlReaderModel", "gives", "(II)V"⟩
theorem dk_SqlReaderModel_gives : y_SqlReaderModel_gives.cls ≠ "java/lang/invoke/MethodHandle" ∧ y_SqlReaderModel_gives.cls ≠ "java/lang/invoke/VarHandle" ∧ (parseMethodDescriptor y_SqlReaderModel_gives.desc).map (fun d => d.parameters.length) = some 2 := by decide +kernel
set_option maxRecDepth 100000 in
theorem ck_SqlReaderModel_gives : Cond.code y_SqlReaderModel_gives prog_11_method_67_code 3 none ∈ ALL := tw 1721 rfl rfl
def y_SqlReaderModel_typeOf : MethodName := ⟨"SqlReaderModel", "typeOf", "(I)I"⟩
theorem dk_SqlReaderModel_typeOf : y_SqlReaderModel_typeOf.cls ≠ "java/lang/invoke/MethodHandle" ∧ y_SqlReaderModel_typeOf.cls ≠ "java/lang/invoke/VarHandle" ∧ (parseMethodDescriptor y_SqlReaderModel_typeOf.desc).map (fun d => d.parameters.length) = some 1 := by decide +kernel
set_option maxRecDepth 100000 in
theorem ck_SqlReaderModel_typeOf : Cond.code y_SqlReaderModel_typeOf prog_11_method_65_code 2 (some .int) ∈ ALL := tw 1725 rfl rfl
def y_SqlReaderModel_error : MethodName := ⟨"SqlReaderModel", "error", "(Z)I"⟩
theorem dk_SqlReaderModel_error : y_SqlReaderModel_error.cls ≠ "java/lang/invoke/MethodHandle" ∧ y_SqlReaderModel_error.cls ≠ "java/lang/invoke/VarHandle" ∧ (parseMethodDescriptor y_SqlReaderModel_error.desc).map (fun d => d.parameters.length) = some 1 := by decide +kernel
set_option maxRecDepth 100000 in
theorem ck_SqlReaderModel_error : Cond.code y_SqlReaderModel_error prog_11_method_68_code 2 (some .int) ∈ ALL := tw 1729 rfl rfl
def y_SqlReaderModel_compared : MethodName := ⟨"SqlReaderModel", "compared", "(II)I"⟩
theorem dk_SqlReaderModel_compared : y_SqlReaderModel_compared.cls ≠ "java/lang/invoke/MethodHandle" ∧ y_SqlReaderModel_compared.cls ≠ "java/lang/invoke/VarHandle" ∧ (parseMethodDescriptor y_SqlReaderModel_compared.desc).map (fun d => d.parameters.length) = some 2 := by decide +kernel
set_option maxRecDepth 100000 in
theorem ck_SqlReaderModel_compared : Cond.code y_SqlReaderModel_compared prog_11_method_70_code 3 (some .int) ∈ ALL := tw 1733 rfl rfl
def y_SqlReaderModel_fits : MethodName := ⟨"SqlReaderModel", "fits", "(II)Z"⟩
theorem dk_SqlReaderModel_fits : y_SqlReaderModel_fits.cls ≠ "java/lang/invoke/MethodHandle" ∧ y_SqlReaderModel_fits.cls ≠ "java/lang/invoke/VarHandle" ∧ (parseMethodDescriptor y_SqlReaderModel_fits.desc).map (fun d => d.parameters.length) = some 2 := by decide +kernel
set_option maxRecDepth 100000 in
theorem ck_SqlReaderModel_fits : Cond.code y_SqlReaderModel_fits prog_11_method_66_code 3 (some .boolean) ∈ ALL := tw 1737 rfl rfl
def y_SqlReaderModel_checkValue : MethodName := ⟨"SqlReaderModel", "checkValue", "(II)I"⟩
theorem dk_SqlReaderModel_checkValue : y_SqlReaderModel_checkValue.cls ≠ "java/lang/invoke/MethodHandle" ∧ y_SqlReaderModel_checkValue.cls ≠ "java/lang/invoke/VarHandle" ∧ (parseMethodDescriptor y_SqlReaderModel_checkValue.desc).map (fun d => d.parameters.length) = some 2 := by decide +kernel
set_option maxRecDepth 100000 in
theorem ck_SqlReaderModel_checkValue : Cond.code y_SqlReaderModel_checkValue prog_11_method_73_code 3 (some .int) ∈ ALL := tw 1741 rfl rfl
def y_SqlReaderModel_targetType : MethodName := ⟨"SqlReaderModel", "targetType", "(I)I"⟩
theorem dk_SqlReaderModel_targetType : y_SqlReaderModel_targetType.cls ≠ "java/lang/invoke/MethodHandle" ∧ y_SqlReaderModel_targetType.cls ≠ "java/lang/invoke/VarHandle" ∧ (parseMethodDescriptor y_SqlReaderModel_targetType.desc).map (fun d => d.parameters.length) = some 1 := by decide +kernel
set_option maxRecDepth 100000 in
theorem ck_SqlReaderModel_targetType : Cond.code y_SqlReaderModel_targetType prog_11_method_72_code 2 (some .int) ∈ ALL := tw 1745 rfl rfl
def y_SqlReaderModel_deed : MethodName := ⟨"SqlReaderModel", "deed", "()I"⟩
theorem dk_SqlReaderModel_deed : y_SqlReaderModel_deed.cls ≠ "java/lang/invoke/MethodHandle" ∧ y_SqlReaderModel_deed.cls ≠ "java/lang/invoke/VarHandle" ∧ (parseMethodDescriptor y_SqlReaderModel_deed.desc).map (fun d => d.parameters.length) = some 0 := by decide +kernel
set_option maxRecDepth 100000 in
theorem ck_SqlReaderModel_deed : Cond.code y_SqlReaderModel_deed prog_11_method_64_code 1 (some .int) ∈ ALL := tw 1749 rfl rfl
def y_SqlReaderModel_checkStar : MethodName := ⟨"SqlReaderModel", "checkStar", "()I"⟩
theorem dk_SqlReaderModel_checkStar : y_SqlReaderModel_checkStar.cls ≠ "java/lang/invoke/MethodHandle" ∧ y_SqlReaderModel_checkStar.cls ≠ "java/lang/invoke/VarHandle" ∧ (parseMethodDescriptor y_SqlReaderModel_checkStar.desc).map (fun d => d.parameters.length) = some 0 := by decide +kernel
set_option maxRecDepth 100000 in
theorem ck_SqlReaderModel_checkStar : Cond.code y_SqlReaderModel_checkStar prog_11_method_74_code 4 (some .int) ∈ ALL := tw 1753 rfl rfl
def y_SqlReaderModel_spread : MethodName := ⟨"SqlReaderModel", "spread", "()I"⟩
theorem dk_SqlReaderModel_spread : y_SqlReaderModel_spread.cls ≠ "java/lang/invoke/MethodHandle" ∧ y_SqlReaderModel_spread.cls ≠ "java/lang/invoke/VarHandle" ∧ (parseMethodDescriptor y_SqlReaderModel_spread.desc).map (fun d => d.parameters.length) = some 0 := by decide +kernel
set_option maxRecDepth 100000 in
theorem ck_SqlReaderModel_spread : Cond.code y_SqlReaderModel_spread prog_11_method_77_code 5 (some .int) ∈ ALL := tw 1757 rfl rfl
def y_SqlReaderModel_counts : MethodName := ⟨"SqlReaderModel", "counts", "()Z"⟩
theorem dk_SqlReaderModel_counts : y_SqlReaderModel_counts.cls ≠ "java/lang/invoke/MethodHandle" ∧ y_SqlReaderModel_counts.cls ≠ "java/lang/invoke/VarHandle" ∧ (parseMethodDescriptor y_SqlReaderModel_counts.desc).map (fun d => d.parameters.length) = some 0 := by decide +kernel
set_option maxRecDepth 100000 in
theorem ck_SqlReaderModel_counts : Cond.code y_SqlReaderModel_counts prog_11_method_78_code 4 (some .boolean) ∈ ALL := tw 1761 rfl rfl
def y_SqlReaderModel_checkGroups : MethodName := ⟨"SqlReaderModel", "checkGroups", "()I"⟩
theorem dk_SqlReaderModel_checkGroups : y_SqlReaderModel_checkGroups.cls ≠ "java/lang/invoke/MethodHandle" ∧ y_SqlReaderModel_checkGroups.cls ≠ "java/lang/invoke/VarHandle" ∧ (parseMethodDescriptor y_SqlReaderModel_checkGroups.desc).map (fun d => d.parameters.length) = some 0 := by decide +kernel
set_option maxRecDepth 100000 in
theorem ck_SqlReaderModel_checkGroups : Cond.code y_SqlReaderModel_checkGroups prog_11_method_83_code 3 (some .int) ∈ ALL := tw 1765 rfl rfl
def y_SqlReaderModel_hasAggregate : MethodName := ⟨"SqlReaderModel", "hasAggregate", "(I)Z"⟩
theorem dk_SqlReaderModel_hasAggregate : y_SqlReaderModel_hasAggregate.cls ≠ "java/lang/invoke/MethodHandle" ∧ y_SqlReaderModel_hasAggregate.cls ≠ "java/lang/invoke/VarHandle" ∧ (parseMethodDescriptor y_SqlReaderModel_hasAggregate.desc).map (fun d => d.parameters.length) = some 1 := by decide +kernel
set_option maxRecDepth 100000 in
theorem ck_SqlReaderModel_hasAggregate : Cond.code y_SqlReaderModel_hasAggregate prog_11_method_79_code 5 (some .boolean) ∈ ALL := tw 1769 rfl rfl
def y_SqlReaderModel_gathered : MethodName := ⟨"SqlReaderModel", "gathered", "()Z"⟩
theorem dk_SqlReaderModel_gathered : y_SqlReaderModel_gathered.cls ≠ "java/lang/invoke/MethodHandle" ∧ y_SqlReaderModel_gathered.cls ≠ "java/lang/invoke/VarHandle" ∧ (parseMethodDescriptor y_SqlReaderModel_gathered.desc).map (fun d => d.parameters.length) = some 0 := by decide +kernel
set_option maxRecDepth 100000 in
theorem ck_SqlReaderModel_gathered : Cond.code y_SqlReaderModel_gathered prog_11_method_82_code 3 (some .boolean) ∈ ALL := tw 1773 rfl rfl
def y_SqlReaderModel_isLoose : MethodName := ⟨"SqlReaderModel", "isLoose", "(I)Z"⟩
theorem dk_SqlReaderModel_isLoose : y_SqlReaderModel_isLoose.cls ≠ "java/lang/invoke/MethodHandle" ∧ y_SqlReaderModel_isLoose.cls ≠ "java/lang/invoke/VarHandle" ∧ (parseMethodDescriptor y_SqlReaderModel_isLoose.desc).map (fun d => d.parameters.length) = some 1 := by decide +kernel
set_option maxRecDepth 100000 in
theorem ck_SqlReaderModel_isLoose : Cond.code y_SqlReaderModel_isLoose prog_11_method_81_code 5 (some .boolean) ∈ ALL := tw 1777 rfl rfl
def y_SqlReaderModel_isGrouped : MethodName := ⟨"SqlReaderModel", "isGrouped", "(I)Z"⟩
theorem dk_SqlReaderModel_isGrouped : y_SqlReaderModel_isGrouped.cls ≠ "java/lang/invoke/MethodHandle" ∧ y_SqlReaderModel_isGrouped.cls ≠ "java/lang/invoke/VarHandle" ∧ (parseMethodDescriptor y_SqlReaderModel_isGrouped.desc).map (fun d => d.parameters.length) = some 1 := by decide +kernel
set_option maxRecDepth 100000 in
theorem ck_SqlReaderModel_isGrouped : Cond.code y_SqlReaderModel_isGrouped prog_11_method_80_code 4 (some .boolean) ∈ ALL := tw 1781 rfl rfl
def y_SqlReaderModel_keep : MethodName := ⟨"SqlReaderModel", "keep", "(II)V"⟩
theorem dk_SqlReaderModel_keep : y_SqlReaderModel_keep.cls ≠ "java/lang/invoke/MethodHandle" ∧ y_SqlReaderModel_keep.cls ≠ "java/lang/invoke/VarHandle" ∧ (parseMethodDescriptor y_SqlReaderModel_keep.desc).map (fun d => d.parameters.length) = some 2 := by decide +kernel
set_option maxRecDepth 100000 in
theorem ck_SqlReaderModel_keep : Cond.code y_SqlReaderModel_keep prog_11_method_85_code 4 none ∈ ALL := tw 1785 rfl rfl
def y_SqlReaderModel_node : MethodName := ⟨"SqlReaderModel", "node", "(II)I"⟩
theorem dk_SqlReaderModel_node : y_SqlReaderModel_node.cls ≠ "java/lang/invoke/MethodHandle" ∧ y_SqlReaderModel_node.cls ≠ "java/lang/invoke/VarHandle" ∧ (parseMethodDescriptor y_SqlReaderModel_node.desc).map (fun d => d.parameters.length) = some 2 := by decide +kernel
set_option maxRecDepth 100000 in
theorem ck_SqlReaderModel_node : Cond.code y_SqlReaderModel_node prog_11_method_87_code 3 (some .int) ∈ ALL := tw 1789 rfl rfl
def y_SqlReaderModel_value : MethodName := ⟨"SqlReaderModel", "value", "(I)J"⟩
theorem dk_SqlReaderModel_value : y_SqlReaderModel_value.cls ≠ "java/lang/invoke/MethodHandle" ∧ y_SqlReaderModel_value.cls ≠ "java/lang/invoke/VarHandle" ∧ (parseMethodDescriptor y_SqlReaderModel_value.desc).map (fun d => d.parameters.length) = some 1 := by decide +kernel
set_option maxRecDepth 100000 in
theorem ck_SqlReaderModel_value : Cond.code y_SqlReaderModel_value prog_11_method_88_code 2 (some .long) ∈ ALL := tw 1793 rfl rfl
def y_SqlReaderModel_letter : MethodName := ⟨"SqlReaderModel", "letter", "(II)I"⟩
theorem dk_SqlReaderModel_letter : y_SqlReaderModel_letter.cls ≠ "java/lang/invoke/MethodHandle" ∧ y_SqlReaderModel_letter.cls ≠ "java/lang/invoke/VarHandle" ∧ (parseMethodDescriptor y_SqlReaderModel_letter.desc).map (fun d => d.parameters.length) = some 2 := by decide +kernel
set_option maxRecDepth 100000 in
theorem ck_SqlReaderModel_letter : Cond.code y_SqlReaderModel_letter prog_11_method_89_code 3 (some .int) ∈ ALL := tw 1797 rfl rfl
def y_SqlReaderModel_count : MethodName := ⟨"SqlReaderModel", "count", "(I)I"⟩
theorem dk_SqlReaderModel_count : y_SqlReaderModel_count.cls ≠ "java/lang/invoke/MethodHandle" ∧ y_SqlReaderModel_count.cls ≠ "java/lang/invoke/VarHandle" ∧ (parseMethodDescriptor y_SqlReaderModel_count.desc).map (fun d => d.parameters.length) = some 1 := by decide +kernel
set_option maxRecDepth 100000 in
theorem ck_SqlReaderModel_count : Cond.code y_SqlReaderModel_count prog_11_method_90_code 2 (some .int) ∈ ALL := tw 1801 rfl rfl
def y_SqlReaderModel_sizeOf : MethodName := ⟨"SqlReaderModel", "sizeOf", "(I)I"⟩
theorem dk_SqlReaderModel_sizeOf : y_SqlReaderModel_sizeOf.cls ≠ "java/lang/invoke/MethodHandle" ∧ y_SqlReaderModel_sizeOf.cls ≠ "java/lang/invoke/VarHandle" ∧ (parseMethodDescriptor y_SqlReaderModel_sizeOf.desc).map (fun d => d.parameters.length) = some 1 := by decide +kernel
set_option maxRecDepth 100000 in
theorem ck_SqlReaderModel_sizeOf : Cond.code y_SqlReaderModel_sizeOf prog_11_method_91_code 2 (some .int) ∈ ALL := tw 1805 rfl rfl
def y_SqlReaderModel_list : MethodName := ⟨"SqlReaderModel", "list", "(II)I"⟩
theorem dk_SqlReaderModel_list : y_SqlReaderModel_list.cls ≠ "java/lang/invoke/MethodHandle" ∧ y_SqlReaderModel_list.cls ≠ "java/lang/invoke/VarHandle" ∧ (parseMethodDescriptor y_SqlReaderModel_list.desc).map (fun d => d.parameters.length) = some 2 := by decide +kernel
set_option maxRecDepth 100000 in
theorem ck_SqlReaderModel_list : Cond.code y_SqlReaderModel_list prog_11_method_92_code 3 (some .int) ∈ ALL := tw 1809 rfl rfl
def y_SqlReaderModel_name : MethodName := ⟨"SqlReaderModel", "name", "(II)I"⟩
theorem dk_SqlReaderModel_name : y_SqlReaderModel_name.cls ≠ "java/lang/invoke/MethodHandle" ∧ y_SqlReaderModel_name.cls ≠ "java/lang/invoke/VarHandle" ∧ (parseMethodDescriptor y_SqlReaderModel_name.desc).map (fun d => d.parameters.length) = some 2 := by decide +kernel
set_option maxRecDepth 100000 in
theorem ck_SqlReaderModel_name : Cond.code y_SqlReaderModel_name prog_11_method_93_code 4 (some .int) ∈ ALL := tw 1813 rfl rfl
