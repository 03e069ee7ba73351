set_option maxRecDepth 100000 in
theorem fl_Text_9 : Cond.fieldLink "SqlReader$Text" 9 "SqlReader$Text" "bytes" "[B" ∈ ALL := tw 33 rfl rfl
set_option maxRecDepth 100000 in
theorem fl_Text_20 : Cond.fieldLink "SqlReader$Text" 20 "SqlReader$Text" "size" "I" ∈ ALL := tw 34 rfl rfl
set_option maxRecDepth 100000 in
theorem fl_Catalog_12 : Cond.fieldLink "SqlReader$Catalog" 12 "SqlReader$Catalog" "names" "LSqlReader$Text;" ∈ ALL := tw 49 rfl rfl
set_option maxRecDepth 100000 in
theorem fl_Catalog_18 : Cond.fieldLink "SqlReader$Catalog" 18 "SqlReader$Catalog" "tableNames" "[I" ∈ ALL := tw 50 rfl rfl
set_option maxRecDepth 100000 in
theorem fl_Catalog_22 : Cond.fieldLink "SqlReader$Catalog" 22 "SqlReader$Catalog" "columnCounts" "[I" ∈ ALL := tw 51 rfl rfl
set_option maxRecDepth 100000 in
theorem fl_Catalog_25 : Cond.fieldLink "SqlReader$Catalog" 25 "SqlReader$Catalog" "columnNames" "[I" ∈ ALL := tw 52 rfl rfl
set_option maxRecDepth 100000 in
theorem fl_Catalog_28 : Cond.fieldLink "SqlReader$Catalog" 28 "SqlReader$Catalog" "columnTypes" "[I" ∈ ALL := tw 53 rfl rfl
set_option maxRecDepth 100000 in
theorem fl_Catalog_35 : Cond.fieldLink "SqlReader$Catalog" 35 "SqlReader$Catalog" "tables" "I" ∈ ALL := tw 54 rfl rfl
set_option maxRecDepth 100000 in
theorem fl_Tokens_10 : Cond.fieldLink "SqlReader$Tokens" 10 "SqlReader$Tokens" "text" "LSqlReader$Text;" ∈ ALL := tw 77 rfl rfl
set_option maxRecDepth 100000 in
theorem fl_Tokens_16 : Cond.fieldLink "SqlReader$Tokens" 16 "SqlReader$Tokens" "entries" "[I" ∈ ALL := tw 78 rfl rfl
set_option maxRecDepth 100000 in
theorem fl_Tokens_24 : Cond.fieldLink "SqlReader$Tokens" 24 "SqlReader$Tokens" "size" "I" ∈ ALL := tw 79 rfl rfl
set_option maxRecDepth 100000 in
theorem fl_Tokens_28 : Cond.fieldLink "SqlReader$Tokens" 28 "SqlReader$Tokens" "next" "I" ∈ ALL := tw 80 rfl rfl
set_option maxRecDepth 100000 in
theorem fl_Nodes_11 : Cond.fieldLink "SqlReader$Nodes" 11 "SqlReader$Nodes" "kinds" "[I" ∈ ALL := tw 96 rfl rfl
set_option maxRecDepth 100000 in
theorem fl_Nodes_15 : Cond.fieldLink "SqlReader$Nodes" 15 "SqlReader$Nodes" "firsts" "[I" ∈ ALL := tw 97 rfl rfl
set_option maxRecDepth 100000 in
theorem fl_Nodes_18 : Cond.fieldLink "SqlReader$Nodes" 18 "SqlReader$Nodes" "seconds" "[I" ∈ ALL := tw 98 rfl rfl
set_option maxRecDepth 100000 in
theorem fl_Nodes_21 : Cond.fieldLink "SqlReader$Nodes" 21 "SqlReader$Nodes" "types" "[I" ∈ ALL := tw 99 rfl rfl
set_option maxRecDepth 100000 in
theorem fl_Nodes_24 : Cond.fieldLink "SqlReader$Nodes" 24 "SqlReader$Nodes" "parents" "[I" ∈ ALL := tw 100 rfl rfl
set_option maxRecDepth 100000 in
theorem fl_Nodes_27 : Cond.fieldLink "SqlReader$Nodes" 27 "SqlReader$Nodes" "needs" "[I" ∈ ALL := tw 101 rfl rfl
set_option maxRecDepth 100000 in
theorem fl_Nodes_30 : Cond.fieldLink "SqlReader$Nodes" 30 "SqlReader$Nodes" "faults" "[I" ∈ ALL := tw 102 rfl rfl
set_option maxRecDepth 100000 in
theorem fl_Nodes_33 : Cond.fieldLink "SqlReader$Nodes" 33 "SqlReader$Nodes" "spans" "[I" ∈ ALL := tw 103 rfl rfl
set_option maxRecDepth 100000 in
theorem fl_Nodes_36 : Cond.fieldLink "SqlReader$Nodes" 36 "SqlReader$Nodes" "qualifiers" "[I" ∈ ALL := tw 104 rfl rfl
set_option maxRecDepth 100000 in
theorem fl_Nodes_39 : Cond.fieldLink "SqlReader$Nodes" 39 "SqlReader$Nodes" "size" "I" ∈ ALL := tw 105 rfl rfl
set_option maxRecDepth 100000 in
theorem fl_Nodes_43 : Cond.fieldLink "SqlReader$Nodes" 43 "SqlReader$Nodes" "over" "Z" ∈ ALL := tw 106 rfl rfl
set_option maxRecDepth 100000 in
theorem fl_Lists_9 : Cond.fieldLink "SqlReader$Lists" 9 "SqlReader$Lists" "sizes" "[I" ∈ ALL := tw 136 rfl rfl
set_option maxRecDepth 100000 in
theorem fl_Lists_13 : Cond.fieldLink "SqlReader$Lists" 13 "SqlReader$Lists" "entries" "[I" ∈ ALL := tw 137 rfl rfl
set_option maxRecDepth 100000 in
theorem fl_Lists_22 : Cond.fieldLink "SqlReader$Lists" 22 "SqlReader$Lists" "over" "Z" ∈ ALL := tw 138 rfl rfl
set_option maxRecDepth 100000 in
theorem gk_Statement_7 : GoodIn ALL (wsV "SqlReader$Statement" 7 y_Statement_clear.cls y_Statement_clear (.code y_Statement_clear prog_7_method_2_code 1 none :: ALL)) := gV (tw 152 rfl rfl) (tw 153 rfl rfl) (tw 154 rfl rfl) ii_Statement ck_Statement_clear
set_option maxRecDepth 100000 in
theorem fl_Statement_12 : Cond.fieldLink "SqlReader$Statement" 12 "SqlReader$Statement" "kind" "I" ∈ ALL := tw 156 rfl rfl
set_option maxRecDepth 100000 in
theorem fl_Parser_92 : Cond.fieldLink "SqlReader$Parser" 92 "SqlReader$Statement" "kind" "I" ∈ ALL := tw 157 rfl rfl
set_option maxRecDepth 100000 in
theorem fl_SqlReader_109 : Cond.fieldLink "SqlReader" 109 "SqlReader$Statement" "kind" "I" ∈ ALL := tw 158 rfl rfl
set_option maxRecDepth 100000 in
theorem fl_Meaning_245 : Cond.fieldLink "SqlReader$Meaning" 245 "SqlReader$Statement" "kind" "I" ∈ ALL := tw 159 rfl rfl
set_option maxRecDepth 100000 in
theorem fl_Statement_16 : Cond.fieldLink "SqlReader$Statement" 16 "SqlReader$Statement" "deed" "I" ∈ ALL := tw 160 rfl rfl
set_option maxRecDepth 100000 in
theorem fl_Parser_86 : Cond.fieldLink "SqlReader$Parser" 86 "SqlReader$Statement" "deed" "I" ∈ ALL := tw 161 rfl rfl
set_option maxRecDepth 100000 in
theorem fl_Meaning_105 : Cond.fieldLink "SqlReader$Meaning" 105 "SqlReader$Statement" "deed" "I" ∈ ALL := tw 162 rfl rfl
set_option maxRecDepth 100000 in
theorem fl_SqlReader_162 : Cond.fieldLink "SqlReader" 162 "SqlReader$Statement" "deed" "I" ∈ ALL := tw 163 rfl rfl
set_option maxRecDepth 100000 in
theorem fl_Statement_19 : Cond.fieldLink "SqlReader$Statement" 19 "SqlReader$Statement" "title" "I" ∈ ALL := tw 164 rfl rfl
set_option maxRecDepth 100000 in
theorem fl_Parser_133 : Cond.fieldLink "SqlReader$Parser" 133 "SqlReader$Statement" "title" "I" ∈ ALL := tw 165 rfl rfl
set_option maxRecDepth 100000 in
theorem fl_SqlReader_176 : Cond.fieldLink "SqlReader" 176 "SqlReader$Statement" "title" "I" ∈ ALL := tw 166 rfl rfl
set_option maxRecDepth 100000 in
theorem fl_Statement_22 : Cond.fieldLink "SqlReader$Statement" 22 "SqlReader$Statement" "tableName" "I" ∈ ALL := tw 167 rfl rfl
set_option maxRecDepth 100000 in
theorem fl_Meaning_49 : Cond.fieldLink "SqlReader$Meaning" 49 "SqlReader$Statement" "tableName" "I" ∈ ALL := tw 168 rfl rfl
set_option maxRecDepth 100000 in
theorem fl_Parser_135 : Cond.fieldLink "SqlReader$Parser" 135 "SqlReader$Statement" "tableName" "I" ∈ ALL := tw 169 rfl rfl
set_option maxRecDepth 100000 in
theorem fl_Statement_25 : Cond.fieldLink "SqlReader$Statement" 25 "SqlReader$Statement" "table" "I" ∈ ALL := tw 170 rfl rfl
set_option maxRecDepth 100000 in
theorem fl_Meaning_61 : Cond.fieldLink "SqlReader$Meaning" 61 "SqlReader$Statement" "table" "I" ∈ ALL := tw 171 rfl rfl
set_option maxRecDepth 100000 in
theorem fl_SqlReader_164 : Cond.fieldLink "SqlReader" 164 "SqlReader$Statement" "table" "I" ∈ ALL := tw 172 rfl rfl
set_option maxRecDepth 100000 in
theorem fl_Statement_28 : Cond.fieldLink "SqlReader$Statement" 28 "SqlReader$Statement" "columnName" "I" ∈ ALL := tw 173 rfl rfl
set_option maxRecDepth 100000 in
theorem fl_Parser_152 : Cond.fieldLink "SqlReader$Parser" 152 "SqlReader$Statement" "columnName" "I" ∈ ALL := tw 174 rfl rfl
set_option maxRecDepth 100000 in
theorem fl_Meaning_166 : Cond.fieldLink "SqlReader$Meaning" 166 "SqlReader$Statement" "columnName" "I" ∈ ALL := tw 175 rfl rfl
set_option maxRecDepth 100000 in
theorem fl_Statement_31 : Cond.fieldLink "SqlReader$Statement" 31 "SqlReader$Statement" "column" "I" ∈ ALL := tw 176 rfl rfl
set_option maxRecDepth 100000 in
theorem fl_SqlReader_167 : Cond.fieldLink "SqlReader" 167 "SqlReader$Statement" "column" "I" ∈ ALL := tw 177 rfl rfl
set_option maxRecDepth 100000 in
theorem fl_Meaning_169 : Cond.fieldLink "SqlReader$Meaning" 169 "SqlReader$Statement" "column" "I" ∈ ALL := tw 178 rfl rfl
set_option maxRecDepth 100000 in
theorem fl_Statement_34 : Cond.fieldLink "SqlReader$Statement" 34 "SqlReader$Statement" "mode" "I" ∈ ALL := tw 179 rfl rfl
set_option maxRecDepth 100000 in
theorem fl_SqlReader_149 : Cond.fieldLink "SqlReader" 149 "SqlReader$Statement" "mode" "I" ∈ ALL := tw 180 rfl rfl
set_option maxRecDepth 100000 in
theorem fl_Parser_285 : Cond.fieldLink "SqlReader$Parser" 285 "SqlReader$Statement" "mode" "I" ∈ ALL := tw 181 rfl rfl
set_option maxRecDepth 100000 in
theorem fl_Meaning_274 : Cond.fieldLink "SqlReader$Meaning" 274 "SqlReader$Statement" "mode" "I" ∈ ALL := tw 182 rfl rfl
set_option maxRecDepth 100000 in
theorem fl_Statement_37 : Cond.fieldLink "SqlReader$Statement" 37 "SqlReader$Statement" "limit" "I" ∈ ALL := tw 183 rfl rfl
set_option maxRecDepth 100000 in
theorem fl_SqlReader_156 : Cond.fieldLink "SqlReader" 156 "SqlReader$Statement" "limit" "I" ∈ ALL := tw 184 rfl rfl
set_option maxRecDepth 100000 in
theorem fl_Parser_279 : Cond.fieldLink "SqlReader$Parser" 279 "SqlReader$Statement" "limit" "I" ∈ ALL := tw 185 rfl rfl
set_option maxRecDepth 100000 in
theorem fl_Statement_40 : Cond.fieldLink "SqlReader$Statement" 40 "SqlReader$Statement" "where" "I" ∈ ALL := tw 186 rfl rfl
set_option maxRecDepth 100000 in
theorem fl_SqlReader_159 : Cond.fieldLink "SqlReader" 159 "SqlReader$Statement" "where" "I" ∈ ALL := tw 187 rfl rfl
set_option maxRecDepth 100000 in
theorem fl_Meaning_157 : Cond.fieldLink "SqlReader$Meaning" 157 "SqlReader$Statement" "where" "I" ∈ ALL := tw 188 rfl rfl
set_option maxRecDepth 100000 in
theorem fl_Parser_244 : Cond.fieldLink "SqlReader$Parser" 244 "SqlReader$Statement" "where" "I" ∈ ALL := tw 189 rfl rfl
set_option maxRecDepth 100000 in
theorem fl_Statement_43 : Cond.fieldLink "SqlReader$Statement" 43 "SqlReader$Statement" "unique" "Z" ∈ ALL := tw 190 rfl rfl
set_option maxRecDepth 100000 in
theorem fl_Parser_143 : Cond.fieldLink "SqlReader$Parser" 143 "SqlReader$Statement" "unique" "Z" ∈ ALL := tw 191 rfl rfl
set_option maxRecDepth 100000 in
theorem fl_SqlReader_170 : Cond.fieldLink "SqlReader" 170 "SqlReader$Statement" "unique" "Z" ∈ ALL := tw 192 rfl rfl
set_option maxRecDepth 100000 in
theorem fl_Statement_47 : Cond.fieldLink "SqlReader$Statement" 47 "SqlReader$Statement" "distinct" "Z" ∈ ALL := tw 193 rfl rfl
set_option maxRecDepth 100000 in
theorem fl_SqlReader_152 : Cond.fieldLink "SqlReader" 152 "SqlReader$Statement" "distinct" "Z" ∈ ALL := tw 194 rfl rfl
set_option maxRecDepth 100000 in
theorem fl_Parser_213 : Cond.fieldLink "SqlReader$Parser" 213 "SqlReader$Statement" "distinct" "Z" ∈ ALL := tw 195 rfl rfl
set_option maxRecDepth 100000 in
theorem fl_Meaning_271 : Cond.fieldLink "SqlReader$Meaning" 271 "SqlReader$Statement" "distinct" "Z" ∈ ALL := tw 196 rfl rfl
set_option maxRecDepth 100000 in
theorem fl_Statement_50 : Cond.fieldLink "SqlReader$Statement" 50 "SqlReader$Statement" "star" "Z" ∈ ALL := tw 197 rfl rfl
set_option maxRecDepth 100000 in
theorem fl_Meaning_111 : Cond.fieldLink "SqlReader$Meaning" 111 "SqlReader$Statement" "star" "Z" ∈ ALL := tw 198 rfl rfl
set_option maxRecDepth 100000 in
theorem fl_Parser_218 : Cond.fieldLink "SqlReader$Parser" 218 "SqlReader$Statement" "star" "Z" ∈ ALL := tw 199 rfl rfl
set_option maxRecDepth 100000 in
theorem fl_Parser_9 : Cond.fieldLink "SqlReader$Parser" 9 "SqlReader$Parser" "tokens" "LSqlReader$Tokens;" ∈ ALL := tw 233 rfl rfl
set_option maxRecDepth 100000 in
theorem fl_Parser_15 : Cond.fieldLink "SqlReader$Parser" 15 "SqlReader$Parser" "nodes" "LSqlReader$Nodes;" ∈ ALL := tw 234 rfl rfl
set_option maxRecDepth 100000 in
theorem fl_Parser_19 : Cond.fieldLink "SqlReader$Parser" 19 "SqlReader$Parser" "lists" "LSqlReader$Lists;" ∈ ALL := tw 235 rfl rfl
set_option maxRecDepth 100000 in
theorem fl_Parser_23 : Cond.fieldLink "SqlReader$Parser" 23 "SqlReader$Parser" "statement" "LSqlReader$Statement;" ∈ ALL := tw 236 rfl rfl
set_option maxRecDepth 100000 in
theorem fl_Parser_35 : Cond.fieldLink "SqlReader$Parser" 35 "SqlReader$Parser" "prepared" "Z" ∈ ALL := tw 237 rfl rfl
set_option maxRecDepth 100000 in
theorem fl_Parser_221 : Cond.fieldLink "SqlReader$Parser" 221 "SqlReader$Parser" "inItems" "Z" ∈ ALL := tw 238 rfl rfl
set_option maxRecDepth 100000 in
theorem gk_Meaning_15 : GoodIn ALL (wsV "SqlReader$Meaning" 15 y_Tokens_text.cls y_Tokens_text (.code y_Tokens_text prog_9_method_2_code 1 (some (.object "SqlReader$Text")) :: ALL)) := gV (tw 258 rfl rfl) (tw 259 rfl rfl) (tw 260 rfl rfl) ii_Tokens ck_Tokens_text
set_option maxRecDepth 100000 in
theorem fl_Meaning_9 : Cond.fieldLink "SqlReader$Meaning" 9 "SqlReader$Meaning" "catalog" "LSqlReader$Catalog;" ∈ ALL := tw 262 rfl rfl
set_option maxRecDepth 100000 in
theorem fl_Meaning_21 : Cond.fieldLink "SqlReader$Meaning" 21 "SqlReader$Meaning" "text" "LSqlReader$Text;" ∈ ALL := tw 263 rfl rfl
set_option maxRecDepth 100000 in
theorem fl_Meaning_24 : Cond.fieldLink "SqlReader$Meaning" 24 "SqlReader$Meaning" "nodes" "LSqlReader$Nodes;" ∈ ALL := tw 264 rfl rfl
set_option maxRecDepth 100000 in
theorem fl_Meaning_28 : Cond.fieldLink "SqlReader$Meaning" 28 "SqlReader$Meaning" "lists" "LSqlReader$Lists;" ∈ ALL := tw 265 rfl rfl
set_option maxRecDepth 100000 in
theorem fl_Meaning_32 : Cond.fieldLink "SqlReader$Meaning" 32 "SqlReader$Meaning" "statement" "LSqlReader$Statement;" ∈ ALL := tw 266 rfl rfl
set_option maxRecDepth 100000 in
theorem fl_Meaning_102 : Cond.fieldLink "SqlReader$Meaning" 102 "SqlReader$Meaning" "judged" "I" ∈ ALL := tw 267 rfl rfl
set_option maxRecDepth 100000 in
theorem fl_SqlReader_10 : Cond.fieldLink "SqlReader" 10 "SqlReader" "typed" "LSqlReader$Text;" ∈ ALL := tw 281 rfl rfl
set_option maxRecDepth 100000 in
theorem fl_SqlReader_19 : Cond.fieldLink "SqlReader" 19 "SqlReader" "catalog" "LSqlReader$Catalog;" ∈ ALL := tw 282 rfl rfl
set_option maxRecDepth 100000 in
theorem fl_SqlReader_26 : Cond.fieldLink "SqlReader" 26 "SqlReader" "tokens" "LSqlReader$Tokens;" ∈ ALL := tw 283 rfl rfl
set_option maxRecDepth 100000 in
theorem fl_SqlReader_33 : Cond.fieldLink "SqlReader" 33 "SqlReader" "nodes" "LSqlReader$Nodes;" ∈ ALL := tw 284 rfl rfl
set_option maxRecDepth 100000 in
theorem fl_SqlReader_40 : Cond.fieldLink "SqlReader" 40 "SqlReader" "lists" "LSqlReader$Lists;" ∈ ALL := tw 285 rfl rfl
set_option maxRecDepth 100000 in
theorem fl_SqlReader_47 : Cond.fieldLink "SqlReader" 47 "SqlReader" "statement" "LSqlReader$Statement;" ∈ ALL := tw 286 rfl rfl
set_option maxRecDepth 100000 in
theorem fl_SqlReader_56 : Cond.fieldLink "SqlReader" 56 "SqlReader" "parser" "LSqlReader$Parser;" ∈ ALL := tw 287 rfl rfl
set_option maxRecDepth 100000 in
theorem fl_SqlReader_65 : Cond.fieldLink "SqlReader" 65 "SqlReader" "meaning" "LSqlReader$Meaning;" ∈ ALL := tw 288 rfl rfl
set_option maxRecDepth 100000 in
theorem gk_SqlReaderLaw_15 : GoodIn ALL (wsV "SqlReaderLaw" 15 y_SqlReader_type.cls y_SqlReader_type (.code y_SqlReader_type prog_1_method_2_code 4 (some .boolean) :: ALL)) := gV (tw 306 rfl rfl) (tw 307 rfl rfl) (tw 308 rfl rfl) ii_SqlReader ck_SqlReader_type
set_option maxRecDepth 100000 in
theorem gk_SqlReader_69 : GoodIn ALL (wsV "SqlReader" 69 y_Text_append.cls y_Text_append (.code y_Text_append prog_8_method_12_code 5 (some .boolean) :: ALL)) := gV (tw 310 rfl rfl) (tw 311 rfl rfl) (tw 312 rfl rfl) ii_Text ck_Text_append
set_option maxRecDepth 100000 in
theorem gk_SqlReaderLaw_20 : GoodIn ALL (wsV "SqlReaderLaw" 20 y_SqlReader_table.cls y_SqlReader_table (.code y_SqlReader_table prog_1_method_3_code 2 (some .int) :: ALL)) := gV (tw 314 rfl rfl) (tw 315 rfl rfl) (tw 316 rfl rfl) ii_SqlReader ck_SqlReader_table
set_option maxRecDepth 100000 in
theorem gk_SqlReader_73 : GoodIn ALL (wsV "SqlReader" 73 y_Catalog_addTable.cls y_Catalog_addTable (.code y_Catalog_addTable prog_2_method_2_code 2 (some .int) :: ALL)) := gV (tw 318 rfl rfl) (tw 319 rfl rfl) (tw 320 rfl rfl) ii_Catalog ck_Catalog_addTable
set_option maxRecDepth 100000 in
theorem gk_Catalog_31 : GoodIn ALL (wsV "SqlReader$Catalog" 31 y_Text_isName.cls y_Text_isName (.code y_Text_isName prog_8_method_15_code 2 (some .boolean) :: ALL)) := gV (tw 322 rfl rfl) (tw 323 rfl rfl) (tw 324 rfl rfl) ii_Text ck_Text_isName
set_option maxRecDepth 100000 in
theorem gk_Text_34 : GoodIn ALL (wsV "SqlReader$Text" 34 y_Text_at.cls y_Text_at (.code y_Text_at prog_8_method_10_code 2 (some .int) :: ALL)) := gV (tw 326 rfl rfl) (tw 327 rfl rfl) (tw 328 rfl rfl) ii_Text ck_Text_at
set_option maxRecDepth 100000 in
theorem gk_Text_13 : GoodIn ALL (va_wsS "SqlReader$Text" 13 y_Text_isSmall (.code y_Text_isSmall prog_8_method_5_code 1 (some .boolean) :: ALL)) := gS (tw 330 rfl rfl) (tw 331 rfl rfl) ii_Text ck_Text_isSmall
set_option maxRecDepth 100000 in
theorem gk_Text_38 : GoodIn ALL (va_wsS "SqlReader$Text" 38 y_Text_isOfName (.code y_Text_isOfName prog_8_method_7_code 1 (some .boolean) :: ALL)) := gS (tw 333 rfl rfl) (tw 334 rfl rfl) ii_Text ck_Text_isOfName
set_option maxRecDepth 100000 in
theorem gk_Text_17 : GoodIn ALL (va_wsS "SqlReader$Text" 17 y_Text_isDigit (.code y_Text_isDigit prog_8_method_6_code 1 (some .boolean) :: ALL)) := gS (tw 336 rfl rfl) (tw 337 rfl rfl) ii_Text ck_Text_isDigit
set_option maxRecDepth 100000 in
theorem gk_Catalog_39 : GoodIn ALL (wsV "SqlReader$Catalog" 39 y_Text_size.cls y_Text_size (.code y_Text_size prog_8_method_8_code 1 (some .int) :: ALL)) := gV (tw 339 rfl rfl) (tw 340 rfl rfl) (tw 341 rfl rfl) ii_Text ck_Text_size
set_option maxRecDepth 100000 in
theorem gk_Catalog_43 : GoodIn ALL (va_wsS "SqlReader$Catalog" 43 y_Text_span (.code y_Text_span prog_8_method_2_code 2 (some .int) :: ALL)) := gS (tw 343 rfl rfl) (tw 344 rfl rfl) ii_Text ck_Text_span
set_option maxRecDepth 100000 in
theorem gk_Catalog_47 : GoodIn ALL (wsV "SqlReader$Catalog" 47 y_Catalog_findTable.cls y_Catalog_findTable (.code y_Catalog_findTable prog_2_method_4_code 4 (some .int) :: ALL)) := gV (tw 346 rfl rfl) (tw 347 rfl rfl) (tw 348 rfl rfl) ii_Catalog ck_Catalog_findTable
set_option maxRecDepth 100000 in
theorem gk_Catalog_63 : GoodIn ALL (wsV "SqlReader$Catalog" 63 y_Text_same.cls y_Text_same (.code y_Text_same prog_8_method_17_code 6 (some .boolean) :: ALL)) := gV (tw 350 rfl rfl) (tw 351 rfl rfl) (tw 352 rfl rfl) ii_Text ck_Text_same
set_option maxRecDepth 100000 in
theorem gk_Text_41 : GoodIn ALL (va_wsS "SqlReader$Text" 41 y_Text_sizeOf (.code y_Text_sizeOf prog_8_method_4_code 1 (some .int) :: ALL)) := gS (tw 354 rfl rfl) (tw 355 rfl rfl) ii_Text ck_Text_sizeOf
set_option maxRecDepth 100000 in
theorem gk_Text_44 : GoodIn ALL (va_wsS "SqlReader$Text" 44 y_Text_startOf (.code y_Text_startOf prog_8_method_3_code 1 (some .int) :: ALL)) := gS (tw 357 rfl rfl) (tw 358 rfl rfl) ii_Text ck_Text_startOf
set_option maxRecDepth 100000 in
theorem gk_Catalog_51 : GoodIn ALL (wsV "SqlReader$Catalog" 51 y_Text_keep.cls y_Text_keep (.code y_Text_keep prog_8_method_14_code 4 (some .int) :: ALL)) := gV (tw 360 rfl rfl) (tw 361 rfl rfl) (tw 362 rfl rfl) ii_Text ck_Text_keep
set_option maxRecDepth 100000 in
theorem gk_Text_30 : GoodIn ALL (va_wsS "SqlReader$Text" 30 y_Text_span (.code y_Text_span prog_8_method_2_code 2 (some .int) :: ALL)) := gS (tw 364 rfl rfl) (tw 344 rfl rfl) ii_Text ck_Text_span
set_option maxRecDepth 100000 in
theorem gk_SqlReader_77 : GoodIn ALL (wsV "SqlReader" 77 y_Text_clear.cls y_Text_clear (.code y_Text_clear prog_8_method_9_code 1 none :: ALL)) := gV (tw 365 rfl rfl) (tw 366 rfl rfl) (tw 367 rfl rfl) ii_Text ck_Text_clear
set_option maxRecDepth 100000 in
theorem gk_SqlReaderLaw_25 : GoodIn ALL (wsV "SqlReaderLaw" 25 y_SqlReader_column.cls y_SqlReader_column (.code y_SqlReader_column prog_1_method_4_code 4 (some .int) :: ALL)) := gV (tw 369 rfl rfl) (tw 370 rfl rfl) (tw 371 rfl rfl) ii_SqlReader ck_SqlReader_column
set_option maxRecDepth 100000 in
theorem gk_SqlReader_80 : GoodIn ALL (wsV "SqlReader" 80 y_Catalog_addColumn.cls y_Catalog_addColumn (.code y_Catalog_addColumn prog_2_method_3_code 5 (some .int) :: ALL)) := gV (tw 373 rfl rfl) (tw 374 rfl rfl) (tw 375 rfl rfl) ii_Catalog ck_Catalog_addColumn
set_option maxRecDepth 100000 in
theorem gk_Catalog_55 : GoodIn ALL (wsV "SqlReader$Catalog" 55 y_Catalog_has.cls y_Catalog_has (.code y_Catalog_has prog_2_method_8_code 2 (some .boolean) :: ALL)) := gV (tw 377 rfl rfl) (tw 379 rfl rfl) (sw 0 rfl rfl) ii_Catalog ck_Catalog_has
set_option maxRecDepth 100000 in
theorem gk_Catalog_59 : GoodIn ALL (wsV "SqlReader$Catalog" 59 y_Catalog_findColumn.cls y_Catalog_findColumn (.code y_Catalog_findColumn prog_2_method_5_code 5 (some .int) :: ALL)) := gV (tw 381 rfl rfl) (tw 382 rfl rfl) (tw 383 rfl rfl) ii_Catalog ck_Catalog_findColumn
set_option maxRecDepth 100000 in
theorem gk_Catalog_67 : GoodIn ALL (wsV "SqlReader$Catalog" 67 y_Catalog_columnsOf.cls y_Catalog_columnsOf (.code y_Catalog_columnsOf prog_2_method_6_code 2 (some .int) :: ALL)) := gV (tw 385 rfl rfl) (tw 386 rfl rfl) (tw 387 rfl rfl) ii_Catalog ck_Catalog_columnsOf
set_option maxRecDepth 100000 in
theorem gk_SqlReaderLaw_30 : GoodIn ALL (wsV "SqlReaderLaw" 30 y_SqlReader_read.cls y_SqlReader_read (.code y_SqlReader_read prog_1_method_5_code 4 (some .int) :: ALL)) := gV (tw 389 rfl rfl) (tw 390 rfl rfl) (tw 391 rfl rfl) ii_SqlReader ck_SqlReader_read
set_option maxRecDepth 100000 in
theorem gk_SqlReader_84 : GoodIn ALL (wsV "SqlReader" 84 y_SqlReader_forget.cls y_SqlReader_forget (.code y_SqlReader_forget prog_1_method_12_code 1 none :: ALL)) := gV (tw 393 rfl rfl) (tw 395 rfl rfl) (sw 1 rfl rfl) ii_SqlReader ck_SqlReader_forget
set_option maxRecDepth 100000 in
theorem gk_SqlReader_179 : GoodIn ALL (wsV "SqlReader" 179 y_Nodes_clear.cls y_Nodes_clear (.code y_Nodes_clear prog_5_method_5_code 1 none :: ALL)) := gV (tw 397 rfl rfl) (tw 398 rfl rfl) (tw 399 rfl rfl) ii_Nodes ck_Nodes_clear
set_option maxRecDepth 100000 in
theorem gk_SqlReader_180 : GoodIn ALL (wsV "SqlReader" 180 y_Lists_clear.cls y_Lists_clear (.code y_Lists_clear prog_3_method_2_code 1 none :: ALL)) := gV (tw 401 rfl rfl) (tw 402 rfl rfl) (tw 403 rfl rfl) ii_Lists ck_Lists_clear
set_option maxRecDepth 100000 in
theorem gk_Lists_16 : GoodIn ALL (va_wsS "SqlReader$Lists" 16 y_Arrays_fill (.code y_Arrays_fill prog_18_method_103_code 4 none :: ALL)) := gS (tw 405 rfl rfl) (tw 406 rfl rfl) ii_Arrays ck_Arrays_fill
set_option maxRecDepth 100000 in
theorem gk_SqlReader_181 : GoodIn ALL (wsV "SqlReader" 181 y_Statement_clear.cls y_Statement_clear (.code y_Statement_clear prog_7_method_2_code 1 none :: ALL)) := gV (tw 408 rfl rfl) (tw 153 rfl rfl) (tw 154 rfl rfl) ii_Statement ck_Statement_clear
set_option maxRecDepth 100000 in
theorem gk_SqlReader_87 : GoodIn ALL (wsV "SqlReader" 87 y_Tokens_cut.cls y_Tokens_cut (.code y_Tokens_cut prog_9_method_3_code 4 (some .boolean) :: ALL)) := gV (tw 409 rfl rfl) (tw 410 rfl rfl) (tw 411 rfl rfl) ii_Tokens ck_Tokens_cut
set_option maxRecDepth 100000 in
theorem gk_Tokens_20 : GoodIn ALL (wsV "SqlReader$Tokens" 20 y_Text_copy.cls y_Text_copy (.code y_Text_copy prog_8_method_13_code 2 none :: ALL)) := gV (tw 413 rfl rfl) (tw 414 rfl rfl) (tw 415 rfl rfl) ii_Text ck_Text_copy
set_option maxRecDepth 100000 in
theorem ml_Text_24 : Cond.methodLink "SqlReader$Text" 24 arraycopyName ∈ ALL := tw 417 rfl rfl
set_option maxRecDepth 100000 in
theorem gk_Tokens_31 : GoodIn ALL (wsV "SqlReader$Tokens" 31 y_Text_size.cls y_Text_size (.code y_Text_size prog_8_method_8_code 1 (some .int) :: ALL)) := gV (tw 420 rfl rfl) (tw 340 rfl rfl) (tw 341 rfl rfl) ii_Text ck_Text_size
set_option maxRecDepth 100000 in
theorem gk_Tokens_34 : GoodIn ALL (wsV "SqlReader$Tokens" 34 y_Text_at.cls y_Text_at (.code y_Text_at prog_8_method_10_code 2 (some .int) :: ALL)) := gV (tw 421 rfl rfl) (tw 327 rfl rfl) (tw 328 rfl rfl) ii_Text ck_Text_at
set_option maxRecDepth 100000 in
theorem gk_Tokens_38 : GoodIn ALL (wsV "SqlReader$Tokens" 38 y_Tokens_cutToken.cls y_Tokens_cutToken (.code y_Tokens_cutToken prog_9_method_10_code 4 (some .int) :: ALL)) := gV (tw 422 rfl rfl) (tw 424 rfl rfl) (sw 2 rfl rfl) ii_Tokens ck_Tokens_cutToken
set_option maxRecDepth 100000 in
theorem gk_Tokens_59 : GoodIn ALL (va_wsS "SqlReader$Tokens" 59 y_Tokens_isCapital (.code y_Tokens_isCapital prog_9_method_17_code 1 (some .boolean) :: ALL)) := gS (tw 426 rfl rfl) (tw 427 rfl rfl) ii_Tokens ck_Tokens_isCapital
set_option maxRecDepth 100000 in
theorem gk_Tokens_63 : GoodIn ALL (wsV "SqlReader$Tokens" 63 y_Tokens_endOfCapitals.cls y_Tokens_endOfCapitals (.code y_Tokens_endOfCapitals prog_9_method_14_code 4 (some .int) :: ALL)) := gV (tw 429 rfl rfl) (tw 431 rfl rfl) (sw 3 rfl rfl) ii_Tokens ck_Tokens_endOfCapitals
set_option maxRecDepth 100000 in
theorem gk_Tokens_66 : GoodIn ALL (wsV "SqlReader$Tokens" 66 y_Tokens_keep.cls y_Tokens_keep (.code y_Tokens_keep prog_9_method_11_code 5 (some .int) :: ALL)) := gV (tw 433 rfl rfl) (tw 435 rfl rfl) (sw 4 rfl rfl) ii_Tokens ck_Tokens_keep
set_option maxRecDepth 100000 in
theorem gk_Tokens_88 : GoodIn ALL (va_wsS "SqlReader$Tokens" 88 y_Text_span (.code y_Text_span prog_8_method_2_code 2 (some .int) :: ALL)) := gS (tw 437 rfl rfl) (tw 344 rfl rfl) ii_Text ck_Text_span
set_option maxRecDepth 100000 in
theorem gk_Tokens_70 : GoodIn ALL (va_wsS "SqlReader$Tokens" 70 y_Text_isSmall (.code y_Text_isSmall prog_8_method_5_code 1 (some .boolean) :: ALL)) := gS (tw 438 rfl rfl) (tw 331 rfl rfl) ii_Text ck_Text_isSmall
set_option maxRecDepth 100000 in
theorem gk_Tokens_73 : GoodIn ALL (wsV "SqlReader$Tokens" 73 y_Tokens_endOfName.cls y_Tokens_endOfName (.code y_Tokens_endOfName prog_9_method_15_code 4 (some .int) :: ALL)) := gV (tw 439 rfl rfl) (tw 441 rfl rfl) (sw 5 rfl rfl) ii_Tokens ck_Tokens_endOfName
set_option maxRecDepth 100000 in
theorem gk_Tokens_101 : GoodIn ALL (va_wsS "SqlReader$Tokens" 101 y_Text_isOfName (.code y_Text_isOfName prog_8_method_7_code 1 (some .boolean) :: ALL)) := gS (tw 443 rfl rfl) (tw 334 rfl rfl) ii_Text ck_Text_isOfName
set_option maxRecDepth 100000 in
theorem gk_Tokens_76 : GoodIn ALL (va_wsS "SqlReader$Tokens" 76 y_Text_isDigit (.code y_Text_isDigit prog_8_method_6_code 1 (some .boolean) :: ALL)) := gS (tw 444 rfl rfl) (tw 337 rfl rfl) ii_Text ck_Text_isDigit
set_option maxRecDepth 100000 in
theorem gk_Tokens_79 : GoodIn ALL (wsV "SqlReader$Tokens" 79 y_Tokens_endOfDigits.cls y_Tokens_endOfDigits (.code y_Tokens_endOfDigits prog_9_method_16_code 4 (some .int) :: ALL)) := gV (tw 445 rfl rfl) (tw 447 rfl rfl) (sw 6 rfl rfl) ii_Tokens ck_Tokens_endOfDigits
set_option maxRecDepth 100000 in
theorem gk_Tokens_82 : GoodIn ALL (wsV "SqlReader$Tokens" 82 y_Tokens_cutText.cls y_Tokens_cutText (.code y_Tokens_cutText prog_9_method_12_code 6 (some .int) :: ALL)) := gV (tw 449 rfl rfl) (tw 451 rfl rfl) (sw 7 rfl rfl) ii_Tokens ck_Tokens_cutText
set_option maxRecDepth 100000 in
theorem gk_Tokens_92 : GoodIn ALL (wsV "SqlReader$Tokens" 92 y_Text_put.cls y_Text_put (.code y_Text_put prog_8_method_11_code 3 none :: ALL)) := gV (tw 453 rfl rfl) (tw 454 rfl rfl) (tw 455 rfl rfl) ii_Text ck_Text_put
set_option maxRecDepth 100000 in
theorem gk_Tokens_85 : GoodIn ALL (wsV "SqlReader$Tokens" 85 y_Tokens_signSize.cls y_Tokens_signSize (.code y_Tokens_signSize prog_9_method_13_code 5 (some .int) :: ALL)) := gV (tw 457 rfl rfl) (tw 459 rfl rfl) (sw 8 rfl rfl) ii_Tokens ck_Tokens_signSize
set_option maxRecDepth 100000 in
theorem gk_Tokens_98 : GoodIn ALL (wsV "SqlReader$Tokens" 98 y_String_indexOf0.cls y_String_indexOf0 (.code y_String_indexOf0 prog_14_method_79_code 2 (some .int) :: ALL)) := gV (tw 462 rfl rfl) (tw 463 rfl rfl) (tw 464 rfl rfl) ii_String ck_String_indexOf0
set_option maxRecDepth 100000 in
theorem gk_String_633 : GoodIn ALL (wsV "java/lang/String" 633 y_String_indexOf1.cls y_String_indexOf1 (.code y_String_indexOf1 prog_14_method_80_code 3 (some .int) :: ALL)) := gV (tw 466 rfl rfl) (tw 467 rfl rfl) (tw 468 rfl rfl) ii_String ck_String_indexOf1
set_option maxRecDepth 100000 in
theorem gk_String_492 : GoodIn ALL (wsV "java/lang/String" 492 y_String_isLatin1.cls y_String_isLatin1 (.code y_String_isLatin1 prog_14_method_154_code 1 (some .boolean) :: ALL)) := gV (tw 470 rfl rfl) (tw 471 rfl rfl) (tw 472 rfl rfl) ii_String ck_String_isLatin1
set_option maxRecDepth 100000 in
theorem fl_String_38 : Cond.fieldLink "java/lang/String" 38 "java/lang/String" "COMPACT_STRINGS" "Z" ∈ ALL := tw 474 rfl rfl
set_option maxRecDepth 100000 in
theorem gk_String_505 : GoodIn ALL (wsV "java/lang/String" 505 y_String_length.cls y_String_length (.code y_String_length prog_14_method_54_code 1 (some .int) :: ALL)) := gV (tw 476 rfl rfl) (tw 477 rfl rfl) (tw 478 rfl rfl) ii_String ck_String_length
set_option maxRecDepth 100000 in
theorem gk_String_335 : GoodIn ALL (wsV "java/lang/String" 335 y_String_coder.cls y_String_coder (.code y_String_coder prog_14_method_152_code 1 (some .byte) :: ALL)) := gV (tw 480 rfl rfl) (tw 481 rfl rfl) (tw 482 rfl rfl) ii_String ck_String_coder
set_option maxRecDepth 100000 in
theorem gk_String_637 : GoodIn ALL (va_wsS "java/lang/String" 637 y_StringLatin1_indexOf (.code y_StringLatin1_indexOf prog_15_method_22_code 4 (some .int) :: ALL)) := gS (tw 484 rfl rfl) (tw 485 rfl rfl) ii_StringLatin1 ck_StringLatin1_indexOf
set_option maxRecDepth 100000 in
theorem gk_StringLatin1_88 : GoodIn ALL (va_wsS "java/lang/StringLatin1" 88 y_StringLatin1_canEncode (.code y_StringLatin1_canEncode prog_15_method_4_code 1 (some .boolean) :: ALL)) := gS (tw 487 rfl rfl) (tw 488 rfl rfl) ii_StringLatin1 ck_StringLatin1_canEncode
set_option maxRecDepth 100000 in
theorem ml_StringLatin1_92 : Cond.methodLink "java/lang/StringLatin1" 92 Lib.Math.max.name ∈ ALL := tw 490 rfl rfl
set_option maxRecDepth 100000 in
theorem ml_StringLatin1_38 : Cond.methodLink "java/lang/StringLatin1" 38 Lib.Math.min.name ∈ ALL := tw 493 rfl rfl
set_option maxRecDepth 100000 in
theorem gk_StringLatin1_95 : GoodIn ALL (va_wsS "java/lang/StringLatin1" 95 y_StringLatin1_indexOfChar (.code y_StringLatin1_indexOfChar prog_15_method_23_code 6 (some .int) :: ALL)) := gS (tw 496 rfl rfl) (tw 497 rfl rfl) ii_StringLatin1 ck_StringLatin1_indexOfChar
set_option maxRecDepth 100000 in
theorem gk_String_640 : GoodIn ALL (va_wsS "java/lang/String" 640 y_StringUTF16_indexOf (.code y_StringUTF16_indexOf prog_16_method_40_code 4 (some .int) :: ALL)) := gS (tw 499 rfl rfl) (tw 500 rfl rfl) ii_StringUTF16 ck_StringUTF16_indexOf
set_option maxRecDepth 100000 in
theorem ml_StringUTF16_224 : Cond.methodLink "java/lang/StringUTF16" 224 Lib.Math.max.name ∈ ALL := tw 502 rfl rfl
set_option maxRecDepth 100000 in
theorem ml_StringUTF16_183 : Cond.methodLink "java/lang/StringUTF16" 183 Lib.Math.min.name ∈ ALL := tw 503 rfl rfl
set_option maxRecDepth 100000 in
theorem kc_StringUTF16_227 : Cond.constant "java/lang/StringUTF16" 227 (65536) ∈ ALL := tw 504 rfl rfl
set_option maxRecDepth 100000 in
theorem gk_StringUTF16_228 : GoodIn ALL (va_wsS "java/lang/StringUTF16" 228 y_StringUTF16_indexOfChar (.code y_StringUTF16_indexOfChar prog_16_method_47_code 4 (some .int) :: ALL)) := gS (tw 505 rfl rfl) (tw 506 rfl rfl) ii_StringUTF16 ck_StringUTF16_indexOfChar
set_option maxRecDepth 100000 in
theorem gk_StringUTF16_96 : GoodIn ALL (va_wsS "java/lang/StringUTF16" 96 y_StringUTF16_checkBoundsBeginEnd (.code y_StringUTF16_checkBoundsBeginEnd prog_16_method_93_code 3 none :: ALL)) := gS (tw 508 rfl rfl) (tw 509 rfl rfl) ii_StringUTF16 ck_StringUTF16_checkBoundsBeginEnd
set_option maxRecDepth 100000 in
theorem gk_StringUTF16_48 : GoodIn ALL (va_wsS "java/lang/StringUTF16" 48 y_StringUTF16_length (.code y_StringUTF16_length prog_16_method_6_code 1 (some .int) :: ALL)) := gS (tw 511 rfl rfl) (tw 512 rfl rfl) ii_StringUTF16 ck_StringUTF16_length
set_option maxRecDepth 100000 in
theorem gk_StringUTF16_241 : GoodIn ALL (va_wsS "java/lang/StringUTF16" 241 y_String_checkBoundsBeginEnd (.code y_String_checkBoundsBeginEnd prog_14_method_158_code 3 none :: ALL)) := gS (tw 514 rfl rfl) (tw 515 rfl rfl) ii_String ck_String_checkBoundsBeginEnd
set_option maxRecDepth 100000 in
theorem fl_String_1053 : Cond.fieldLink "java/lang/String" 1053 "jdk/internal/util/Preconditions" "SIOOBE_FORMATTER" "Ljava/util/function/BiFunction;" ∈ ALL := tw 517 rfl rfl
set_option maxRecDepth 100000 in
theorem gk_String_1062 : GoodIn ALL (va_wsS "java/lang/String" 1062 y_Preconditions_checkFromToIndex (.code y_Preconditions_checkFromToIndex prog_19_method_12_code 4 (some .int) :: ALL)) := gS (tw 519 rfl rfl) (tw 520 rfl rfl) ii_Preconditions ck_Preconditions_checkFromToIndex
set_option maxRecDepth 100000 in
theorem gk_StringUTF16_244 : GoodIn ALL (va_wsS "java/lang/StringUTF16" 244 y_StringUTF16_indexOfCharUnsafe (.code y_StringUTF16_indexOfCharUnsafe prog_16_method_48_code 5 (some .int) :: ALL)) := gS (tw 522 rfl rfl) (tw 523 rfl rfl) ii_StringUTF16 ck_StringUTF16_indexOfCharUnsafe
set_option maxRecDepth 100000 in
theorem gk_StringUTF16_71 : GoodIn ALL (va_wsS "java/lang/StringUTF16" 71 y_StringUTF16_getChar (.code y_StringUTF16_getChar prog_16_method_5_code 2 (some .char) :: ALL)) := gS (tw 525 rfl rfl) (tw 526 rfl rfl) ii_StringUTF16 ck_StringUTF16_getChar
set_option maxRecDepth 100000 in
theorem fl_StringUTF16_44 : Cond.fieldLink "java/lang/StringUTF16" 44 "java/lang/StringUTF16" "$assertionsDisabled" "Z" ∈ ALL := tw 528 rfl rfl
set_option maxRecDepth 100000 in
theorem fl_StringUTF16_59 : Cond.fieldLink "java/lang/StringUTF16" 59 "java/lang/StringUTF16" "HI_BYTE_SHIFT" "I" ∈ ALL := tw 530 rfl rfl
set_option maxRecDepth 100000 in
theorem fl_StringUTF16_63 : Cond.fieldLink "java/lang/StringUTF16" 63 "java/lang/StringUTF16" "LO_BYTE_SHIFT" "I" ∈ ALL := tw 532 rfl rfl
set_option maxRecDepth 100000 in
theorem gk_StringUTF16_232 : GoodIn ALL (va_wsS "java/lang/StringUTF16" 232 y_StringUTF16_indexOfSupplementary (.code y_StringUTF16_indexOfSupplementary prog_16_method_49_code 7 (some .int) :: ALL)) := gS (tw 534 rfl rfl) (tw 535 rfl rfl) ii_StringUTF16 ck_StringUTF16_indexOfSupplementary
set_option maxRecDepth 100000 in
theorem gk_StringUTF16_164 : GoodIn ALL (va_wsS "java/lang/StringUTF16" 164 y_Character_isValidCodePoint (.code y_Character_isValidCodePoint prog_12_method_11_code 2 (some .boolean) :: ALL)) := gS (tw 537 rfl rfl) (tw 538 rfl rfl) ii_Character ck_Character_isValidCodePoint
set_option maxRecDepth 100000 in
theorem gk_StringUTF16_157 : GoodIn ALL (va_wsS "java/lang/StringUTF16" 157 y_Character_highSurrogate (.code y_Character_highSurrogate prog_12_method_28_code 1 (some .char) :: ALL)) := gS (tw 540 rfl rfl) (tw 541 rfl rfl) ii_Character ck_Character_highSurrogate
set_option maxRecDepth 100000 in
theorem kc_Character_110 : Cond.constant "java/lang/Character" 110 (55232) ∈ ALL := tw 543 rfl rfl
set_option maxRecDepth 100000 in
theorem gk_StringUTF16_161 : GoodIn ALL (va_wsS "java/lang/StringUTF16" 161 y_Character_lowSurrogate (.code y_Character_lowSurrogate prog_12_method_29_code 1 (some .char) :: ALL)) := gS (tw 544 rfl rfl) (tw 545 rfl rfl) ii_Character ck_Character_lowSurrogate
set_option maxRecDepth 100000 in
theorem kc_Character_76 : Cond.constant "java/lang/Character" 76 (56320) ∈ ALL := tw 547 rfl rfl
set_option maxRecDepth 100000 in
theorem gk_SqlReader_91 : GoodIn ALL (wsV "SqlReader" 91 y_Parser_begins.cls y_Parser_begins (.code y_Parser_begins prog_6_method_2_code 1 (some .boolean) :: ALL)) := gV (tw 548 rfl rfl) (tw 549 rfl rfl) (tw 550 rfl rfl) ii_Parser ck_Parser_begins
set_option maxRecDepth 100000 in
theorem gk_Parser_29 : GoodIn ALL (wsV "SqlReader$Parser" 29 y_Tokens_takes.cls y_Tokens_takes (.code y_Tokens_takes prog_9_method_5_code 5 (some .boolean) :: ALL)) := gV (tw 553 rfl rfl) (tw 554 rfl rfl) (tw 555 rfl rfl) ii_Tokens ck_Tokens_takes
set_option maxRecDepth 100000 in
theorem gk_Tokens_41 : GoodIn ALL (va_wsS "SqlReader$Tokens" 41 y_Text_sizeOf (.code y_Text_sizeOf prog_8_method_4_code 1 (some .int) :: ALL)) := gS (tw 557 rfl rfl) (tw 355 rfl rfl) ii_Text ck_Text_sizeOf
set_option maxRecDepth 100000 in
theorem gk_Tokens_44 : GoodIn ALL (wsV "SqlReader$Tokens" 44 y_String_length.cls y_String_length (.code y_String_length prog_14_method_54_code 1 (some .int) :: ALL)) := gV (tw 558 rfl rfl) (tw 477 rfl rfl) (tw 478 rfl rfl) ii_String ck_String_length
set_option maxRecDepth 100000 in
theorem gk_Tokens_49 : GoodIn ALL (va_wsS "SqlReader$Tokens" 49 y_Text_startOf (.code y_Text_startOf prog_8_method_3_code 1 (some .int) :: ALL)) := gS (tw 559 rfl rfl) (tw 358 rfl rfl) ii_Text ck_Text_startOf
set_option maxRecDepth 100000 in
theorem gk_Tokens_52 : GoodIn ALL (wsV "SqlReader$Tokens" 52 y_String_charAt.cls y_String_charAt (.code y_String_charAt prog_14_method_56_code 2 (some .char) :: ALL)) := gV (tw 560 rfl rfl) (tw 561 rfl rfl) (tw 562 rfl rfl) ii_String ck_String_charAt
set_option maxRecDepth 100000 in
theorem gk_String_495 : GoodIn ALL (va_wsS "java/lang/String" 495 y_StringLatin1_charAt (.code y_StringLatin1_charAt prog_15_method_2_code 2 (some .char) :: ALL)) := gS (tw 564 rfl rfl) (tw 565 rfl rfl) ii_StringLatin1 ck_StringLatin1_charAt
set_option maxRecDepth 100000 in
theorem gk_StringLatin1_9 : GoodIn ALL (va_wsS "java/lang/StringLatin1" 9 y_String_checkIndex (.code y_String_checkIndex prog_14_method_155_code 2 none :: ALL)) := gS (tw 567 rfl rfl) (tw 568 rfl rfl) ii_String ck_String_checkIndex
set_option maxRecDepth 100000 in
theorem gk_String_1059 : GoodIn ALL (va_wsS "java/lang/String" 1059 y_Preconditions_checkIndex (.code y_Preconditions_checkIndex prog_19_method_11_code 3 (some .int) :: ALL)) := gS (tw 570 rfl rfl) (tw 571 rfl rfl) ii_Preconditions ck_Preconditions_checkIndex
set_option maxRecDepth 100000 in
theorem gk_String_498 : GoodIn ALL (va_wsS "java/lang/String" 498 y_StringUTF16_charAt (.code y_StringUTF16_charAt prog_16_method_83_code 2 (some .char) :: ALL)) := gS (tw 573 rfl rfl) (tw 574 rfl rfl) ii_StringUTF16 ck_StringUTF16_charAt
set_option maxRecDepth 100000 in
theorem gk_StringUTF16_67 : GoodIn ALL (va_wsS "java/lang/StringUTF16" 67 y_StringUTF16_checkIndex (.code y_StringUTF16_checkIndex prog_16_method_91_code 2 none :: ALL)) := gS (tw 576 rfl rfl) (tw 577 rfl rfl) ii_StringUTF16 ck_StringUTF16_checkIndex
set_option maxRecDepth 100000 in
theorem gk_StringUTF16_414 : GoodIn ALL (va_wsS "java/lang/StringUTF16" 414 y_String_checkIndex (.code y_String_checkIndex prog_14_method_155_code 2 none :: ALL)) := gS (tw 579 rfl rfl) (tw 568 rfl rfl) ii_String ck_String_checkIndex
set_option maxRecDepth 100000 in
theorem gk_Parser_39 : GoodIn ALL (wsV "SqlReader$Parser" 39 y_Parser_title.cls y_Parser_title (.code y_Parser_title prog_6_method_7_code 1 (some .boolean) :: ALL)) := gV (tw 580 rfl rfl) (tw 582 rfl rfl) (sw 9 rfl rfl) ii_Parser ck_Parser_title
set_option maxRecDepth 100000 in
theorem gk_Parser_129 : GoodIn ALL (wsV "SqlReader$Parser" 129 y_Tokens_take.cls y_Tokens_take (.code y_Tokens_take prog_9_method_6_code 2 (some .int) :: ALL)) := gV (tw 584 rfl rfl) (tw 585 rfl rfl) (tw 586 rfl rfl) ii_Tokens ck_Tokens_take
set_option maxRecDepth 100000 in
theorem kc_Tokens_56 : Cond.constant "SqlReader$Tokens" 56 (65535) ∈ ALL := tw 588 rfl rfl
set_option maxRecDepth 100000 in
theorem gk_SqlReader_95 : GoodIn ALL (wsV "SqlReader" 95 y_Parser_deed.cls y_Parser_deed (.code y_Parser_deed prog_6_method_3_code 1 (some .boolean) :: ALL)) := gV (tw 590 rfl rfl) (tw 591 rfl rfl) (tw 592 rfl rfl) ii_Parser ck_Parser_deed
set_option maxRecDepth 100000 in
theorem gk_Parser_47 : GoodIn ALL (wsV "SqlReader$Parser" 47 y_Parser_query.cls y_Parser_query (.code y_Parser_query prog_6_method_20_code 3 (some .boolean) :: ALL)) := gV (tw 595 rfl rfl) (tw 597 rfl rfl) (sw 10 rfl rfl) ii_Parser ck_Parser_query
set_option maxRecDepth 100000 in
theorem gk_Parser_186 : GoodIn ALL (wsV "SqlReader$Parser" 186 y_Parser_expressions.cls y_Parser_expressions (.code y_Parser_expressions prog_6_method_15_code 4 (some .boolean) :: ALL)) := gV (tw 601 rfl rfl) (tw 603 rfl rfl) (sw 11 rfl rfl) ii_Parser ck_Parser_expressions
set_option maxRecDepth 100000 in
theorem gk_Parser_192 : GoodIn ALL (wsV "SqlReader$Parser" 192 y_Parser_expression.cls y_Parser_expression (.code y_Parser_expression prog_6_method_33_code 12 (some .int) :: ALL)) := gV (tw 605 rfl rfl) (tw 607 rfl rfl) (sw 12 rfl rfl) ii_Parser ck_Parser_expression
set_option maxRecDepth 100000 in
theorem gk_Parser_305 : GoodIn ALL (wsV "SqlReader$Parser" 305 y_Nodes_size.cls y_Nodes_size (.code y_Nodes_size prog_5_method_6_code 1 (some .int) :: ALL)) := gV (tw 609 rfl rfl) (tw 610 rfl rfl) (tw 611 rfl rfl) ii_Nodes ck_Nodes_size
set_option maxRecDepth 100000 in
theorem gk_Parser_309 : GoodIn ALL (wsV "SqlReader$Parser" 309 y_Nodes_top.cls y_Nodes_top (.code y_Nodes_top prog_5_method_9_code 4 (some .int) :: ALL)) := gV (tw 614 rfl rfl) (tw 615 rfl rfl) (tw 616 rfl rfl) ii_Nodes ck_Nodes_top
set_option maxRecDepth 100000 in
theorem gk_Nodes_47 : GoodIn ALL (wsV "SqlReader$Nodes" 47 y_Nodes_leaf.cls y_Nodes_leaf (.code y_Nodes_leaf prog_5_method_10_code 6 (some .int) :: ALL)) := gV (tw 618 rfl rfl) (tw 619 rfl rfl) (tw 620 rfl rfl) ii_Nodes ck_Nodes_leaf
set_option maxRecDepth 100000 in
theorem gk_Nodes_51 : GoodIn ALL (wsV "SqlReader$Nodes" 51 y_Nodes_adopt.cls y_Nodes_adopt (.code y_Nodes_adopt prog_5_method_25_code 3 none :: ALL)) := gV (tw 622 rfl rfl) (tw 624 rfl rfl) (sw 13 rfl rfl) ii_Nodes ck_Nodes_adopt
set_option maxRecDepth 100000 in
theorem gk_Parser_312 : GoodIn ALL (wsV "SqlReader$Parser" 312 y_Parser_operand.cls y_Parser_operand (.code y_Parser_operand prog_6_method_37_code 4 (some .int) :: ALL)) := gV (tw 626 rfl rfl) (tw 628 rfl rfl) (sw 14 rfl rfl) ii_Parser ck_Parser_operand
set_option maxRecDepth 100000 in
theorem gk_Parser_356 : GoodIn ALL (wsV "SqlReader$Parser" 356 y_Parser_aggregate.cls y_Parser_aggregate (.code y_Parser_aggregate prog_6_method_39_code 1 (some .int) :: ALL)) := gV (tw 633 rfl rfl) (tw 635 rfl rfl) (sw 15 rfl rfl) ii_Parser ck_Parser_aggregate
set_option maxRecDepth 100000 in
theorem gk_Parser_359 : GoodIn ALL (wsV "SqlReader$Parser" 359 y_Parser_aggregated.cls y_Parser_aggregated (.code y_Parser_aggregated prog_6_method_38_code 4 (some .int) :: ALL)) := gV (tw 641 rfl rfl) (tw 643 rfl rfl) (sw 16 rfl rfl) ii_Parser ck_Parser_aggregated
set_option maxRecDepth 100000 in
theorem gk_Parser_365 : GoodIn ALL (wsV "SqlReader$Parser" 365 y_Nodes_leaf.cls y_Nodes_leaf (.code y_Nodes_leaf prog_5_method_10_code 6 (some .int) :: ALL)) := gV (tw 645 rfl rfl) (tw 619 rfl rfl) (tw 620 rfl rfl) ii_Nodes ck_Nodes_leaf
set_option maxRecDepth 100000 in
theorem gk_Parser_362 : GoodIn ALL (wsV "SqlReader$Parser" 362 y_Parser_leaf.cls y_Parser_leaf (.code y_Parser_leaf prog_6_method_40_code 2 (some .int) :: ALL)) := gV (tw 646 rfl rfl) (tw 648 rfl rfl) (sw 17 rfl rfl) ii_Parser ck_Parser_leaf
set_option maxRecDepth 100000 in
theorem gk_Parser_261 : GoodIn ALL (wsV "SqlReader$Parser" 261 y_Tokens_numberOf.cls y_Tokens_numberOf (.code y_Tokens_numberOf prog_9_method_9_code 5 (some .long) :: ALL)) := gV (tw 650 rfl rfl) (tw 651 rfl rfl) (tw 652 rfl rfl) ii_Tokens ck_Tokens_numberOf
set_option maxRecDepth 100000 in
theorem kc_Tokens_57 : Cond.constantLong "SqlReader$Tokens" 57 (10) ∈ ALL := tw 654 rfl rfl
set_option maxRecDepth 100000 in
theorem gk_Parser_253 : GoodIn ALL (wsV "SqlReader$Parser" 253 y_Parser_place.cls y_Parser_place (.code y_Parser_place prog_6_method_41_code 3 (some .int) :: ALL)) := gV (tw 658 rfl rfl) (tw 660 rfl rfl) (sw 18 rfl rfl) ii_Parser ck_Parser_place
set_option maxRecDepth 100000 in
theorem gk_Parser_315 : GoodIn ALL (wsV "SqlReader$Parser" 315 y_Tokens_mark.cls y_Tokens_mark (.code y_Tokens_mark prog_9_method_7_code 1 (some .int) :: ALL)) := gV (tw 663 rfl rfl) (tw 664 rfl rfl) (tw 665 rfl rfl) ii_Tokens ck_Tokens_mark
set_option maxRecDepth 100000 in
theorem gk_Parser_318 : GoodIn ALL (wsV "SqlReader$Parser" 318 y_Parser_wordBehind.cls y_Parser_wordBehind (.code y_Parser_wordBehind prog_6_method_42_code 1 (some .int) :: ALL)) := gV (tw 667 rfl rfl) (tw 669 rfl rfl) (sw 19 rfl rfl) ii_Parser ck_Parser_wordBehind
set_option maxRecDepth 100000 in
theorem gk_Parser_321 : GoodIn ALL (wsV "SqlReader$Parser" 321 y_Parser_signBehind.cls y_Parser_signBehind (.code y_Parser_signBehind prog_6_method_43_code 1 (some .int) :: ALL)) := gV (tw 676 rfl rfl) (tw 678 rfl rfl) (sw 20 rfl rfl) ii_Parser ck_Parser_signBehind
set_option maxRecDepth 100000 in
theorem gk_Parser_324 : GoodIn ALL (va_wsS "SqlReader$Parser" 324 y_Parser_levelOf (.code y_Parser_levelOf prog_6_method_44_code 1 (some .int) :: ALL)) := gS (tw 690 rfl rfl) (tw 691 rfl rfl) ii_Parser ck_Parser_levelOf
set_option maxRecDepth 100000 in
theorem gk_Parser_327 : GoodIn ALL (wsV "SqlReader$Parser" 327 y_Tokens_backTo.cls y_Tokens_backTo (.code y_Tokens_backTo prog_9_method_8_code 2 none :: ALL)) := gV (tw 693 rfl rfl) (tw 694 rfl rfl) (tw 695 rfl rfl) ii_Tokens ck_Tokens_backTo
set_option maxRecDepth 100000 in
theorem gk_Parser_331 : GoodIn ALL (wsV "SqlReader$Parser" 331 y_Parser_comparison.cls y_Parser_comparison (.code y_Parser_comparison prog_6_method_34_code 7 (some .int) :: ALL)) := gV (tw 697 rfl rfl) (tw 699 rfl rfl) (sw 21 rfl rfl) ii_Parser ck_Parser_comparison
set_option maxRecDepth 100000 in
theorem gk_Parser_335 : GoodIn ALL (wsV "SqlReader$Parser" 335 y_Nodes_join.cls y_Nodes_join (.code y_Nodes_join prog_5_method_8_code 5 (some .int) :: ALL)) := gV (tw 701 rfl rfl) (tw 702 rfl rfl) (tw 703 rfl rfl) ii_Nodes ck_Nodes_join
set_option maxRecDepth 100000 in
theorem gk_Parser_341 : GoodIn ALL (wsV "SqlReader$Parser" 341 y_Parser_between.cls y_Parser_between (.code y_Parser_between prog_6_method_35_code 7 (some .int) :: ALL)) := gV (tw 705 rfl rfl) (tw 707 rfl rfl) (sw 22 rfl rfl) ii_Parser ck_Parser_between
set_option maxRecDepth 100000 in
theorem gk_Parser_351 : GoodIn ALL (wsV "SqlReader$Parser" 351 y_Nodes_again.cls y_Nodes_again (.code y_Nodes_again prog_5_method_11_code 6 (some .int) :: ALL)) := gV (tw 709 rfl rfl) (tw 710 rfl rfl) (tw 711 rfl rfl) ii_Nodes ck_Nodes_again
set_option maxRecDepth 100000 in
theorem ml_Nodes_55 : Cond.methodLink "SqlReader$Nodes" 55 Lib.Math.max.name ∈ ALL := tw 713 rfl rfl
set_option maxRecDepth 100000 in
theorem gk_Nodes_61 : GoodIn ALL (va_wsS "SqlReader$Nodes" 61 y_Nodes_works (.code y_Nodes_works prog_5_method_2_code 1 (some .boolean) :: ALL)) := gS (tw 714 rfl rfl) (tw 715 rfl rfl) ii_Nodes ck_Nodes_works
set_option maxRecDepth 100000 in
theorem gk_Nodes_65 : GoodIn ALL (wsV "SqlReader$Nodes" 65 y_Nodes_top.cls y_Nodes_top (.code y_Nodes_top prog_5_method_9_code 4 (some .int) :: ALL)) := gV (tw 717 rfl rfl) (tw 615 rfl rfl) (tw 616 rfl rfl) ii_Nodes ck_Nodes_top
set_option maxRecDepth 100000 in
theorem gk_Nodes_68 : GoodIn ALL (wsV "SqlReader$Nodes" 68 y_Nodes_join.cls y_Nodes_join (.code y_Nodes_join prog_5_method_8_code 5 (some .int) :: ALL)) := gV (tw 718 rfl rfl) (tw 702 rfl rfl) (tw 703 rfl rfl) ii_Nodes ck_Nodes_join
set_option maxRecDepth 100000 in
theorem gk_Parser_346 : GoodIn ALL (wsV "SqlReader$Parser" 346 y_Parser_among.cls y_Parser_among (.code y_Parser_among prog_6_method_36_code 8 (some .int) :: ALL)) := gV (tw 719 rfl rfl) (tw 721 rfl rfl) (sw 23 rfl rfl) ii_Parser ck_Parser_among
set_option maxRecDepth 100000 in
theorem gk_Parser_174 : GoodIn ALL (wsV "SqlReader$Parser" 174 y_Lists_add.cls y_Lists_add (.code y_Lists_add prog_3_method_5_code 3 none :: ALL)) := gV (tw 724 rfl rfl) (tw 725 rfl rfl) (tw 726 rfl rfl) ii_Lists ck_Lists_add
set_option maxRecDepth 100000 in
theorem fl_Lists_26 : Cond.fieldLink "SqlReader$Lists" 26 "SqlReader$Lists" "MOST" "[I" ∈ ALL := tw 728 rfl rfl
set_option maxRecDepth 100000 in
theorem fl_Lists_29 : Cond.fieldLink "SqlReader$Lists" 29 "SqlReader$Lists" "STARTS" "[I" ∈ ALL := tw 730 rfl rfl
set_option maxRecDepth 100000 in
theorem gk_Parser_224 : GoodIn ALL (wsV "SqlReader$Parser" 224 y_Parser_from.cls y_Parser_from (.code y_Parser_from prog_6_method_21_code 3 (some .boolean) :: ALL)) := gV (tw 732 rfl rfl) (tw 734 rfl rfl) (sw 24 rfl rfl) ii_Parser ck_Parser_from
set_option maxRecDepth 100000 in
theorem gk_Parser_239 : GoodIn ALL (wsV "SqlReader$Parser" 239 y_Parser_tableOfQuery.cls y_Parser_tableOfQuery (.code y_Parser_tableOfQuery prog_6_method_22_code 2 (some .boolean) :: ALL)) := gV (tw 737 rfl rfl) (tw 739 rfl rfl) (sw 25 rfl rfl) ii_Parser ck_Parser_tableOfQuery
set_option maxRecDepth 100000 in
theorem gk_Parser_204 : GoodIn ALL (wsV "SqlReader$Parser" 204 y_Parser_where.cls y_Parser_where (.code y_Parser_where prog_6_method_23_code 1 (some .boolean) :: ALL)) := gV (tw 741 rfl rfl) (tw 743 rfl rfl) (sw 26 rfl rfl) ii_Parser ck_Parser_where
set_option maxRecDepth 100000 in
theorem gk_Parser_227 : GoodIn ALL (wsV "SqlReader$Parser" 227 y_Parser_groups.cls y_Parser_groups (.code y_Parser_groups prog_6_method_24_code 3 (some .boolean) :: ALL)) := gV (tw 746 rfl rfl) (tw 748 rfl rfl) (sw 27 rfl rfl) ii_Parser ck_Parser_groups
set_option maxRecDepth 100000 in
theorem gk_Parser_250 : GoodIn ALL (wsV "SqlReader$Parser" 250 y_Parser_group.cls y_Parser_group (.code y_Parser_group prog_6_method_25_code 2 (some .boolean) :: ALL)) := gV (tw 752 rfl rfl) (tw 754 rfl rfl) (sw 28 rfl rfl) ii_Parser ck_Parser_group
set_option maxRecDepth 100000 in
theorem gk_Parser_230 : GoodIn ALL (wsV "SqlReader$Parser" 230 y_Parser_orders.cls y_Parser_orders (.code y_Parser_orders prog_6_method_26_code 3 (some .boolean) :: ALL)) := gV (tw 756 rfl rfl) (tw 758 rfl rfl) (sw 29 rfl rfl) ii_Parser ck_Parser_orders
set_option maxRecDepth 100000 in
theorem gk_Parser_258 : GoodIn ALL (wsV "SqlReader$Parser" 258 y_Parser_order.cls y_Parser_order (.code y_Parser_order prog_6_method_27_code 5 (some .boolean) :: ALL)) := gV (tw 761 rfl rfl) (tw 763 rfl rfl) (sw 30 rfl rfl) ii_Parser ck_Parser_order
set_option maxRecDepth 100000 in
theorem kc_Parser_265 : Cond.constantLong "SqlReader$Parser" 265 (8) ∈ ALL := tw 765 rfl rfl
set_option maxRecDepth 100000 in
theorem gk_Parser_233 : GoodIn ALL (wsV "SqlReader$Parser" 233 y_Parser_limit.cls y_Parser_limit (.code y_Parser_limit prog_6_method_28_code 2 (some .boolean) :: ALL)) := gV (tw 767 rfl rfl) (tw 769 rfl rfl) (sw 31 rfl rfl) ii_Parser ck_Parser_limit
set_option maxRecDepth 100000 in
theorem kc_Parser_271 : Cond.constantLong "SqlReader$Parser" 271 (2147483647) ∈ ALL := tw 772 rfl rfl
set_option maxRecDepth 100000 in
theorem ml_Parser_273 : Cond.methodLink "SqlReader$Parser" 273 Lib.MathLoose.min_long.x ∈ ALL := tw 773 rfl rfl
set_option maxRecDepth 100000 in
theorem gk_Parser_236 : GoodIn ALL (wsV "SqlReader$Parser" 236 y_Parser_lock.cls y_Parser_lock (.code y_Parser_lock prog_6_method_29_code 1 (some .boolean) :: ALL)) := gV (tw 776 rfl rfl) (tw 778 rfl rfl) (sw 32 rfl rfl) ii_Parser ck_Parser_lock
set_option maxRecDepth 100000 in
theorem gk_Parser_102 : GoodIn ALL (wsV "SqlReader$Parser" 102 y_Parser_is.cls y_Parser_is (.code y_Parser_is prog_6_method_6_code 2 (some .boolean) :: ALL)) := gV (tw 783 rfl rfl) (tw 785 rfl rfl) (sw 33 rfl rfl) ii_Parser ck_Parser_is
set_option maxRecDepth 100000 in
theorem gk_Parser_55 : GoodIn ALL (wsV "SqlReader$Parser" 55 y_Parser_target.cls y_Parser_target (.code y_Parser_target prog_6_method_8_code 1 (some .boolean) :: ALL)) := gV (tw 789 rfl rfl) (tw 791 rfl rfl) (sw 34 rfl rfl) ii_Parser ck_Parser_target
set_option maxRecDepth 100000 in
theorem gk_Parser_58 : GoodIn ALL (wsV "SqlReader$Parser" 58 y_Parser_rows.cls y_Parser_rows (.code y_Parser_rows prog_6_method_13_code 3 (some .boolean) :: ALL)) := gV (tw 793 rfl rfl) (tw 795 rfl rfl) (sw 35 rfl rfl) ii_Parser ck_Parser_rows
set_option maxRecDepth 100000 in
theorem gk_Parser_189 : GoodIn ALL (wsV "SqlReader$Parser" 189 y_Lists_size.cls y_Lists_size (.code y_Lists_size prog_3_method_4_code 2 (some .int) :: ALL)) := gV (tw 798 rfl rfl) (tw 799 rfl rfl) (tw 800 rfl rfl) ii_Lists ck_Lists_size
set_option maxRecDepth 100000 in
theorem gk_Parser_63 : GoodIn ALL (wsV "SqlReader$Parser" 63 y_Parser_update.cls y_Parser_update (.code y_Parser_update prog_6_method_16_code 3 (some .boolean) :: ALL)) := gV (tw 802 rfl rfl) (tw 804 rfl rfl) (sw 36 rfl rfl) ii_Parser ck_Parser_update
set_option maxRecDepth 100000 in
theorem gk_Parser_198 : GoodIn ALL (wsV "SqlReader$Parser" 198 y_Parser_setting.cls y_Parser_setting (.code y_Parser_setting prog_6_method_17_code 3 (some .boolean) :: ALL)) := gV (tw 807 rfl rfl) (tw 809 rfl rfl) (sw 37 rfl rfl) ii_Parser ck_Parser_setting
set_option maxRecDepth 100000 in
theorem gk_Parser_201 : GoodIn ALL (wsV "SqlReader$Parser" 201 y_Parser_ownTable.cls y_Parser_ownTable (.code y_Parser_ownTable prog_6_method_19_code 1 none :: ALL)) := gV (tw 811 rfl rfl) (tw 813 rfl rfl) (sw 38 rfl rfl) ii_Parser ck_Parser_ownTable
set_option maxRecDepth 100000 in
theorem gk_Parser_68 : GoodIn ALL (wsV "SqlReader$Parser" 68 y_Parser_delete.cls y_Parser_delete (.code y_Parser_delete prog_6_method_18_code 2 (some .boolean) :: ALL)) := gV (tw 816 rfl rfl) (tw 818 rfl rfl) (sw 39 rfl rfl) ii_Parser ck_Parser_delete
set_option maxRecDepth 100000 in
theorem gk_Parser_73 : GoodIn ALL (wsV "SqlReader$Parser" 73 y_Parser_execute.cls y_Parser_execute (.code y_Parser_execute prog_6_method_14_code 2 (some .boolean) :: ALL)) := gV (tw 821 rfl rfl) (tw 823 rfl rfl) (sw 40 rfl rfl) ii_Parser ck_Parser_execute
set_option maxRecDepth 100000 in
theorem gk_Parser_78 : GoodIn ALL (wsV "SqlReader$Parser" 78 y_Parser_create.cls y_Parser_create (.code y_Parser_create prog_6_method_9_code 1 (some .boolean) :: ALL)) := gV (tw 826 rfl rfl) (tw 828 rfl rfl) (sw 41 rfl rfl) ii_Parser ck_Parser_create
set_option maxRecDepth 100000 in
theorem gk_Parser_138 : GoodIn ALL (wsV "SqlReader$Parser" 138 y_Parser_columns.cls y_Parser_columns (.code y_Parser_columns prog_6_method_10_code 3 (some .boolean) :: ALL)) := gV (tw 831 rfl rfl) (tw 833 rfl rfl) (sw 42 rfl rfl) ii_Parser ck_Parser_columns
set_option maxRecDepth 100000 in
theorem gk_Parser_157 : GoodIn ALL (wsV "SqlReader$Parser" 157 y_Parser_newColumn.cls y_Parser_newColumn (.code y_Parser_newColumn prog_6_method_11_code 5 (some .boolean) :: ALL)) := gV (tw 835 rfl rfl) (tw 837 rfl rfl) (sw 43 rfl rfl) ii_Parser ck_Parser_newColumn
set_option maxRecDepth 100000 in
theorem gk_Parser_164 : GoodIn ALL (wsV "SqlReader$Parser" 164 y_Parser_typeWord.cls y_Parser_typeWord (.code y_Parser_typeWord prog_6_method_12_code 1 (some .int) :: ALL)) := gV (tw 839 rfl rfl) (tw 841 rfl rfl) (sw 44 rfl rfl) ii_Parser ck_Parser_typeWord
set_option maxRecDepth 100000 in
theorem gk_Parser_81 : GoodIn ALL (wsV "SqlReader$Parser" 81 y_Parser_otherDeed.cls y_Parser_otherDeed (.code y_Parser_otherDeed prog_6_method_5_code 1 (some .boolean) :: ALL)) := gV (tw 849 rfl rfl) (tw 851 rfl rfl) (sw 45 rfl rfl) ii_Parser ck_Parser_otherDeed
set_option maxRecDepth 100000 in
theorem gk_Parser_107 : GoodIn ALL (wsV "SqlReader$Parser" 107 y_Parser_begin.cls y_Parser_begin (.code y_Parser_begin prog_6_method_30_code 1 (some .boolean) :: ALL)) := gV (tw 855 rfl rfl) (tw 857 rfl rfl) (sw 46 rfl rfl) ii_Parser ck_Parser_begin
set_option maxRecDepth 100000 in
theorem gk_Parser_122 : GoodIn ALL (wsV "SqlReader$Parser" 122 y_Parser_lockMode.cls y_Parser_lockMode (.code y_Parser_lockMode prog_6_method_31_code 1 (some .boolean) :: ALL)) := gV (tw 869 rfl rfl) (tw 871 rfl rfl) (sw 47 rfl rfl) ii_Parser ck_Parser_lockMode
set_option maxRecDepth 100000 in
theorem gk_Parser_302 : GoodIn ALL (wsV "SqlReader$Parser" 302 y_Parser_shareMode.cls y_Parser_shareMode (.code y_Parser_shareMode prog_6_method_32_code 1 (some .int) :: ALL)) := gV (tw 876 rfl rfl) (tw 878 rfl rfl) (sw 48 rfl rfl) ii_Parser ck_Parser_shareMode
set_option maxRecDepth 100000 in
theorem gk_SqlReader_98 : GoodIn ALL (wsV "SqlReader" 98 y_Parser_ends.cls y_Parser_ends (.code y_Parser_ends prog_6_method_4_code 1 (some .boolean) :: ALL)) := gV (tw 882 rfl rfl) (tw 883 rfl rfl) (tw 884 rfl rfl) ii_Parser ck_Parser_ends
set_option maxRecDepth 100000 in
theorem gk_Parser_95 : GoodIn ALL (wsV "SqlReader$Parser" 95 y_Tokens_ended.cls y_Tokens_ended (.code y_Tokens_ended prog_9_method_4_code 1 (some .boolean) :: ALL)) := gV (tw 887 rfl rfl) (tw 888 rfl rfl) (tw 889 rfl rfl) ii_Tokens ck_Tokens_ended
set_option maxRecDepth 100000 in
theorem gk_SqlReader_101 : GoodIn ALL (wsV "SqlReader" 101 y_Nodes_isOver.cls y_Nodes_isOver (.code y_Nodes_isOver prog_5_method_7_code 1 (some .boolean) :: ALL)) := gV (tw 891 rfl rfl) (tw 892 rfl rfl) (tw 893 rfl rfl) ii_Nodes ck_Nodes_isOver
set_option maxRecDepth 100000 in
theorem gk_SqlReader_104 : GoodIn ALL (wsV "SqlReader" 104 y_Lists_isOver.cls y_Lists_isOver (.code y_Lists_isOver prog_3_method_3_code 1 (some .boolean) :: ALL)) := gV (tw 895 rfl rfl) (tw 896 rfl rfl) (tw 897 rfl rfl) ii_Lists ck_Lists_isOver
set_option maxRecDepth 100000 in
theorem gk_SqlReader_105 : GoodIn ALL (wsV "SqlReader" 105 y_Meaning_firstError.cls y_Meaning_firstError (.code y_Meaning_firstError prog_4_method_2_code 2 (some .int) :: ALL)) := gV (tw 899 rfl rfl) (tw 900 rfl rfl) (tw 901 rfl rfl) ii_Meaning ck_Meaning_firstError
set_option maxRecDepth 100000 in
theorem gk_Meaning_36 : GoodIn ALL (wsV "SqlReader$Meaning" 36 y_Meaning_tableError.cls y_Meaning_tableError (.code y_Meaning_tableError prog_4_method_3_code 3 (some .int) :: ALL)) := gV (tw 903 rfl rfl) (tw 905 rfl rfl) (sw 49 rfl rfl) ii_Meaning ck_Meaning_tableError
set_option maxRecDepth 100000 in
theorem gk_Meaning_55 : GoodIn ALL (wsV "SqlReader$Meaning" 55 y_Catalog_findTable.cls y_Catalog_findTable (.code y_Catalog_findTable prog_2_method_4_code 4 (some .int) :: ALL)) := gV (tw 907 rfl rfl) (tw 347 rfl rfl) (tw 348 rfl rfl) ii_Catalog ck_Catalog_findTable
set_option maxRecDepth 100000 in
theorem gk_Meaning_66 : GoodIn ALL (wsV "SqlReader$Meaning" 66 y_Lists_size.cls y_Lists_size (.code y_Lists_size prog_3_method_4_code 2 (some .int) :: ALL)) := gV (tw 908 rfl rfl) (tw 799 rfl rfl) (tw 800 rfl rfl) ii_Lists ck_Lists_size
set_option maxRecDepth 100000 in
theorem gk_Meaning_70 : GoodIn ALL (wsV "SqlReader$Meaning" 70 y_Lists_at.cls y_Lists_at (.code y_Lists_at prog_3_method_6_code 4 (some .int) :: ALL)) := gV (tw 909 rfl rfl) (tw 910 rfl rfl) (tw 911 rfl rfl) ii_Lists ck_Lists_at
set_option maxRecDepth 100000 in
theorem gk_Meaning_74 : GoodIn ALL (wsV "SqlReader$Meaning" 74 y_Meaning_nameOfTable.cls y_Meaning_nameOfTable (.code y_Meaning_nameOfTable prog_4_method_4_code 3 (some .int) :: ALL)) := gV (tw 913 rfl rfl) (tw 915 rfl rfl) (sw 50 rfl rfl) ii_Meaning ck_Meaning_nameOfTable
set_option maxRecDepth 100000 in
theorem gk_Meaning_77 : GoodIn ALL (wsV "SqlReader$Meaning" 77 y_Meaning_tableCalled.cls y_Meaning_tableCalled (.code y_Meaning_tableCalled prog_4_method_5_code 4 (some .int) :: ALL)) := gV (tw 917 rfl rfl) (tw 919 rfl rfl) (sw 51 rfl rfl) ii_Meaning ck_Meaning_tableCalled
set_option maxRecDepth 100000 in
theorem gk_Meaning_84 : GoodIn ALL (wsV "SqlReader$Meaning" 84 y_Text_same.cls y_Text_same (.code y_Text_same prog_8_method_17_code 6 (some .boolean) :: ALL)) := gV (tw 921 rfl rfl) (tw 351 rfl rfl) (tw 352 rfl rfl) ii_Text ck_Text_same
set_option maxRecDepth 100000 in
theorem gk_Meaning_80 : GoodIn ALL (wsV "SqlReader$Meaning" 80 y_Lists_add.cls y_Lists_add (.code y_Lists_add prog_3_method_5_code 3 none :: ALL)) := gV (tw 922 rfl rfl) (tw 725 rfl rfl) (tw 726 rfl rfl) ii_Lists ck_Lists_add
set_option maxRecDepth 100000 in
theorem gk_Meaning_40 : GoodIn ALL (wsV "SqlReader$Meaning" 40 y_Meaning_typeError.cls y_Meaning_typeError (.code y_Meaning_typeError prog_4_method_6_code 2 (some .int) :: ALL)) := gV (tw 923 rfl rfl) (tw 925 rfl rfl) (sw 52 rfl rfl) ii_Meaning ck_Meaning_typeError
set_option maxRecDepth 100000 in
theorem gk_Meaning_90 : GoodIn ALL (wsV "SqlReader$Meaning" 90 y_Meaning_findPlaces.cls y_Meaning_findPlaces (.code y_Meaning_findPlaces prog_4_method_7_code 2 none :: ALL)) := gV (tw 927 rfl rfl) (tw 929 rfl rfl) (sw 53 rfl rfl) ii_Meaning ck_Meaning_findPlaces
set_option maxRecDepth 100000 in
theorem gk_Meaning_121 : GoodIn ALL (wsV "SqlReader$Meaning" 121 y_Nodes_size.cls y_Nodes_size (.code y_Nodes_size prog_5_method_6_code 1 (some .int) :: ALL)) := gV (tw 931 rfl rfl) (tw 610 rfl rfl) (tw 611 rfl rfl) ii_Nodes ck_Nodes_size
set_option maxRecDepth 100000 in
theorem gk_Meaning_128 : GoodIn ALL (wsV "SqlReader$Meaning" 128 y_Nodes_kindOf.cls y_Nodes_kindOf (.code y_Nodes_kindOf prog_5_method_12_code 2 (some .int) :: ALL)) := gV (tw 932 rfl rfl) (tw 933 rfl rfl) (tw 934 rfl rfl) ii_Nodes ck_Nodes_kindOf
set_option maxRecDepth 100000 in
theorem gk_Meaning_131 : GoodIn ALL (wsV "SqlReader$Meaning" 131 y_Meaning_findPlace.cls y_Meaning_findPlace (.code y_Meaning_findPlace prog_4_method_8_code 9 (some .int) :: ALL)) := gV (tw 936 rfl rfl) (tw 938 rfl rfl) (sw 54 rfl rfl) ii_Meaning ck_Meaning_findPlace
set_option maxRecDepth 100000 in
theorem gk_Meaning_137 : GoodIn ALL (wsV "SqlReader$Meaning" 137 y_Nodes_qualifierOf.cls y_Nodes_qualifierOf (.code y_Nodes_qualifierOf prog_5_method_20_code 2 (some .int) :: ALL)) := gV (tw 940 rfl rfl) (tw 941 rfl rfl) (tw 942 rfl rfl) ii_Nodes ck_Nodes_qualifierOf
set_option maxRecDepth 100000 in
theorem gk_Meaning_140 : GoodIn ALL (wsV "SqlReader$Meaning" 140 y_Nodes_spanOf.cls y_Nodes_spanOf (.code y_Nodes_spanOf prog_5_method_19_code 2 (some .int) :: ALL)) := gV (tw 944 rfl rfl) (tw 945 rfl rfl) (tw 946 rfl rfl) ii_Nodes ck_Nodes_spanOf
set_option maxRecDepth 100000 in
theorem gk_Meaning_143 : GoodIn ALL (wsV "SqlReader$Meaning" 143 y_Catalog_findColumn.cls y_Catalog_findColumn (.code y_Catalog_findColumn prog_2_method_5_code 5 (some .int) :: ALL)) := gV (tw 948 rfl rfl) (tw 382 rfl rfl) (tw 383 rfl rfl) ii_Catalog ck_Catalog_findColumn
set_option maxRecDepth 100000 in
theorem gk_Meaning_147 : GoodIn ALL (wsV "SqlReader$Meaning" 147 y_Nodes_putPlace.cls y_Nodes_putPlace (.code y_Nodes_putPlace prog_5_method_24_code 4 none :: ALL)) := gV (tw 949 rfl rfl) (tw 950 rfl rfl) (tw 951 rfl rfl) ii_Nodes ck_Nodes_putPlace
set_option maxRecDepth 100000 in
theorem gk_Meaning_151 : GoodIn ALL (wsV "SqlReader$Meaning" 151 y_Catalog_typeOf.cls y_Catalog_typeOf (.code y_Catalog_typeOf prog_2_method_7_code 4 (some .int) :: ALL)) := gV (tw 953 rfl rfl) (tw 954 rfl rfl) (tw 955 rfl rfl) ii_Catalog ck_Catalog_typeOf
set_option maxRecDepth 100000 in
theorem gk_Meaning_154 : GoodIn ALL (wsV "SqlReader$Meaning" 154 y_Nodes_putType.cls y_Nodes_putType (.code y_Nodes_putType prog_5_method_21_code 3 none :: ALL)) := gV (tw 957 rfl rfl) (tw 958 rfl rfl) (tw 959 rfl rfl) ii_Nodes ck_Nodes_putType
set_option maxRecDepth 100000 in
theorem gk_Meaning_134 : GoodIn ALL (wsV "SqlReader$Meaning" 134 y_Nodes_putFault.cls y_Nodes_putFault (.code y_Nodes_putFault prog_5_method_23_code 3 none :: ALL)) := gV (tw 961 rfl rfl) (tw 962 rfl rfl) (tw 963 rfl rfl) ii_Nodes ck_Nodes_putFault
set_option maxRecDepth 100000 in
theorem gk_Meaning_93 : GoodIn ALL (wsV "SqlReader$Meaning" 93 y_Meaning_findColumnsSet.cls y_Meaning_findColumnsSet (.code y_Meaning_findColumnsSet prog_4_method_9_code 3 none :: ALL)) := gV (tw 965 rfl rfl) (tw 967 rfl rfl) (sw 55 rfl rfl) ii_Meaning ck_Meaning_findColumnsSet
set_option maxRecDepth 100000 in
theorem gk_Meaning_96 : GoodIn ALL (wsV "SqlReader$Meaning" 96 y_Meaning_tellNeeds.cls y_Meaning_tellNeeds (.code y_Meaning_tellNeeds prog_4_method_10_code 4 none :: ALL)) := gV (tw 969 rfl rfl) (tw 971 rfl rfl) (sw 56 rfl rfl) ii_Meaning ck_Meaning_tellNeeds
set_option maxRecDepth 100000 in
theorem gk_Meaning_160 : GoodIn ALL (wsV "SqlReader$Meaning" 160 y_Nodes_putNeed.cls y_Nodes_putNeed (.code y_Nodes_putNeed prog_5_method_22_code 3 none :: ALL)) := gV (tw 973 rfl rfl) (tw 974 rfl rfl) (tw 975 rfl rfl) ii_Nodes ck_Nodes_putNeed
set_option maxRecDepth 100000 in
theorem gk_Meaning_163 : GoodIn ALL (wsV "SqlReader$Meaning" 163 y_Meaning_tellColumns.cls y_Meaning_tellColumns (.code y_Meaning_tellColumns prog_4_method_11_code 5 none :: ALL)) := gV (tw 977 rfl rfl) (tw 979 rfl rfl) (sw 57 rfl rfl) ii_Meaning ck_Meaning_tellColumns
set_option maxRecDepth 100000 in
theorem gk_Meaning_99 : GoodIn ALL (wsV "SqlReader$Meaning" 99 y_Meaning_typeParameters.cls y_Meaning_typeParameters (.code y_Meaning_typeParameters prog_4_method_21_code 2 none :: ALL)) := gV (tw 981 rfl rfl) (tw 983 rfl rfl) (sw 58 rfl rfl) ii_Meaning ck_Meaning_typeParameters
set_option maxRecDepth 100000 in
theorem gk_Meaning_219 : GoodIn ALL (wsV "SqlReader$Meaning" 219 y_Meaning_parameterType.cls y_Meaning_parameterType (.code y_Meaning_parameterType prog_4_method_22_code 4 (some .int) :: ALL)) := gV (tw 985 rfl rfl) (tw 987 rfl rfl) (sw 59 rfl rfl) ii_Meaning ck_Meaning_parameterType
set_option maxRecDepth 100000 in
theorem gk_Meaning_198 : GoodIn ALL (wsV "SqlReader$Meaning" 198 y_Nodes_firstOf.cls y_Nodes_firstOf (.code y_Nodes_firstOf prog_5_method_13_code 2 (some .int) :: ALL)) := gV (tw 989 rfl rfl) (tw 990 rfl rfl) (tw 991 rfl rfl) ii_Nodes ck_Nodes_firstOf
set_option maxRecDepth 100000 in
theorem gk_Meaning_222 : GoodIn ALL (wsV "SqlReader$Meaning" 222 y_Meaning_neededAt.cls y_Meaning_neededAt (.code y_Meaning_neededAt prog_4_method_23_code 5 (some .int) :: ALL)) := gV (tw 993 rfl rfl) (tw 995 rfl rfl) (sw 60 rfl rfl) ii_Meaning ck_Meaning_neededAt
set_option maxRecDepth 100000 in
theorem gk_Meaning_228 : GoodIn ALL (wsV "SqlReader$Meaning" 228 y_Nodes_parentOf.cls y_Nodes_parentOf (.code y_Nodes_parentOf prog_5_method_16_code 2 (some .int) :: ALL)) := gV (tw 997 rfl rfl) (tw 998 rfl rfl) (tw 999 rfl rfl) ii_Nodes ck_Nodes_parentOf
set_option maxRecDepth 100000 in
theorem fl_Meaning_209 : Cond.fieldLink "SqlReader$Meaning" 209 "SqlReader$Meaning" "NEEDS" "[I" ∈ ALL := tw 1001 rfl rfl
set_option maxRecDepth 100000 in
theorem gk_Meaning_192 : GoodIn ALL (wsV "SqlReader$Meaning" 192 y_Nodes_needOf.cls y_Nodes_needOf (.code y_Nodes_needOf prog_5_method_17_code 2 (some .int) :: ALL)) := gV (tw 1003 rfl rfl) (tw 1004 rfl rfl) (tw 1005 rfl rfl) ii_Nodes ck_Nodes_needOf
set_option maxRecDepth 100000 in
theorem gk_Meaning_206 : GoodIn ALL (va_wsS "SqlReader$Meaning" 206 y_Nodes_compares (.code y_Nodes_compares prog_5_method_4_code 1 (some .boolean) :: ALL)) := gS (tw 1007 rfl rfl) (tw 1008 rfl rfl) ii_Nodes ck_Nodes_compares
set_option maxRecDepth 100000 in
theorem gk_Meaning_203 : GoodIn ALL (wsV "SqlReader$Meaning" 203 y_Nodes_secondOf.cls y_Nodes_secondOf (.code y_Nodes_secondOf prog_5_method_14_code 2 (some .int) :: ALL)) := gV (tw 1010 rfl rfl) (tw 1011 rfl rfl) (tw 1012 rfl rfl) ii_Nodes ck_Nodes_secondOf
set_option maxRecDepth 100000 in
theorem gk_Meaning_231 : GoodIn ALL (wsV "SqlReader$Meaning" 231 y_Meaning_typeAhead.cls y_Meaning_typeAhead (.code y_Meaning_typeAhead prog_4_method_24_code 5 (some .int) :: ALL)) := gV (tw 1014 rfl rfl) (tw 1016 rfl rfl) (sw 61 rfl rfl) ii_Meaning ck_Meaning_typeAhead
set_option maxRecDepth 100000 in
theorem gk_Meaning_201 : GoodIn ALL (wsV "SqlReader$Meaning" 201 y_Nodes_typeOf.cls y_Nodes_typeOf (.code y_Nodes_typeOf prog_5_method_15_code 2 (some .int) :: ALL)) := gV (tw 1018 rfl rfl) (tw 1019 rfl rfl) (tw 1020 rfl rfl) ii_Nodes ck_Nodes_typeOf
set_option maxRecDepth 100000 in
theorem ml_Meaning_234 : Cond.methodLink "SqlReader$Meaning" 234 Lib.Math.max.name ∈ ALL := tw 1022 rfl rfl
set_option maxRecDepth 100000 in
theorem gk_Meaning_213 : GoodIn ALL (va_wsS "SqlReader$Meaning" 213 y_Meaning_typeByKind (.code y_Meaning_typeByKind prog_4_method_20_code 1 (some .int) :: ALL)) := gS (tw 1023 rfl rfl) (tw 1024 rfl rfl) ii_Meaning ck_Meaning_typeByKind
set_option maxRecDepth 100000 in
theorem fl_Meaning_216 : Cond.fieldLink "SqlReader$Meaning" 216 "SqlReader$Meaning" "TYPES" "[I" ∈ ALL := tw 1026 rfl rfl
set_option maxRecDepth 100000 in
theorem gk_Meaning_225 : GoodIn ALL (wsV "SqlReader$Meaning" 225 y_Lists_put.cls y_Lists_put (.code y_Lists_put prog_3_method_7_code 4 none :: ALL)) := gV (tw 1028 rfl rfl) (tw 1029 rfl rfl) (tw 1030 rfl rfl) ii_Lists ck_Lists_put
set_option maxRecDepth 100000 in
theorem gk_Meaning_108 : GoodIn ALL (wsV "SqlReader$Meaning" 108 y_Meaning_indexError.cls y_Meaning_indexError (.code y_Meaning_indexError prog_4_method_12_code 1 (some .int) :: ALL)) := gV (tw 1032 rfl rfl) (tw 1034 rfl rfl) (sw 62 rfl rfl) ii_Meaning ck_Meaning_indexError
set_option maxRecDepth 100000 in
theorem gk_Meaning_115 : GoodIn ALL (wsV "SqlReader$Meaning" 115 y_Meaning_starError.cls y_Meaning_starError (.code y_Meaning_starError prog_4_method_13_code 6 (some .int) :: ALL)) := gV (tw 1036 rfl rfl) (tw 1038 rfl rfl) (sw 63 rfl rfl) ii_Meaning ck_Meaning_starError
set_option maxRecDepth 100000 in
theorem gk_Meaning_172 : GoodIn ALL (wsV "SqlReader$Meaning" 172 y_Catalog_columnsOf.cls y_Catalog_columnsOf (.code y_Catalog_columnsOf prog_2_method_6_code 2 (some .int) :: ALL)) := gV (tw 1040 rfl rfl) (tw 386 rfl rfl) (tw 387 rfl rfl) ii_Catalog ck_Catalog_columnsOf
set_option maxRecDepth 100000 in
theorem gk_Meaning_175 : GoodIn ALL (va_wsS "SqlReader$Meaning" 175 y_Meaning_fits (.code y_Meaning_fits prog_4_method_18_code 2 (some .boolean) :: ALL)) := gS (tw 1041 rfl rfl) (tw 1042 rfl rfl) ii_Meaning ck_Meaning_fits
set_option maxRecDepth 100000 in
theorem gk_Meaning_118 : GoodIn ALL (wsV "SqlReader$Meaning" 118 y_Meaning_settingsError.cls y_Meaning_settingsError (.code y_Meaning_settingsError prog_4_method_14_code 4 (some .int) :: ALL)) := gV (tw 1044 rfl rfl) (tw 1046 rfl rfl) (sw 64 rfl rfl) ii_Meaning ck_Meaning_settingsError
set_option maxRecDepth 100000 in
theorem gk_Meaning_125 : GoodIn ALL (wsV "SqlReader$Meaning" 125 y_Meaning_judgeTo.cls y_Meaning_judgeTo (.code y_Meaning_judgeTo prog_4_method_15_code 4 (some .int) :: ALL)) := gV (tw 1048 rfl rfl) (tw 1050 rfl rfl) (sw 65 rfl rfl) ii_Meaning ck_Meaning_judgeTo
set_option maxRecDepth 100000 in
theorem gk_Meaning_179 : GoodIn ALL (wsV "SqlReader$Meaning" 179 y_Meaning_judge.cls y_Meaning_judge (.code y_Meaning_judge prog_4_method_16_code 4 (some .int) :: ALL)) := gV (tw 1052 rfl rfl) (tw 1054 rfl rfl) (sw 66 rfl rfl) ii_Meaning ck_Meaning_judge
set_option maxRecDepth 100000 in
theorem gk_Meaning_182 : GoodIn ALL (wsV "SqlReader$Meaning" 182 y_Nodes_faultOf.cls y_Nodes_faultOf (.code y_Nodes_faultOf prog_5_method_18_code 2 (some .int) :: ALL)) := gV (tw 1056 rfl rfl) (tw 1057 rfl rfl) (tw 1058 rfl rfl) ii_Nodes ck_Nodes_faultOf
set_option maxRecDepth 100000 in
theorem gk_Meaning_185 : GoodIn ALL (wsV "SqlReader$Meaning" 185 y_Meaning_operandsFit.cls y_Meaning_operandsFit (.code y_Meaning_operandsFit prog_4_method_17_code 5 (some .boolean) :: ALL)) := gV (tw 1060 rfl rfl) (tw 1062 rfl rfl) (sw 67 rfl rfl) ii_Meaning ck_Meaning_operandsFit
set_option maxRecDepth 100000 in
theorem gk_Meaning_195 : GoodIn ALL (va_wsS "SqlReader$Meaning" 195 y_Nodes_works (.code y_Nodes_works prog_5_method_2_code 1 (some .boolean) :: ALL)) := gS (tw 1064 rfl rfl) (tw 715 rfl rfl) ii_Nodes ck_Nodes_works
set_option maxRecDepth 100000 in
theorem gk_Meaning_189 : GoodIn ALL (wsV "SqlReader$Meaning" 189 y_Meaning_typeFor.cls y_Meaning_typeFor (.code y_Meaning_typeFor prog_4_method_19_code 4 (some .int) :: ALL)) := gV (tw 1065 rfl rfl) (tw 1067 rfl rfl) (sw 68 rfl rfl) ii_Meaning ck_Meaning_typeFor
set_option maxRecDepth 100000 in
theorem gk_Meaning_43 : GoodIn ALL (wsV "SqlReader$Meaning" 43 y_Meaning_measureError.cls y_Meaning_measureError (.code y_Meaning_measureError prog_4_method_25_code 4 (some .int) :: ALL)) := gV (tw 1069 rfl rfl) (tw 1071 rfl rfl) (sw 69 rfl rfl) ii_Meaning ck_Meaning_measureError
set_option maxRecDepth 100000 in
theorem gk_Meaning_239 : GoodIn ALL (wsV "SqlReader$Meaning" 239 y_Meaning_columnsOfStar.cls y_Meaning_columnsOfStar (.code y_Meaning_columnsOfStar prog_4_method_26_code 3 (some .int) :: ALL)) := gV (tw 1073 rfl rfl) (tw 1075 rfl rfl) (sw 70 rfl rfl) ii_Meaning ck_Meaning_columnsOfStar
set_option maxRecDepth 100000 in
theorem gk_Meaning_242 : GoodIn ALL (wsV "SqlReader$Meaning" 242 y_Meaning_spreadStar.cls y_Meaning_spreadStar (.code y_Meaning_spreadStar prog_4_method_27_code 5 none :: ALL)) := gV (tw 1077 rfl rfl) (tw 1079 rfl rfl) (sw 71 rfl rfl) ii_Meaning ck_Meaning_spreadStar
set_option maxRecDepth 100000 in
theorem gk_Meaning_258 : GoodIn ALL (wsV "SqlReader$Meaning" 258 y_Nodes_leaf.cls y_Nodes_leaf (.code y_Nodes_leaf prog_5_method_10_code 6 (some .int) :: ALL)) := gV (tw 1081 rfl rfl) (tw 619 rfl rfl) (tw 620 rfl rfl) ii_Nodes ck_Nodes_leaf
set_option maxRecDepth 100000 in
theorem gk_Meaning_248 : GoodIn ALL (wsV "SqlReader$Meaning" 248 y_Meaning_valuesMatch.cls y_Meaning_valuesMatch (.code y_Meaning_valuesMatch prog_4_method_28_code 5 (some .boolean) :: ALL)) := gV (tw 1082 rfl rfl) (tw 1084 rfl rfl) (sw 72 rfl rfl) ii_Meaning ck_Meaning_valuesMatch
set_option maxRecDepth 100000 in
theorem gk_Meaning_252 : GoodIn ALL (wsV "SqlReader$Meaning" 252 y_Meaning_namesDiffer.cls y_Meaning_namesDiffer (.code y_Meaning_namesDiffer prog_4_method_29_code 4 (some .boolean) :: ALL)) := gV (tw 1086 rfl rfl) (tw 1088 rfl rfl) (sw 73 rfl rfl) ii_Meaning ck_Meaning_namesDiffer
set_option maxRecDepth 100000 in
theorem gk_Meaning_255 : GoodIn ALL (wsV "SqlReader$Meaning" 255 y_Meaning_ordersMatch.cls y_Meaning_ordersMatch (.code y_Meaning_ordersMatch prog_4_method_30_code 3 (some .boolean) :: ALL)) := gV (tw 1090 rfl rfl) (tw 1092 rfl rfl) (sw 74 rfl rfl) ii_Meaning ck_Meaning_ordersMatch
set_option maxRecDepth 100000 in
theorem gk_Meaning_46 : GoodIn ALL (wsV "SqlReader$Meaning" 46 y_Meaning_groupError.cls y_Meaning_groupError (.code y_Meaning_groupError prog_4_method_31_code 5 (some .int) :: ALL)) := gV (tw 1094 rfl rfl) (tw 1096 rfl rfl) (sw 75 rfl rfl) ii_Meaning ck_Meaning_groupError
set_option maxRecDepth 100000 in
theorem gk_Meaning_262 : GoodIn ALL (va_wsS "SqlReader$Meaning" 262 y_Nodes_aggregates (.code y_Nodes_aggregates prog_5_method_3_code 1 (some .boolean) :: ALL)) := gS (tw 1098 rfl rfl) (tw 1099 rfl rfl) ii_Nodes ck_Nodes_aggregates
set_option maxRecDepth 100000 in
theorem gk_Meaning_265 : GoodIn ALL (wsV "SqlReader$Meaning" 265 y_Meaning_isAggregated.cls y_Meaning_isAggregated (.code y_Meaning_isAggregated prog_4_method_32_code 4 (some .boolean) :: ALL)) := gV (tw 1101 rfl rfl) (tw 1103 rfl rfl) (sw 76 rfl rfl) ii_Meaning ck_Meaning_isAggregated
set_option maxRecDepth 100000 in
theorem gk_Meaning_268 : GoodIn ALL (wsV "SqlReader$Meaning" 268 y_Meaning_itemsAreGrouped.cls y_Meaning_itemsAreGrouped (.code y_Meaning_itemsAreGrouped prog_4_method_33_code 6 (some .boolean) :: ALL)) := gV (tw 1105 rfl rfl) (tw 1107 rfl rfl) (sw 77 rfl rfl) ii_Meaning ck_Meaning_itemsAreGrouped
set_option maxRecDepth 100000 in
theorem gk_Meaning_277 : GoodIn ALL (wsV "SqlReader$Meaning" 277 y_Meaning_isGrouped.cls y_Meaning_isGrouped (.code y_Meaning_isGrouped prog_4_method_34_code 5 (some .boolean) :: ALL)) := gV (tw 1109 rfl rfl) (tw 1111 rfl rfl) (sw 78 rfl rfl) ii_Meaning ck_Meaning_isGrouped
set_option maxRecDepth 100000 in
theorem gk_SqlReaderLaw_34 : GoodIn ALL (wsV "SqlReaderLaw" 34 y_SqlReader_node.cls y_SqlReader_node (.code y_SqlReader_node prog_1_method_6_code 3 (some .int) :: ALL)) := gV (tw 1113 rfl rfl) (tw 1114 rfl rfl) (tw 1115 rfl rfl) ii_SqlReader ck_SqlReader_node
set_option maxRecDepth 100000 in
theorem gk_SqlReader_113 : GoodIn ALL (wsV "SqlReader" 113 y_Nodes_kindOf.cls y_Nodes_kindOf (.code y_Nodes_kindOf prog_5_method_12_code 2 (some .int) :: ALL)) := gV (tw 1117 rfl rfl) (tw 933 rfl rfl) (tw 934 rfl rfl) ii_Nodes ck_Nodes_kindOf
set_option maxRecDepth 100000 in
theorem gk_SqlReader_117 : GoodIn ALL (wsV "SqlReader" 117 y_Nodes_firstOf.cls y_Nodes_firstOf (.code y_Nodes_firstOf prog_5_method_13_code 2 (some .int) :: ALL)) := gV (tw 1118 rfl rfl) (tw 990 rfl rfl) (tw 991 rfl rfl) ii_Nodes ck_Nodes_firstOf
set_option maxRecDepth 100000 in
theorem gk_SqlReader_120 : GoodIn ALL (wsV "SqlReader" 120 y_Nodes_secondOf.cls y_Nodes_secondOf (.code y_Nodes_secondOf prog_5_method_14_code 2 (some .int) :: ALL)) := gV (tw 1119 rfl rfl) (tw 1011 rfl rfl) (tw 1012 rfl rfl) ii_Nodes ck_Nodes_secondOf
set_option maxRecDepth 100000 in
theorem gk_SqlReader_123 : GoodIn ALL (wsV "SqlReader" 123 y_Nodes_typeOf.cls y_Nodes_typeOf (.code y_Nodes_typeOf prog_5_method_15_code 2 (some .int) :: ALL)) := gV (tw 1120 rfl rfl) (tw 1019 rfl rfl) (tw 1020 rfl rfl) ii_Nodes ck_Nodes_typeOf
set_option maxRecDepth 100000 in
theorem gk_SqlReaderLaw_38 : GoodIn ALL (wsV "SqlReaderLaw" 38 y_SqlReader_value.cls y_SqlReader_value (.code y_SqlReader_value prog_1_method_7_code 3 (some .long) :: ALL)) := gV (tw 1121 rfl rfl) (tw 1122 rfl rfl) (tw 1123 rfl rfl) ii_SqlReader ck_SqlReader_value
set_option maxRecDepth 100000 in
theorem gk_SqlReader_126 : GoodIn ALL (wsV "SqlReader" 126 y_Nodes_spanOf.cls y_Nodes_spanOf (.code y_Nodes_spanOf prog_5_method_19_code 2 (some .int) :: ALL)) := gV (tw 1125 rfl rfl) (tw 945 rfl rfl) (tw 946 rfl rfl) ii_Nodes ck_Nodes_spanOf
set_option maxRecDepth 100000 in
theorem gk_SqlReader_129 : GoodIn ALL (wsV "SqlReader" 129 y_Tokens_numberOf.cls y_Tokens_numberOf (.code y_Tokens_numberOf prog_9_method_9_code 5 (some .long) :: ALL)) := gV (tw 1126 rfl rfl) (tw 651 rfl rfl) (tw 652 rfl rfl) ii_Tokens ck_Tokens_numberOf
set_option maxRecDepth 100000 in
theorem gk_SqlReader_133 : GoodIn ALL (va_wsS "SqlReader" 133 y_Text_sizeOf (.code y_Text_sizeOf prog_8_method_4_code 1 (some .int) :: ALL)) := gS (tw 1127 rfl rfl) (tw 355 rfl rfl) ii_Text ck_Text_sizeOf
set_option maxRecDepth 100000 in
theorem gk_SqlReaderLaw_43 : GoodIn ALL (wsV "SqlReaderLaw" 43 y_SqlReader_letter.cls y_SqlReader_letter (.code y_SqlReader_letter prog_1_method_8_code 3 (some .int) :: ALL)) := gV (tw 1128 rfl rfl) (tw 1129 rfl rfl) (tw 1130 rfl rfl) ii_SqlReader ck_SqlReader_letter
set_option maxRecDepth 100000 in
theorem gk_SqlReader_136 : GoodIn ALL (wsV "SqlReader" 136 y_Tokens_text.cls y_Tokens_text (.code y_Tokens_text prog_9_method_2_code 1 (some (.object "SqlReader$Text")) :: ALL)) := gV (tw 1132 rfl rfl) (tw 259 rfl rfl) (tw 260 rfl rfl) ii_Tokens ck_Tokens_text
set_option maxRecDepth 100000 in
theorem gk_SqlReader_140 : GoodIn ALL (wsV "SqlReader" 140 y_Text_letterAt.cls y_Text_letterAt (.code y_Text_letterAt prog_8_method_16_code 3 (some .int) :: ALL)) := gV (tw 1133 rfl rfl) (tw 1134 rfl rfl) (tw 1135 rfl rfl) ii_Text ck_Text_letterAt
set_option maxRecDepth 100000 in
theorem gk_SqlReaderLaw_47 : GoodIn ALL (wsV "SqlReaderLaw" 47 y_SqlReader_count.cls y_SqlReader_count (.code y_SqlReader_count prog_1_method_9_code 2 (some .int) :: ALL)) := gV (tw 1137 rfl rfl) (tw 1138 rfl rfl) (tw 1139 rfl rfl) ii_SqlReader ck_SqlReader_count
set_option maxRecDepth 100000 in
theorem gk_SqlReader_144 : GoodIn ALL (wsV "SqlReader" 144 y_Nodes_size.cls y_Nodes_size (.code y_Nodes_size prog_5_method_6_code 1 (some .int) :: ALL)) := gV (tw 1141 rfl rfl) (tw 610 rfl rfl) (tw 611 rfl rfl) ii_Nodes ck_Nodes_size
set_option maxRecDepth 100000 in
theorem gk_SqlReader_147 : GoodIn ALL (wsV "SqlReader" 147 y_Lists_size.cls y_Lists_size (.code y_Lists_size prog_3_method_4_code 2 (some .int) :: ALL)) := gV (tw 1142 rfl rfl) (tw 799 rfl rfl) (tw 800 rfl rfl) ii_Lists ck_Lists_size
set_option maxRecDepth 100000 in
theorem gk_SqlReaderLaw_52 : GoodIn ALL (wsV "SqlReaderLaw" 52 y_SqlReader_list.cls y_SqlReader_list (.code y_SqlReader_list prog_1_method_10_code 3 (some .int) :: ALL)) := gV (tw 1143 rfl rfl) (tw 1144 rfl rfl) (tw 1145 rfl rfl) ii_SqlReader ck_SqlReader_list
set_option maxRecDepth 100000 in
theorem gk_SqlReader_173 : GoodIn ALL (wsV "SqlReader" 173 y_Lists_at.cls y_Lists_at (.code y_Lists_at prog_3_method_6_code 4 (some .int) :: ALL)) := gV (tw 1147 rfl rfl) (tw 910 rfl rfl) (tw 911 rfl rfl) ii_Lists ck_Lists_at
set_option maxRecDepth 100000 in
theorem gk_SqlReaderLaw_56 : GoodIn ALL (wsV "SqlReaderLaw" 56 y_SqlReader_name.cls y_SqlReader_name (.code y_SqlReader_name prog_1_method_11_code 4 (some .int) :: ALL)) := gV (tw 1148 rfl rfl) (tw 1149 rfl rfl) (tw 1150 rfl rfl) ii_SqlReader ck_SqlReader_name
set_option maxRecDepth 100000 in
theorem gk_SqlReaderModel_130 : GoodIn ALL (wsV "SqlReaderModel" 130 y_SqlReaderModel_forget.cls y_SqlReaderModel_forget (.code y_SqlReaderModel_forget prog_11_method_2_code 2 none :: ALL)) := gV (tw 1158 rfl rfl) (tw 1160 rfl rfl) (sw 79 rfl rfl) ii_SqlReaderModel ck_SqlReaderModel_forget
set_option maxRecDepth 100000 in
theorem kc_SqlReaderModel_165 : Cond.constantLong "SqlReaderModel" 165 (-1) ∈ ALL := tw 1162 rfl rfl
set_option maxRecDepth 100000 in
theorem fl_SqlReaderModel_213 : Cond.fieldLink "SqlReaderModel" 213 "SqlReaderModel" "size" "I" ∈ ALL := tw 1163 rfl rfl
set_option maxRecDepth 100000 in
theorem fl_SqlReaderModel_7 : Cond.fieldLink "SqlReaderModel" 7 "SqlReaderModel" "text" "[B" ∈ ALL := tw 1164 rfl rfl
set_option maxRecDepth 100000 in
theorem fl_SqlReaderModel_223 : Cond.fieldLink "SqlReaderModel" 223 "SqlReaderModel" "tokens" "I" ∈ ALL := tw 1165 rfl rfl
set_option maxRecDepth 100000 in
theorem fl_SqlReaderModel_13 : Cond.fieldLink "SqlReaderModel" 13 "SqlReaderModel" "tokenKind" "[I" ∈ ALL := tw 1166 rfl rfl
set_option maxRecDepth 100000 in
theorem fl_SqlReaderModel_17 : Cond.fieldLink "SqlReaderModel" 17 "SqlReaderModel" "from" "[I" ∈ ALL := tw 1167 rfl rfl
set_option maxRecDepth 100000 in
theorem fl_SqlReaderModel_20 : Cond.fieldLink "SqlReaderModel" 20 "SqlReaderModel" "to" "[I" ∈ ALL := tw 1168 rfl rfl
set_option maxRecDepth 100000 in
theorem fl_SqlReaderModel_226 : Cond.fieldLink "SqlReaderModel" 226 "SqlReaderModel" "bad" "Z" ∈ ALL := tw 1169 rfl rfl
set_option maxRecDepth 100000 in
theorem fl_SqlReaderModel_265 : Cond.fieldLink "SqlReaderModel" 265 "SqlReaderModel" "tables" "I" ∈ ALL := tw 1170 rfl rfl
set_option maxRecDepth 100000 in
theorem fl_SqlReaderModel_23 : Cond.fieldLink "SqlReaderModel" 23 "SqlReaderModel" "tableNames" "[B" ∈ ALL := tw 1171 rfl rfl
set_option maxRecDepth 100000 in
theorem fl_SqlReaderModel_26 : Cond.fieldLink "SqlReaderModel" 26 "SqlReaderModel" "tableSize" "[I" ∈ ALL := tw 1172 rfl rfl
set_option maxRecDepth 100000 in
theorem fl_SqlReaderModel_29 : Cond.fieldLink "SqlReaderModel" 29 "SqlReaderModel" "width" "[I" ∈ ALL := tw 1173 rfl rfl
set_option maxRecDepth 100000 in
theorem fl_SqlReaderModel_32 : Cond.fieldLink "SqlReaderModel" 32 "SqlReaderModel" "columnNames" "[B" ∈ ALL := tw 1174 rfl rfl
set_option maxRecDepth 100000 in
theorem fl_SqlReaderModel_35 : Cond.fieldLink "SqlReaderModel" 35 "SqlReaderModel" "columnSize" "[I" ∈ ALL := tw 1175 rfl rfl
set_option maxRecDepth 100000 in
theorem fl_SqlReaderModel_38 : Cond.fieldLink "SqlReaderModel" 38 "SqlReaderModel" "columnType" "[I" ∈ ALL := tw 1176 rfl rfl
set_option maxRecDepth 100000 in
theorem fl_SqlReaderModel_133 : Cond.fieldLink "SqlReaderModel" 133 "SqlReaderModel" "nodes" "I" ∈ ALL := tw 1177 rfl rfl
set_option maxRecDepth 100000 in
theorem fl_SqlReaderModel_41 : Cond.fieldLink "SqlReaderModel" 41 "SqlReaderModel" "kind" "[I" ∈ ALL := tw 1178 rfl rfl
set_option maxRecDepth 100000 in
theorem fl_SqlReaderModel_44 : Cond.fieldLink "SqlReaderModel" 44 "SqlReaderModel" "left" "[I" ∈ ALL := tw 1179 rfl rfl
set_option maxRecDepth 100000 in
theorem fl_SqlReaderModel_47 : Cond.fieldLink "SqlReaderModel" 47 "SqlReaderModel" "right" "[I" ∈ ALL := tw 1180 rfl rfl
set_option maxRecDepth 100000 in
theorem fl_SqlReaderModel_50 : Cond.fieldLink "SqlReaderModel" 50 "SqlReaderModel" "type" "[I" ∈ ALL := tw 1181 rfl rfl
set_option maxRecDepth 100000 in
theorem fl_SqlReaderModel_53 : Cond.fieldLink "SqlReaderModel" 53 "SqlReaderModel" "before" "[I" ∈ ALL := tw 1182 rfl rfl
set_option maxRecDepth 100000 in
theorem fl_SqlReaderModel_56 : Cond.fieldLink "SqlReaderModel" 56 "SqlReaderModel" "named" "[I" ∈ ALL := tw 1183 rfl rfl
set_option maxRecDepth 100000 in
theorem fl_SqlReaderModel_59 : Cond.fieldLink "SqlReaderModel" 59 "SqlReaderModel" "number" "[J" ∈ ALL := tw 1184 rfl rfl
set_option maxRecDepth 100000 in
theorem fl_SqlReaderModel_63 : Cond.fieldLink "SqlReaderModel" 63 "SqlReaderModel" "letters" "[B" ∈ ALL := tw 1185 rfl rfl
set_option maxRecDepth 100000 in
theorem fl_SqlReaderModel_66 : Cond.fieldLink "SqlReaderModel" 66 "SqlReaderModel" "length" "[I" ∈ ALL := tw 1186 rfl rfl
set_option maxRecDepth 100000 in
theorem fl_SqlReaderModel_137 : Cond.fieldLink "SqlReaderModel" 137 "SqlReaderModel" "checks" "I" ∈ ALL := tw 1187 rfl rfl
set_option maxRecDepth 100000 in
theorem fl_SqlReaderModel_69 : Cond.fieldLink "SqlReaderModel" 69 "SqlReaderModel" "check" "[I" ∈ ALL := tw 1188 rfl rfl
set_option maxRecDepth 100000 in
theorem fl_SqlReaderModel_72 : Cond.fieldLink "SqlReaderModel" 72 "SqlReaderModel" "first" "[I" ∈ ALL := tw 1189 rfl rfl
set_option maxRecDepth 100000 in
theorem fl_SqlReaderModel_75 : Cond.fieldLink "SqlReaderModel" 75 "SqlReaderModel" "second" "[I" ∈ ALL := tw 1190 rfl rfl
set_option maxRecDepth 100000 in
theorem fl_SqlReaderModel_652 : Cond.fieldLink "SqlReaderModel" 652 "SqlReaderModel" "error" "I" ∈ ALL := tw 1191 rfl rfl
set_option maxRecDepth 100000 in
theorem fl_SqlReaderModel_140 : Cond.fieldLink "SqlReaderModel" 140 "SqlReaderModel" "what" "I" ∈ ALL := tw 1192 rfl rfl
set_option maxRecDepth 100000 in
theorem fl_SqlReaderModel_143 : Cond.fieldLink "SqlReaderModel" 143 "SqlReaderModel" "inner" "I" ∈ ALL := tw 1193 rfl rfl
set_option maxRecDepth 100000 in
theorem fl_SqlReaderModel_146 : Cond.fieldLink "SqlReaderModel" 146 "SqlReaderModel" "target" "I" ∈ ALL := tw 1194 rfl rfl
set_option maxRecDepth 100000 in
theorem fl_SqlReaderModel_149 : Cond.fieldLink "SqlReaderModel" 149 "SqlReaderModel" "targetToken" "I" ∈ ALL := tw 1195 rfl rfl
set_option maxRecDepth 100000 in
theorem fl_SqlReaderModel_152 : Cond.fieldLink "SqlReaderModel" 152 "SqlReaderModel" "mode" "I" ∈ ALL := tw 1196 rfl rfl
set_option maxRecDepth 100000 in
theorem fl_SqlReaderModel_155 : Cond.fieldLink "SqlReaderModel" 155 "SqlReaderModel" "named0" "I" ∈ ALL := tw 1197 rfl rfl
set_option maxRecDepth 100000 in
theorem fl_SqlReaderModel_158 : Cond.fieldLink "SqlReaderModel" 158 "SqlReaderModel" "star" "Z" ∈ ALL := tw 1198 rfl rfl
set_option maxRecDepth 100000 in
theorem fl_SqlReaderModel_162 : Cond.fieldLink "SqlReaderModel" 162 "SqlReaderModel" "distinct" "Z" ∈ ALL := tw 1199 rfl rfl
set_option maxRecDepth 100000 in
theorem fl_SqlReaderModel_167 : Cond.fieldLink "SqlReaderModel" 167 "SqlReaderModel" "limit" "J" ∈ ALL := tw 1200 rfl rfl
set_option maxRecDepth 100000 in
theorem fl_SqlReaderModel_171 : Cond.fieldLink "SqlReaderModel" 171 "SqlReaderModel" "where" "I" ∈ ALL := tw 1201 rfl rfl
set_option maxRecDepth 100000 in
theorem fl_SqlReaderModel_174 : Cond.fieldLink "SqlReaderModel" 174 "SqlReaderModel" "items" "I" ∈ ALL := tw 1202 rfl rfl
set_option maxRecDepth 100000 in
theorem fl_SqlReaderModel_78 : Cond.fieldLink "SqlReaderModel" 78 "SqlReaderModel" "item" "[I" ∈ ALL := tw 1203 rfl rfl
set_option maxRecDepth 100000 in
theorem fl_SqlReaderModel_177 : Cond.fieldLink "SqlReaderModel" 177 "SqlReaderModel" "groups" "I" ∈ ALL := tw 1204 rfl rfl
set_option maxRecDepth 100000 in
theorem fl_SqlReaderModel_81 : Cond.fieldLink "SqlReaderModel" 81 "SqlReaderModel" "group" "[I" ∈ ALL := tw 1205 rfl rfl
set_option maxRecDepth 100000 in
theorem fl_SqlReaderModel_180 : Cond.fieldLink "SqlReaderModel" 180 "SqlReaderModel" "orders" "I" ∈ ALL := tw 1206 rfl rfl
set_option maxRecDepth 100000 in
theorem fl_SqlReaderModel_84 : Cond.fieldLink "SqlReaderModel" 84 "SqlReaderModel" "order" "[J" ∈ ALL := tw 1207 rfl rfl
set_option maxRecDepth 100000 in
theorem fl_SqlReaderModel_87 : Cond.fieldLink "SqlReaderModel" 87 "SqlReaderModel" "falls" "[Z" ∈ ALL := tw 1208 rfl rfl
set_option maxRecDepth 100000 in
theorem fl_SqlReaderModel_183 : Cond.fieldLink "SqlReaderModel" 183 "SqlReaderModel" "froms" "I" ∈ ALL := tw 1209 rfl rfl
set_option maxRecDepth 100000 in
theorem fl_SqlReaderModel_91 : Cond.fieldLink "SqlReaderModel" 91 "SqlReaderModel" "fromTable" "[I" ∈ ALL := tw 1210 rfl rfl
set_option maxRecDepth 100000 in
theorem fl_SqlReaderModel_94 : Cond.fieldLink "SqlReaderModel" 94 "SqlReaderModel" "fromToken" "[I" ∈ ALL := tw 1211 rfl rfl
set_option maxRecDepth 100000 in
theorem fl_SqlReaderModel_97 : Cond.fieldLink "SqlReaderModel" 97 "SqlReaderModel" "alias" "[I" ∈ ALL := tw 1212 rfl rfl
set_option maxRecDepth 100000 in
theorem fl_SqlReaderModel_186 : Cond.fieldLink "SqlReaderModel" 186 "SqlReaderModel" "sets" "I" ∈ ALL := tw 1213 rfl rfl
set_option maxRecDepth 100000 in
theorem fl_SqlReaderModel_100 : Cond.fieldLink "SqlReaderModel" 100 "SqlReaderModel" "setToken" "[I" ∈ ALL := tw 1214 rfl rfl
set_option maxRecDepth 100000 in
theorem fl_SqlReaderModel_103 : Cond.fieldLink "SqlReaderModel" 103 "SqlReaderModel" "setColumn" "[I" ∈ ALL := tw 1215 rfl rfl
set_option maxRecDepth 100000 in
theorem fl_SqlReaderModel_106 : Cond.fieldLink "SqlReaderModel" 106 "SqlReaderModel" "setNode" "[I" ∈ ALL := tw 1216 rfl rfl
set_option maxRecDepth 100000 in
theorem fl_SqlReaderModel_189 : Cond.fieldLink "SqlReaderModel" 189 "SqlReaderModel" "rows" "I" ∈ ALL := tw 1217 rfl rfl
set_option maxRecDepth 100000 in
theorem fl_SqlReaderModel_192 : Cond.fieldLink "SqlReaderModel" 192 "SqlReaderModel" "uneven" "Z" ∈ ALL := tw 1218 rfl rfl
set_option maxRecDepth 100000 in
theorem fl_SqlReaderModel_195 : Cond.fieldLink "SqlReaderModel" 195 "SqlReaderModel" "values" "I" ∈ ALL := tw 1219 rfl rfl
set_option maxRecDepth 100000 in
theorem fl_SqlReaderModel_109 : Cond.fieldLink "SqlReaderModel" 109 "SqlReaderModel" "value" "[I" ∈ ALL := tw 1220 rfl rfl
set_option maxRecDepth 100000 in
theorem fl_SqlReaderModel_198 : Cond.fieldLink "SqlReaderModel" 198 "SqlReaderModel" "columns" "I" ∈ ALL := tw 1221 rfl rfl
set_option maxRecDepth 100000 in
theorem fl_SqlReaderModel_112 : Cond.fieldLink "SqlReaderModel" 112 "SqlReaderModel" "newToken" "[I" ∈ ALL := tw 1222 rfl rfl
set_option maxRecDepth 100000 in
theorem fl_SqlReaderModel_115 : Cond.fieldLink "SqlReaderModel" 115 "SqlReaderModel" "newType" "[I" ∈ ALL := tw 1223 rfl rfl
set_option maxRecDepth 100000 in
theorem fl_SqlReaderModel_201 : Cond.fieldLink "SqlReaderModel" 201 "SqlReaderModel" "indexed" "I" ∈ ALL := tw 1224 rfl rfl
set_option maxRecDepth 100000 in
theorem fl_SqlReaderModel_204 : Cond.fieldLink "SqlReaderModel" 204 "SqlReaderModel" "indexedToken" "I" ∈ ALL := tw 1225 rfl rfl
set_option maxRecDepth 100000 in
theorem fl_SqlReaderModel_207 : Cond.fieldLink "SqlReaderModel" 207 "SqlReaderModel" "unique" "Z" ∈ ALL := tw 1226 rfl rfl
set_option maxRecDepth 100000 in
theorem fl_SqlReaderModel_210 : Cond.fieldLink "SqlReaderModel" 210 "SqlReaderModel" "highest" "I" ∈ ALL := tw 1227 rfl rfl
set_option maxRecDepth 100000 in
theorem fl_SqlReaderModel_118 : Cond.fieldLink "SqlReaderModel" 118 "SqlReaderModel" "needed" "[I" ∈ ALL := tw 1228 rfl rfl
set_option maxRecDepth 100000 in
theorem fl_SqlReaderModel_400 : Cond.fieldLink "SqlReaderModel" 400 "SqlReaderModel" "inItems" "Z" ∈ ALL := tw 1229 rfl rfl
set_option maxRecDepth 100000 in
theorem fl_SqlReaderModel_419 : Cond.fieldLink "SqlReaderModel" 419 "SqlReaderModel" "place" "I" ∈ ALL := tw 1230 rfl rfl
set_option maxRecDepth 100000 in
theorem fl_SqlReaderModel_121 : Cond.fieldLink "SqlReaderModel" 121 "SqlReaderModel" "in" "[Z" ∈ ALL := tw 1231 rfl rfl
set_option maxRecDepth 100000 in
theorem fl_SqlReaderModel_124 : Cond.fieldLink "SqlReaderModel" 124 "SqlReaderModel" "kept" "[B" ∈ ALL := tw 1232 rfl rfl
set_option maxRecDepth 100000 in
theorem fl_SqlReaderModel_127 : Cond.fieldLink "SqlReaderModel" 127 "SqlReaderModel" "keptSize" "[I" ∈ ALL := tw 1233 rfl rfl
set_option maxRecDepth 100000 in
theorem gk_SqlReaderLaw_19 : GoodIn ALL (wsV "SqlReaderLaw" 19 y_SqlReaderModel_type.cls y_SqlReaderModel_type (.code y_SqlReaderModel_type prog_11_method_3_code 5 (some .boolean) :: ALL)) := gV (tw 1379 rfl rfl) (tw 1380 rfl rfl) (tw 1381 rfl rfl) ii_SqlReaderModel ck_SqlReaderModel_type
set_option maxRecDepth 100000 in
theorem gk_SqlReaderLaw_24 : GoodIn ALL (wsV "SqlReaderLaw" 24 y_SqlReaderModel_table.cls y_SqlReaderModel_table (.code y_SqlReaderModel_table prog_11_method_21_code 2 (some .int) :: ALL)) := gV (tw 1383 rfl rfl) (tw 1384 rfl rfl) (tw 1385 rfl rfl) ii_SqlReaderModel ck_SqlReaderModel_table
set_option maxRecDepth 100000 in
theorem gk_SqlReaderModel_272 : GoodIn ALL (wsV "SqlReaderModel" 272 y_SqlReaderModel_takesName.cls y_SqlReaderModel_takesName (.code y_SqlReaderModel_takesName prog_11_method_18_code 2 (some .boolean) :: ALL)) := gV (tw 1387 rfl rfl) (tw 1389 rfl rfl) (sw 80 rfl rfl) ii_SqlReaderModel ck_SqlReaderModel_takesName
set_option maxRecDepth 100000 in
theorem gk_SqlReaderModel_262 : GoodIn ALL (wsV "SqlReaderModel" 262 y_SqlReaderModel_cut.cls y_SqlReaderModel_cut (.code y_SqlReaderModel_cut prog_11_method_10_code 5 none :: ALL)) := gV (tw 1391 rfl rfl) (tw 1393 rfl rfl) (sw 81 rfl rfl) ii_SqlReaderModel ck_SqlReaderModel_cut
set_option maxRecDepth 100000 in
theorem gk_SqlReaderModel_229 : GoodIn ALL (wsV "SqlReaderModel" 229 y_SqlReaderModel_cutText.cls y_SqlReaderModel_cutText (.code y_SqlReaderModel_cutText prog_11_method_12_code 6 (some .int) :: ALL)) := gV (tw 1395 rfl rfl) (tw 1397 rfl rfl) (sw 82 rfl rfl) ii_SqlReaderModel ck_SqlReaderModel_cutText
set_option maxRecDepth 100000 in
theorem gk_SqlReaderModel_236 : GoodIn ALL (wsV "SqlReaderModel" 236 y_SqlReaderModel_at.cls y_SqlReaderModel_at (.code y_SqlReaderModel_at prog_11_method_8_code 2 (some .int) :: ALL)) := gV (tw 1399 rfl rfl) (tw 1401 rfl rfl) (sw 83 rfl rfl) ii_SqlReaderModel ck_SqlReaderModel_at
set_option maxRecDepth 100000 in
theorem gk_SqlReaderModel_245 : GoodIn ALL (wsV "SqlReaderModel" 245 y_SqlReaderModel_token.cls y_SqlReaderModel_token (.code y_SqlReaderModel_token prog_11_method_9_code 4 none :: ALL)) := gV (tw 1403 rfl rfl) (tw 1405 rfl rfl) (sw 84 rfl rfl) ii_SqlReaderModel ck_SqlReaderModel_token
set_option maxRecDepth 100000 in
theorem gk_SqlReaderModel_233 : GoodIn ALL (va_wsS "SqlReaderModel" 233 y_SqlReaderModel_isCapital (.code y_SqlReaderModel_isCapital prog_11_method_4_code 1 (some .boolean) :: ALL)) := gS (tw 1407 rfl rfl) (tw 1408 rfl rfl) ii_SqlReaderModel ck_SqlReaderModel_isCapital
set_option maxRecDepth 100000 in
theorem gk_SqlReaderModel_216 : GoodIn ALL (va_wsS "SqlReaderModel" 216 y_SqlReaderModel_isSmall (.code y_SqlReaderModel_isSmall prog_11_method_5_code 1 (some .boolean) :: ALL)) := gS (tw 1410 rfl rfl) (tw 1411 rfl rfl) ii_SqlReaderModel ck_SqlReaderModel_isSmall
set_option maxRecDepth 100000 in
theorem gk_SqlReaderModel_220 : GoodIn ALL (va_wsS "SqlReaderModel" 220 y_SqlReaderModel_isDigit (.code y_SqlReaderModel_isDigit prog_11_method_6_code 1 (some .boolean) :: ALL)) := gS (tw 1413 rfl rfl) (tw 1414 rfl rfl) ii_SqlReaderModel ck_SqlReaderModel_isDigit
set_option maxRecDepth 100000 in
theorem gk_SqlReaderModel_239 : GoodIn ALL (va_wsS "SqlReaderModel" 239 y_SqlReaderModel_isInName (.code y_SqlReaderModel_isInName prog_11_method_7_code 1 (some .boolean) :: ALL)) := gS (tw 1416 rfl rfl) (tw 1417 rfl rfl) ii_SqlReaderModel ck_SqlReaderModel_isInName
set_option maxRecDepth 100000 in
theorem gk_SqlReaderModel_242 : GoodIn ALL (wsV "SqlReaderModel" 242 y_SqlReaderModel_signEnd.cls y_SqlReaderModel_signEnd (.code y_SqlReaderModel_signEnd prog_11_method_11_code 5 (some .int) :: ALL)) := gV (tw 1419 rfl rfl) (tw 1421 rfl rfl) (sw 85 rfl rfl) ii_SqlReaderModel ck_SqlReaderModel_signEnd
set_option maxRecDepth 100000 in
theorem gk_SqlReaderModel_276 : GoodIn ALL (wsV "SqlReaderModel" 276 y_SqlReaderModel_tableOf.cls y_SqlReaderModel_tableOf (.code y_SqlReaderModel_tableOf prog_11_method_19_code 4 (some .int) :: ALL)) := gV (tw 1423 rfl rfl) (tw 1425 rfl rfl) (sw 86 rfl rfl) ii_SqlReaderModel ck_SqlReaderModel_tableOf
set_option maxRecDepth 100000 in
theorem gk_SqlReaderModel_268 : GoodIn ALL (wsV "SqlReaderModel" 268 y_SqlReaderModel_isName.cls y_SqlReaderModel_isName (.code y_SqlReaderModel_isName prog_11_method_16_code 7 (some .boolean) :: ALL)) := gV (tw 1427 rfl rfl) (tw 1429 rfl rfl) (sw 87 rfl rfl) ii_SqlReaderModel ck_SqlReaderModel_isName
set_option maxRecDepth 100000 in
theorem gk_SqlReaderLaw_29 : GoodIn ALL (wsV "SqlReaderLaw" 29 y_SqlReaderModel_column.cls y_SqlReaderModel_column (.code y_SqlReaderModel_column prog_11_method_22_code 6 (some .int) :: ALL)) := gV (tw 1431 rfl rfl) (tw 1432 rfl rfl) (tw 1433 rfl rfl) ii_SqlReaderModel ck_SqlReaderModel_column
set_option maxRecDepth 100000 in
theorem gk_SqlReaderModel_279 : GoodIn ALL (wsV "SqlReaderModel" 279 y_SqlReaderModel_columnOf.cls y_SqlReaderModel_columnOf (.code y_SqlReaderModel_columnOf prog_11_method_20_code 5 (some .int) :: ALL)) := gV (tw 1435 rfl rfl) (tw 1437 rfl rfl) (sw 88 rfl rfl) ii_SqlReaderModel ck_SqlReaderModel_columnOf
set_option maxRecDepth 100000 in
theorem gk_SqlReaderLaw_33 : GoodIn ALL (wsV "SqlReaderLaw" 33 y_SqlReaderModel_read.cls y_SqlReaderModel_read (.code y_SqlReaderModel_read prog_11_method_86_code 2 (some .int) :: ALL)) := gV (tw 1439 rfl rfl) (tw 1440 rfl rfl) (tw 1441 rfl rfl) ii_SqlReaderModel ck_SqlReaderModel_read
set_option maxRecDepth 100000 in
theorem gk_SqlReaderModel_649 : GoodIn ALL (wsV "SqlReaderModel" 649 y_SqlReaderModel_fault.cls y_SqlReaderModel_fault (.code y_SqlReaderModel_fault prog_11_method_84_code 4 (some .int) :: ALL)) := gV (tw 1443 rfl rfl) (tw 1445 rfl rfl) (sw 89 rfl rfl) ii_SqlReaderModel ck_SqlReaderModel_fault
set_option maxRecDepth 100000 in
theorem gk_SqlReaderModel_570 : GoodIn ALL (wsV "SqlReaderModel" 570 y_SqlReaderModel_readDeed.cls y_SqlReaderModel_readDeed (.code y_SqlReaderModel_readDeed prog_11_method_60_code 1 (some .boolean) :: ALL)) := gV (tw 1447 rfl rfl) (tw 1449 rfl rfl) (sw 90 rfl rfl) ii_SqlReaderModel ck_SqlReaderModel_readDeed
set_option maxRecDepth 100000 in
theorem gk_SqlReaderModel_421 : GoodIn ALL (wsV "SqlReaderModel" 421 y_SqlReaderModel_takes.cls y_SqlReaderModel_takes (.code y_SqlReaderModel_takes prog_11_method_42_code 3 (some .boolean) :: ALL)) := gV (tw 1452 rfl rfl) (tw 1454 rfl rfl) (sw 91 rfl rfl) ii_SqlReaderModel ck_SqlReaderModel_takes
set_option maxRecDepth 100000 in
theorem gk_SqlReaderModel_293 : GoodIn ALL (wsV "SqlReaderModel" 293 y_SqlReaderModel_is.cls y_SqlReaderModel_is (.code y_SqlReaderModel_is prog_11_method_13_code 5 (some .boolean) :: ALL)) := gV (tw 1456 rfl rfl) (tw 1458 rfl rfl) (sw 92 rfl rfl) ii_SqlReaderModel ck_SqlReaderModel_is
set_option maxRecDepth 100000 in
theorem gk_SqlReaderModel_249 : GoodIn ALL (wsV "SqlReaderModel" 249 y_String_length.cls y_String_length (.code y_String_length prog_14_method_54_code 1 (some .int) :: ALL)) := gV (tw 1460 rfl rfl) (tw 477 rfl rfl) (tw 478 rfl rfl) ii_String ck_String_length
set_option maxRecDepth 100000 in
theorem gk_SqlReaderModel_254 : GoodIn ALL (wsV "SqlReaderModel" 254 y_String_charAt.cls y_String_charAt (.code y_String_charAt prog_14_method_56_code 2 (some .char) :: ALL)) := gV (tw 1461 rfl rfl) (tw 561 rfl rfl) (tw 562 rfl rfl) ii_String ck_String_charAt
set_option maxRecDepth 100000 in
theorem gk_SqlReaderModel_527 : GoodIn ALL (wsV "SqlReaderModel" 527 y_SqlReaderModel_readInsert.cls y_SqlReaderModel_readInsert (.code y_SqlReaderModel_readInsert prog_11_method_50_code 1 none :: ALL)) := gV (tw 1462 rfl rfl) (tw 1464 rfl rfl) (sw 93 rfl rfl) ii_SqlReaderModel ck_SqlReaderModel_readInsert
set_option maxRecDepth 100000 in
theorem gk_SqlReaderModel_450 : GoodIn ALL (wsV "SqlReaderModel" 450 y_SqlReaderModel_need.cls y_SqlReaderModel_need (.code y_SqlReaderModel_need prog_11_method_43_code 2 none :: ALL)) := gV (tw 1467 rfl rfl) (tw 1469 rfl rfl) (sw 94 rfl rfl) ii_SqlReaderModel ck_SqlReaderModel_need
set_option maxRecDepth 100000 in
theorem gk_SqlReaderModel_447 : GoodIn ALL (wsV "SqlReaderModel" 447 y_SqlReaderModel_needName.cls y_SqlReaderModel_needName (.code y_SqlReaderModel_needName prog_11_method_44_code 1 (some .int) :: ALL)) := gV (tw 1471 rfl rfl) (tw 1473 rfl rfl) (sw 95 rfl rfl) ii_SqlReaderModel ck_SqlReaderModel_needName
set_option maxRecDepth 100000 in
theorem gk_SqlReaderModel_403 : GoodIn ALL (wsV "SqlReaderModel" 403 y_SqlReaderModel_isKind.cls y_SqlReaderModel_isKind (.code y_SqlReaderModel_isKind prog_11_method_14_code 3 (some .boolean) :: ALL)) := gV (tw 1475 rfl rfl) (tw 1477 rfl rfl) (sw 96 rfl rfl) ii_SqlReaderModel ck_SqlReaderModel_isKind
set_option maxRecDepth 100000 in
theorem gk_SqlReaderModel_470 : GoodIn ALL (wsV "SqlReaderModel" 470 y_SqlReaderModel_readRows.cls y_SqlReaderModel_readRows (.code y_SqlReaderModel_readRows prog_11_method_49_code 4 none :: ALL)) := gV (tw 1480 rfl rfl) (tw 1482 rfl rfl) (sw 97 rfl rfl) ii_SqlReaderModel ck_SqlReaderModel_readRows
set_option maxRecDepth 100000 in
theorem gk_SqlReaderModel_442 : GoodIn ALL (wsV "SqlReaderModel" 442 y_SqlReaderModel_expression.cls y_SqlReaderModel_expression (.code y_SqlReaderModel_expression prog_11_method_46_code 3 (some .int) :: ALL)) := gV (tw 1485 rfl rfl) (tw 1487 rfl rfl) (sw 98 rfl rfl) ii_SqlReaderModel ck_SqlReaderModel_expression
set_option maxRecDepth 100000 in
theorem gk_SqlReaderModel_439 : GoodIn ALL (wsV "SqlReaderModel" 439 y_SqlReaderModel_reach.cls y_SqlReaderModel_reach (.code y_SqlReaderModel_reach prog_11_method_45_code 4 (some .int) :: ALL)) := gV (tw 1489 rfl rfl) (tw 1491 rfl rfl) (sw 99 rfl rfl) ii_SqlReaderModel ck_SqlReaderModel_reach
set_option maxRecDepth 100000 in
theorem gk_SqlReaderModel_334 : GoodIn ALL (wsV "SqlReaderModel" 334 y_SqlReaderModel_opens.cls y_SqlReaderModel_opens (.code y_SqlReaderModel_opens prog_11_method_26_code 2 (some .int) :: ALL)) := gV (tw 1502 rfl rfl) (tw 1504 rfl rfl) (sw 100 rfl rfl) ii_SqlReaderModel ck_SqlReaderModel_opens
set_option maxRecDepth 100000 in
theorem gk_SqlReaderModel_330 : GoodIn ALL (va_wsS "SqlReaderModel" 330 y_SqlReaderModel_part (.code y_SqlReaderModel_part prog_11_method_30_code 5 (some .int) :: ALL)) := gS (tw 1506 rfl rfl) (tw 1507 rfl rfl) ii_SqlReaderModel ck_SqlReaderModel_part
set_option maxRecDepth 100000 in
theorem gk_SqlReaderModel_337 : GoodIn ALL (va_wsS "SqlReaderModel" 337 y_SqlReaderModel_prefixed (.code y_SqlReaderModel_prefixed prog_11_method_31_code 8 (some .int) :: ALL)) := gS (tw 1509 rfl rfl) (tw 1510 rfl rfl) ii_SqlReaderModel ck_SqlReaderModel_prefixed
set_option maxRecDepth 100000 in
theorem gk_SqlReaderModel_287 : GoodIn ALL (wsV "SqlReaderModel" 287 y_SqlReaderModel_add.cls y_SqlReaderModel_add (.code y_SqlReaderModel_add prog_11_method_24_code 4 (some .int) :: ALL)) := gV (tw 1514 rfl rfl) (tw 1516 rfl rfl) (sw 101 rfl rfl) ii_SqlReaderModel ck_SqlReaderModel_add
set_option maxRecDepth 100000 in
theorem gk_SqlReaderModel_283 : GoodIn ALL (wsV "SqlReaderModel" 283 y_SqlReaderModel_note.cls y_SqlReaderModel_note (.code y_SqlReaderModel_note prog_11_method_23_code 4 none :: ALL)) := gV (tw 1518 rfl rfl) (tw 1520 rfl rfl) (sw 102 rfl rfl) ii_SqlReaderModel ck_SqlReaderModel_note
set_option maxRecDepth 100000 in
theorem gk_SqlReaderModel_340 : GoodIn ALL (va_wsS "SqlReaderModel" 340 y_SqlReaderModel_comparison (.code y_SqlReaderModel_comparison prog_11_method_35_code 16 (some .int) :: ALL)) := gS (tw 1522 rfl rfl) (tw 1523 rfl rfl) ii_SqlReaderModel ck_SqlReaderModel_comparison
set_option maxRecDepth 100000 in
theorem gk_SqlReaderModel_371 : GoodIn ALL (wsV "SqlReaderModel" 371 y_SqlReaderModel_firstComparison.cls y_SqlReaderModel_firstComparison (.code y_SqlReaderModel_firstComparison prog_11_method_33_code 6 (some .int) :: ALL)) := gV (tw 1525 rfl rfl) (tw 1527 rfl rfl) (sw 103 rfl rfl) ii_SqlReaderModel ck_SqlReaderModel_firstComparison
set_option maxRecDepth 100000 in
theorem gk_SqlReaderModel_364 : GoodIn ALL (wsV "SqlReaderModel" 364 y_SqlReaderModel_compares.cls y_SqlReaderModel_compares (.code y_SqlReaderModel_compares prog_11_method_32_code 2 (some .int) :: ALL)) := gV (tw 1529 rfl rfl) (tw 1531 rfl rfl) (sw 104 rfl rfl) ii_SqlReaderModel ck_SqlReaderModel_compares
set_option maxRecDepth 100000 in
theorem gk_SqlReaderModel_374 : GoodIn ALL (wsV "SqlReaderModel" 374 y_SqlReaderModel_find.cls y_SqlReaderModel_find (.code y_SqlReaderModel_find prog_11_method_34_code 6 (some .int) :: ALL)) := gV (tw 1544 rfl rfl) (tw 1546 rfl rfl) (sw 105 rfl rfl) ii_SqlReaderModel ck_SqlReaderModel_find
set_option maxRecDepth 100000 in
theorem gk_SqlReaderModel_378 : GoodIn ALL (wsV "SqlReaderModel" 378 y_SqlReaderModel_again.cls y_SqlReaderModel_again (.code y_SqlReaderModel_again prog_11_method_25_code 9 (some .int) :: ALL)) := gV (tw 1548 rfl rfl) (tw 1550 rfl rfl) (sw 106 rfl rfl) ii_SqlReaderModel ck_SqlReaderModel_again
set_option maxRecDepth 100000 in
theorem kc_SqlReaderModel_286 : Cond.constant "SqlReaderModel" 286 (100000) ∈ ALL := tw 1552 rfl rfl
set_option maxRecDepth 100000 in
theorem gk_SqlReaderModel_381 : GoodIn ALL (va_wsS "SqlReaderModel" 381 y_SqlReaderModel_in (.code y_SqlReaderModel_in prog_11_method_36_code 13 (some .int) :: ALL)) := gS (tw 1553 rfl rfl) (tw 1554 rfl rfl) ii_SqlReaderModel ck_SqlReaderModel_in
set_option maxRecDepth 100000 in
theorem gk_SqlReaderModel_384 : GoodIn ALL (wsV "SqlReaderModel" 384 y_SqlReaderModel_closing.cls y_SqlReaderModel_closing (.code y_SqlReaderModel_closing prog_11_method_37_code 5 (some .int) :: ALL)) := gV (tw 1556 rfl rfl) (tw 1558 rfl rfl) (sw 107 rfl rfl) ii_SqlReaderModel ck_SqlReaderModel_closing
set_option maxRecDepth 100000 in
theorem gk_SqlReaderModel_344 : GoodIn ALL (va_wsS "SqlReaderModel" 344 y_SqlReaderModel_primary (.code y_SqlReaderModel_primary prog_11_method_39_code 6 (some .int) :: ALL)) := gS (tw 1560 rfl rfl) (tw 1561 rfl rfl) ii_SqlReaderModel ck_SqlReaderModel_primary
set_option maxRecDepth 100000 in
theorem gk_SqlReaderModel_397 : GoodIn ALL (wsV "SqlReaderModel" 397 y_SqlReaderModel_gathers.cls y_SqlReaderModel_gathers (.code y_SqlReaderModel_gathers prog_11_method_38_code 2 (some .int) :: ALL)) := gV (tw 1563 rfl rfl) (tw 1565 rfl rfl) (sw 108 rfl rfl) ii_SqlReaderModel ck_SqlReaderModel_gathers
set_option maxRecDepth 100000 in
theorem gk_SqlReaderModel_409 : GoodIn ALL (wsV "SqlReaderModel" 409 y_SqlReaderModel_place.cls y_SqlReaderModel_place (.code y_SqlReaderModel_place prog_11_method_40_code 4 (some .int) :: ALL)) := gV (tw 1573 rfl rfl) (tw 1575 rfl rfl) (sw 109 rfl rfl) ii_SqlReaderModel ck_SqlReaderModel_place
set_option maxRecDepth 100000 in
theorem gk_SqlReaderModel_412 : GoodIn ALL (wsV "SqlReaderModel" 412 y_SqlReaderModel_constant.cls y_SqlReaderModel_constant (.code y_SqlReaderModel_constant prog_11_method_41_code 6 (some .int) :: ALL)) := gV (tw 1577 rfl rfl) (tw 1579 rfl rfl) (sw 110 rfl rfl) ii_SqlReaderModel ck_SqlReaderModel_constant
set_option maxRecDepth 100000 in
theorem gk_SqlReaderModel_415 : GoodIn ALL (wsV "SqlReaderModel" 415 y_SqlReaderModel_numberOf.cls y_SqlReaderModel_numberOf (.code y_SqlReaderModel_numberOf prog_11_method_17_code 5 (some .long) :: ALL)) := gV (tw 1583 rfl rfl) (tw 1585 rfl rfl) (sw 111 rfl rfl) ii_SqlReaderModel ck_SqlReaderModel_numberOf
set_option maxRecDepth 100000 in
theorem kc_SqlReaderModel_258 : Cond.constantLong "SqlReaderModel" 258 (10) ∈ ALL := tw 1587 rfl rfl
set_option maxRecDepth 100000 in
theorem kc_SqlReaderModel_260 : Cond.constantLong "SqlReaderModel" 260 (48) ∈ ALL := tw 1588 rfl rfl
set_option maxRecDepth 100000 in
theorem gk_SqlReaderModel_347 : GoodIn ALL (va_wsS "SqlReaderModel" 347 y_SqlReaderModel_chain (.code y_SqlReaderModel_chain prog_11_method_29_code 15 (some .int) :: ALL)) := gS (tw 1589 rfl rfl) (tw 1590 rfl rfl) ii_SqlReaderModel ck_SqlReaderModel_chain
set_option maxRecDepth 100000 in
theorem gk_SqlReaderModel_321 : GoodIn ALL (wsV "SqlReaderModel" 321 y_SqlReaderModel_endsOperand.cls y_SqlReaderModel_endsOperand (.code y_SqlReaderModel_endsOperand prog_11_method_27_code 3 (some .boolean) :: ALL)) := gV (tw 1592 rfl rfl) (tw 1594 rfl rfl) (sw 112 rfl rfl) ii_SqlReaderModel ck_SqlReaderModel_endsOperand
set_option maxRecDepth 100000 in
theorem gk_SqlReaderModel_324 : GoodIn ALL (wsV "SqlReaderModel" 324 y_SqlReaderModel_joins.cls y_SqlReaderModel_joins (.code y_SqlReaderModel_joins prog_11_method_28_code 4 (some .int) :: ALL)) := gV (tw 1596 rfl rfl) (tw 1598 rfl rfl) (sw 113 rfl rfl) ii_SqlReaderModel ck_SqlReaderModel_joins
set_option maxRecDepth 100000 in
theorem gk_SqlReaderModel_475 : GoodIn ALL (wsV "SqlReaderModel" 475 y_SqlReaderModel_readQuery.cls y_SqlReaderModel_readQuery (.code y_SqlReaderModel_readQuery prog_11_method_57_code 4 none :: ALL)) := gV (tw 1606 rfl rfl) (tw 1608 rfl rfl) (sw 114 rfl rfl) ii_SqlReaderModel ck_SqlReaderModel_readQuery
set_option maxRecDepth 100000 in
theorem gk_SqlReaderModel_496 : GoodIn ALL (wsV "SqlReaderModel" 496 y_SqlReaderModel_readItems.cls y_SqlReaderModel_readItems (.code y_SqlReaderModel_readItems prog_11_method_53_code 3 none :: ALL)) := gV (tw 1611 rfl rfl) (tw 1613 rfl rfl) (sw 115 rfl rfl) ii_SqlReaderModel ck_SqlReaderModel_readItems
set_option maxRecDepth 100000 in
theorem gk_SqlReaderModel_478 : GoodIn ALL (wsV "SqlReaderModel" 478 y_SqlReaderModel_from.cls y_SqlReaderModel_from (.code y_SqlReaderModel_from prog_11_method_51_code 3 none :: ALL)) := gV (tw 1615 rfl rfl) (tw 1617 rfl rfl) (sw 116 rfl rfl) ii_SqlReaderModel ck_SqlReaderModel_from
set_option maxRecDepth 100000 in
theorem gk_SqlReaderModel_483 : GoodIn ALL (wsV "SqlReaderModel" 483 y_SqlReaderModel_readWhere.cls y_SqlReaderModel_readWhere (.code y_SqlReaderModel_readWhere prog_11_method_47_code 1 none :: ALL)) := gV (tw 1619 rfl rfl) (tw 1621 rfl rfl) (sw 117 rfl rfl) ii_SqlReaderModel ck_SqlReaderModel_readWhere
set_option maxRecDepth 100000 in
theorem gk_SqlReaderModel_499 : GoodIn ALL (wsV "SqlReaderModel" 499 y_SqlReaderModel_readGroups.cls y_SqlReaderModel_readGroups (.code y_SqlReaderModel_readGroups prog_11_method_54_code 4 none :: ALL)) := gV (tw 1623 rfl rfl) (tw 1625 rfl rfl) (sw 118 rfl rfl) ii_SqlReaderModel ck_SqlReaderModel_readGroups
set_option maxRecDepth 100000 in
theorem gk_SqlReaderModel_502 : GoodIn ALL (wsV "SqlReaderModel" 502 y_SqlReaderModel_readOrders.cls y_SqlReaderModel_readOrders (.code y_SqlReaderModel_readOrders prog_11_method_56_code 2 none :: ALL)) := gV (tw 1628 rfl rfl) (tw 1630 rfl rfl) (sw 119 rfl rfl) ii_SqlReaderModel ck_SqlReaderModel_readOrders
set_option maxRecDepth 100000 in
theorem gk_SqlReaderModel_488 : GoodIn ALL (wsV "SqlReaderModel" 488 y_SqlReaderModel_needNumber.cls y_SqlReaderModel_needNumber (.code y_SqlReaderModel_needNumber prog_11_method_55_code 1 (some .long) :: ALL)) := gV (tw 1632 rfl rfl) (tw 1634 rfl rfl) (sw 120 rfl rfl) ii_SqlReaderModel ck_SqlReaderModel_needNumber
set_option maxRecDepth 100000 in
theorem kc_SqlReaderModel_505 : Cond.constantLong "SqlReaderModel" 505 (2147483647) ∈ ALL := tw 1637 rfl rfl
set_option maxRecDepth 100000 in
theorem gk_SqlReaderModel_530 : GoodIn ALL (wsV "SqlReaderModel" 530 y_SqlReaderModel_readUpdate.cls y_SqlReaderModel_readUpdate (.code y_SqlReaderModel_readUpdate prog_11_method_52_code 2 none :: ALL)) := gV (tw 1640 rfl rfl) (tw 1642 rfl rfl) (sw 121 rfl rfl) ii_SqlReaderModel ck_SqlReaderModel_readUpdate
set_option maxRecDepth 100000 in
theorem gk_SqlReaderModel_631 : GoodIn ALL (wsV "SqlReaderModel" 631 y_SqlReaderModel_readOther.cls y_SqlReaderModel_readOther (.code y_SqlReaderModel_readOther prog_11_method_63_code 2 none :: ALL)) := gV (tw 1646 rfl rfl) (tw 1648 rfl rfl) (sw 122 rfl rfl) ii_SqlReaderModel ck_SqlReaderModel_readOther
set_option maxRecDepth 100000 in
theorem gk_SqlReaderModel_541 : GoodIn ALL (wsV "SqlReaderModel" 541 y_SqlReaderModel_readCreate.cls y_SqlReaderModel_readCreate (.code y_SqlReaderModel_readCreate prog_11_method_48_code 3 none :: ALL)) := gV (tw 1651 rfl rfl) (tw 1653 rfl rfl) (sw 123 rfl rfl) ii_SqlReaderModel ck_SqlReaderModel_readCreate
set_option maxRecDepth 100000 in
theorem gk_SqlReaderModel_548 : GoodIn ALL (wsV "SqlReaderModel" 548 y_SqlReaderModel_readBegin.cls y_SqlReaderModel_readBegin (.code y_SqlReaderModel_readBegin prog_11_method_59_code 1 none :: ALL)) := gV (tw 1664 rfl rfl) (tw 1666 rfl rfl) (sw 124 rfl rfl) ii_SqlReaderModel ck_SqlReaderModel_readBegin
set_option maxRecDepth 100000 in
theorem gk_SqlReaderModel_535 : GoodIn ALL (wsV "SqlReaderModel" 535 y_SqlReaderModel_readNamed.cls y_SqlReaderModel_readNamed (.code y_SqlReaderModel_readNamed prog_11_method_61_code 2 none :: ALL)) := gV (tw 1675 rfl rfl) (tw 1677 rfl rfl) (sw 125 rfl rfl) ii_SqlReaderModel ck_SqlReaderModel_readNamed
set_option maxRecDepth 100000 in
theorem gk_SqlReaderModel_563 : GoodIn ALL (wsV "SqlReaderModel" 563 y_SqlReaderModel_readMode.cls y_SqlReaderModel_readMode (.code y_SqlReaderModel_readMode prog_11_method_58_code 1 none :: ALL)) := gV (tw 1682 rfl rfl) (tw 1684 rfl rfl) (sw 126 rfl rfl) ii_SqlReaderModel ck_SqlReaderModel_readMode
set_option maxRecDepth 100000 in
theorem gk_SqlReaderModel_575 : GoodIn ALL (wsV "SqlReaderModel" 575 y_SqlReaderModel_readValues.cls y_SqlReaderModel_readValues (.code y_SqlReaderModel_readValues prog_11_method_62_code 2 none :: ALL)) := gV (tw 1692 rfl rfl) (tw 1694 rfl rfl) (sw 127 rfl rfl) ii_SqlReaderModel ck_SqlReaderModel_readValues
set_option maxRecDepth 100000 in
theorem gk_SqlReaderModel_634 : GoodIn ALL (wsV "SqlReaderModel" 634 y_SqlReaderModel_checkTables.cls y_SqlReaderModel_checkTables (.code y_SqlReaderModel_checkTables prog_11_method_76_code 3 (some .int) :: ALL)) := gV (tw 1698 rfl rfl) (tw 1700 rfl rfl) (sw 128 rfl rfl) ii_SqlReaderModel ck_SqlReaderModel_checkTables
set_option maxRecDepth 100000 in
theorem gk_SqlReaderModel_585 : GoodIn ALL (wsV "SqlReaderModel" 585 y_SqlReaderModel_sameToken.cls y_SqlReaderModel_sameToken (.code y_SqlReaderModel_sameToken prog_11_method_15_code 5 (some .boolean) :: ALL)) := gV (tw 1702 rfl rfl) (tw 1704 rfl rfl) (sw 129 rfl rfl) ii_SqlReaderModel ck_SqlReaderModel_sameToken
set_option maxRecDepth 100000 in
theorem gk_SqlReaderModel_637 : GoodIn ALL (wsV "SqlReaderModel" 637 y_SqlReaderModel_checkOne.cls y_SqlReaderModel_checkOne (.code y_SqlReaderModel_checkOne prog_11_method_75_code 3 (some .int) :: ALL)) := gV (tw 1706 rfl rfl) (tw 1708 rfl rfl) (sw 130 rfl rfl) ii_SqlReaderModel ck_SqlReaderModel_checkOne
set_option maxRecDepth 100000 in
theorem gk_SqlReaderModel_610 : GoodIn ALL (wsV "SqlReaderModel" 610 y_SqlReaderModel_checkNode.cls y_SqlReaderModel_checkNode (.code y_SqlReaderModel_checkNode prog_11_method_71_code 7 (some .int) :: ALL)) := gV (tw 1710 rfl rfl) (tw 1712 rfl rfl) (sw 131 rfl rfl) ii_SqlReaderModel ck_SqlReaderModel_checkNode
set_option maxRecDepth 100000 in
theorem gk_SqlReaderModel_595 : GoodIn ALL (wsV "SqlReaderModel" 595 y_SqlReaderModel_resolve.cls y_SqlReaderModel_resolve (.code y_SqlReaderModel_resolve prog_11_method_69_code 6 (some .int) :: ALL)) := gV (tw 1714 rfl rfl) (tw 1716 rfl rfl) (sw 132 rfl rfl) ii_SqlReaderModel ck_SqlReaderModel_resolve
set_option maxRecDepth 100000 in
theorem gk_SqlReaderModel_588 : GoodIn ALL (wsV "SqlReaderModel" 588 y_SqlReaderModel_gives.cls y_SqlReaderModel_gives (.code y_SqlReaderModel_gives prog_11_method_67_code 3 none :: ALL)) := gV (tw 1718 rfl rfl) (tw 1720 rfl rfl) (sw 133 rfl rfl) ii_SqlReaderModel ck_SqlReaderModel_gives
set_option maxRecDepth 100000 in
theorem gk_SqlReaderModel_582 : GoodIn ALL (wsV "SqlReaderModel" 582 y_SqlReaderModel_typeOf.cls y_SqlReaderModel_typeOf (.code y_SqlReaderModel_typeOf prog_11_method_65_code 2 (some .int) :: ALL)) := gV (tw 1722 rfl rfl) (tw 1724 rfl rfl) (sw 134 rfl rfl) ii_SqlReaderModel ck_SqlReaderModel_typeOf
set_option maxRecDepth 100000 in
theorem gk_SqlReaderModel_591 : GoodIn ALL (wsV "SqlReaderModel" 591 y_SqlReaderModel_error.cls y_SqlReaderModel_error (.code y_SqlReaderModel_error prog_11_method_68_code 2 (some .int) :: ALL)) := gV (tw 1726 rfl rfl) (tw 1728 rfl rfl) (sw 135 rfl rfl) ii_SqlReaderModel ck_SqlReaderModel_error
set_option maxRecDepth 100000 in
theorem gk_SqlReaderModel_598 : GoodIn ALL (wsV "SqlReaderModel" 598 y_SqlReaderModel_compared.cls y_SqlReaderModel_compared (.code y_SqlReaderModel_compared prog_11_method_70_code 3 (some .int) :: ALL)) := gV (tw 1730 rfl rfl) (tw 1732 rfl rfl) (sw 136 rfl rfl) ii_SqlReaderModel ck_SqlReaderModel_compared
set_option maxRecDepth 100000 in
theorem gk_SqlReaderModel_601 : GoodIn ALL (wsV "SqlReaderModel" 601 y_SqlReaderModel_fits.cls y_SqlReaderModel_fits (.code y_SqlReaderModel_fits prog_11_method_66_code 3 (some .boolean) :: ALL)) := gV (tw 1734 rfl rfl) (tw 1736 rfl rfl) (sw 137 rfl rfl) ii_SqlReaderModel ck_SqlReaderModel_fits
set_option maxRecDepth 100000 in
theorem gk_SqlReaderModel_613 : GoodIn ALL (wsV "SqlReaderModel" 613 y_SqlReaderModel_checkValue.cls y_SqlReaderModel_checkValue (.code y_SqlReaderModel_checkValue prog_11_method_73_code 3 (some .int) :: ALL)) := gV (tw 1738 rfl rfl) (tw 1740 rfl rfl) (sw 138 rfl rfl) ii_SqlReaderModel ck_SqlReaderModel_checkValue
set_option maxRecDepth 100000 in
theorem gk_SqlReaderModel_604 : GoodIn ALL (wsV "SqlReaderModel" 604 y_SqlReaderModel_targetType.cls y_SqlReaderModel_targetType (.code y_SqlReaderModel_targetType prog_11_method_72_code 2 (some .int) :: ALL)) := gV (tw 1742 rfl rfl) (tw 1744 rfl rfl) (sw 139 rfl rfl) ii_SqlReaderModel ck_SqlReaderModel_targetType
set_option maxRecDepth 100000 in
theorem gk_SqlReaderModel_607 : GoodIn ALL (wsV "SqlReaderModel" 607 y_SqlReaderModel_deed.cls y_SqlReaderModel_deed (.code y_SqlReaderModel_deed prog_11_method_64_code 1 (some .int) :: ALL)) := gV (tw 1746 rfl rfl) (tw 1748 rfl rfl) (sw 140 rfl rfl) ii_SqlReaderModel ck_SqlReaderModel_deed
set_option maxRecDepth 100000 in
theorem gk_SqlReaderModel_616 : GoodIn ALL (wsV "SqlReaderModel" 616 y_SqlReaderModel_checkStar.cls y_SqlReaderModel_checkStar (.code y_SqlReaderModel_checkStar prog_11_method_74_code 4 (some .int) :: ALL)) := gV (tw 1750 rfl rfl) (tw 1752 rfl rfl) (sw 141 rfl rfl) ii_SqlReaderModel ck_SqlReaderModel_checkStar
set_option maxRecDepth 100000 in
theorem gk_SqlReaderModel_640 : GoodIn ALL (wsV "SqlReaderModel" 640 y_SqlReaderModel_spread.cls y_SqlReaderModel_spread (.code y_SqlReaderModel_spread prog_11_method_77_code 5 (some .int) :: ALL)) := gV (tw 1754 rfl rfl) (tw 1756 rfl rfl) (sw 142 rfl rfl) ii_SqlReaderModel ck_SqlReaderModel_spread
set_option maxRecDepth 100000 in
theorem gk_SqlReaderModel_643 : GoodIn ALL (wsV "SqlReaderModel" 643 y_SqlReaderModel_counts.cls y_SqlReaderModel_counts (.code y_SqlReaderModel_counts prog_11_method_78_code 4 (some .boolean) :: ALL)) := gV (tw 1758 rfl rfl) (tw 1760 rfl rfl) (sw 143 rfl rfl) ii_SqlReaderModel ck_SqlReaderModel_counts
set_option maxRecDepth 100000 in
theorem gk_SqlReaderModel_646 : GoodIn ALL (wsV "SqlReaderModel" 646 y_SqlReaderModel_checkGroups.cls y_SqlReaderModel_checkGroups (.code y_SqlReaderModel_checkGroups prog_11_method_83_code 3 (some .int) :: ALL)) := gV (tw 1762 rfl rfl) (tw 1764 rfl rfl) (sw 144 rfl rfl) ii_SqlReaderModel ck_SqlReaderModel_checkGroups
set_option maxRecDepth 100000 in
theorem gk_SqlReaderModel_622 : GoodIn ALL (wsV "SqlReaderModel" 622 y_SqlReaderModel_hasAggregate.cls y_SqlReaderModel_hasAggregate (.code y_SqlReaderModel_hasAggregate prog_11_method_79_code 5 (some .boolean) :: ALL)) := gV (tw 1766 rfl rfl) (tw 1768 rfl rfl) (sw 145 rfl rfl) ii_SqlReaderModel ck_SqlReaderModel_hasAggregate
set_option maxRecDepth 100000 in
theorem gk_SqlReaderModel_625 : GoodIn ALL (wsV "SqlReaderModel" 625 y_SqlReaderModel_gathered.cls y_SqlReaderModel_gathered (.code y_SqlReaderModel_gathered prog_11_method_82_code 3 (some .boolean) :: ALL)) := gV (tw 1770 rfl rfl) (tw 1772 rfl rfl) (sw 146 rfl rfl) ii_SqlReaderModel ck_SqlReaderModel_gathered
set_option maxRecDepth 100000 in
theorem gk_SqlReaderModel_628 : GoodIn ALL (wsV "SqlReaderModel" 628 y_SqlReaderModel_isLoose.cls y_SqlReaderModel_isLoose (.code y_SqlReaderModel_isLoose prog_11_method_81_code 5 (some .boolean) :: ALL)) := gV (tw 1774 rfl rfl) (tw 1776 rfl rfl) (sw 147 rfl rfl) ii_SqlReaderModel ck_SqlReaderModel_isLoose
set_option maxRecDepth 100000 in
theorem gk_SqlReaderModel_619 : GoodIn ALL (wsV "SqlReaderModel" 619 y_SqlReaderModel_isGrouped.cls y_SqlReaderModel_isGrouped (.code y_SqlReaderModel_isGrouped prog_11_method_80_code 4 (some .boolean) :: ALL)) := gV (tw 1778 rfl rfl) (tw 1780 rfl rfl) (sw 148 rfl rfl) ii_SqlReaderModel ck_SqlReaderModel_isGrouped
set_option maxRecDepth 100000 in
theorem gk_SqlReaderModel_654 : GoodIn ALL (wsV "SqlReaderModel" 654 y_SqlReaderModel_keep.cls y_SqlReaderModel_keep (.code y_SqlReaderModel_keep prog_11_method_85_code 4 none :: ALL)) := gV (tw 1782 rfl rfl) (tw 1784 rfl rfl) (sw 149 rfl rfl) ii_SqlReaderModel ck_SqlReaderModel_keep
set_option maxRecDepth 100000 in
theorem gk_SqlReaderLaw_37 : GoodIn ALL (wsV "SqlReaderLaw" 37 y_SqlReaderModel_node.cls y_SqlReaderModel_node (.code y_SqlReaderModel_node prog_11_method_87_code 3 (some .int) :: ALL)) := gV (tw 1786 rfl rfl) (tw 1787 rfl rfl) (tw 1788 rfl rfl) ii_SqlReaderModel ck_SqlReaderModel_node
set_option maxRecDepth 100000 in
theorem gk_SqlReaderLaw_42 : GoodIn ALL (wsV "SqlReaderLaw" 42 y_SqlReaderModel_value.cls y_SqlReaderModel_value (.code y_SqlReaderModel_value prog_11_method_88_code 2 (some .long) :: ALL)) := gV (tw 1790 rfl rfl) (tw 1791 rfl rfl) (tw 1792 rfl rfl) ii_SqlReaderModel ck_SqlReaderModel_value
set_option maxRecDepth 100000 in
theorem gk_SqlReaderLaw_46 : GoodIn ALL (wsV "SqlReaderLaw" 46 y_SqlReaderModel_letter.cls y_SqlReaderModel_letter (.code y_SqlReaderModel_letter prog_11_method_89_code 3 (some .int) :: ALL)) := gV (tw 1794 rfl rfl) (tw 1795 rfl rfl) (tw 1796 rfl rfl) ii_SqlReaderModel ck_SqlReaderModel_letter
set_option maxRecDepth 100000 in
theorem gk_SqlReaderLaw_51 : GoodIn ALL (wsV "SqlReaderLaw" 51 y_SqlReaderModel_count.cls y_SqlReaderModel_count (.code y_SqlReaderModel_count prog_11_method_90_code 2 (some .int) :: ALL)) := gV (tw 1798 rfl rfl) (tw 1799 rfl rfl) (tw 1800 rfl rfl) ii_SqlReaderModel ck_SqlReaderModel_count
set_option maxRecDepth 100000 in
theorem gk_SqlReaderModel_657 : GoodIn ALL (wsV "SqlReaderModel" 657 y_SqlReaderModel_sizeOf.cls y_SqlReaderModel_sizeOf (.code y_SqlReaderModel_sizeOf prog_11_method_91_code 2 (some .int) :: ALL)) := gV (tw 1802 rfl rfl) (tw 1804 rfl rfl) (sw 150 rfl rfl) ii_SqlReaderModel ck_SqlReaderModel_sizeOf
set_option maxRecDepth 100000 in
theorem gk_SqlReaderLaw_55 : GoodIn ALL (wsV "SqlReaderLaw" 55 y_SqlReaderModel_list.cls y_SqlReaderModel_list (.code y_SqlReaderModel_list prog_11_method_92_code 3 (some .int) :: ALL)) := gV (tw 1806 rfl rfl) (tw 1807 rfl rfl) (tw 1808 rfl rfl) ii_SqlReaderModel ck_SqlReaderModel_list
set_option maxRecDepth 100000 in
theorem gk_SqlReaderLaw_59 : GoodIn ALL (wsV "SqlReaderLaw" 59 y_SqlReaderModel_name.cls y_SqlReaderModel_name (.code y_SqlReaderModel_name prog_11_method_93_code 4 (some .int) :: ALL)) := gV (tw 1810 rfl rfl) (tw 1811 rfl rfl) (tw 1812 rfl rfl) ii_SqlReaderModel ck_SqlReaderModel_name
set_option maxRecDepth 100000 in
theorem kc_SqlReaderLaw_13 : Cond.constantLong "SqlReaderLaw" 13 (4294967295) ∈ ALL := tw 1814 rfl rfl
set_option maxRecDepth 100000 in
theorem fl_String_15 : Cond.fieldLink "java/lang/String" 15 "java/lang/String" "coder" "B" ∈ ALL := tw 1815 rfl rfl
set_option maxRecDepth 100000 in
theorem fl_String_9 : Cond.fieldLink "java/lang/String" 9 "java/lang/String" "value" "[B" ∈ ALL := tw 1816 rfl rfl
