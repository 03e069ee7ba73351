def mC_Text_append_L30 : Nat → Int64 → Int32 → St → Option (Int32 × St)
  | 0, _, _, _ => none
  | n + 1, x1, x4, u =>
    if x4 < 0 then
      some (1, u)
    else
      gd (inb (u.1 0) 2000) <| seq (sa u 0 (u.1 0) (i2b (i2b (Int64.toInt32 (ushrL x1 (8 * x4)))))) fun u2 =>
      seq (ss u2 0 ((u2.1 0) + 1)) fun u3 =>
      seq (x4 + (-1) : Int32) fun y4 =>
      (mC_Text_append_L30 n) x1 y4 u3
def mC_Text_append (x1 : Int64) (x3 : Int32) (u : St) : Option (Int32 × St) :=
  if x3 < 1 then
    some (0, u)
  else
    if 8 < x3 then
      some (0, u)
    else
      if (u.1 0) ≤ (2000 - x3) then
        seq ((x3 - 1) : Int32) fun y1 =>
        mC_Text_append_L30 FU x1 y1 u
      else
        some (0, u)
def mC_SqlReader_type (x1 : Int64) (x3 : Int32) (u : St) : Option (Int32 × St) :=
  bM (mC_Text_append x1 x3 u) fun r1 u2 =>
  gd (zb r1) <| some (r1, u2)
def mC_Text_at_1 (x1 : Int32) (u : St) : Option (Int32) :=
  if x1 < 0 then
    some (-1)
  else
    if x1 < (u.1 0) then
      gd (inb x1 2000) <|
      some ((ga u 0 x1) &&& 255)
    else
      some (-1)
def mC_Text_isSmall (x0 : Int32) (u : St) : Option (Int32) :=
  if x0 < 97 then
    some 0
  else
    if 122 < x0 then
      some 0
    else
      some 1
def mC_Text_isDigit (x0 : Int32) (u : St) : Option (Int32) :=
  if x0 < 48 then
    some 0
  else
    if 57 < x0 then
      some 0
    else
      some 1
def mC_Text_isOfName (x0 : Int32) (u : St) : Option (Int32) :=
  bP (mC_Text_isSmall x0 u) fun r1 =>
  if r1 = 0 then
    bP (mC_Text_isDigit x0 u) fun r2 =>
    if r2 = 0 then
      if x0 = 95 then
        some 1
      else
        some 0
    else
      some 1
  else
    some 1
def mC_Text_isName_L24 : Nat → Int32 → St → Option (Int32)
  | 0, _, _ => none
  | n + 1, x1, u =>
    if (u.1 0) ≤ x1 then
      some 1
    else
      bP (mC_Text_at_1 x1 u) fun r3 =>
      bP (mC_Text_isOfName r3 u) fun r4 =>
      if r4 = 0 then
        some 0
      else
        seq (x1 + 1 : Int32) fun y5 =>
        (mC_Text_isName_L24 n) y5 u
def mC_Text_isName (u : St) : Option (Int32) :=
  if 16 < (u.1 0) then
    some 0
  else
    bP (mC_Text_at_1 0 u) fun r1 =>
    bP (mC_Text_isSmall r1 u) fun r2 =>
    if r2 = 0 then
      some 0
    else
      mC_Text_isName_L24 FU 1 u
def mC_Text_size_1 (u : St) : Option (Int32) :=
  some (u.1 0)
def mC_Text_span (x0 : Int32) (x1 : Int32) (u : St) : Option (Int32) :=
  some ((x0 <<< (5 &&& 31)) ||| x1)
def mC_Text_sizeOf (x0 : Int32) (u : St) : Option (Int32) :=
  if 0 ≤ x0 then
    some (x0 &&& 31)
  else
    some 0
def mC_Text_startOf (x0 : Int32) (u : St) : Option (Int32) :=
  some (x0 >>> (5 &&& 31))
def mC_Text_at_4 (x1 : Int32) (u : St) : Option (Int32) :=
  if x1 < 0 then
    some (-1)
  else
    if x1 < (u.1 2) then
      gd (inb x1 2000) <|
      some ((ga u 1 x1) &&& 255)
    else
      some (-1)
def mC_Text_same_4_1_L20 : Nat → Int32 → Int32 → Int32 → Int32 → St → Option (Int32)
  | 0, _, _, _, _, _ => none
  | n + 1, x1, x3, x4, x5, u =>
    if x4 ≤ x5 then
      some 1
    else
      bP (mC_Text_startOf x1 u) fun r3 =>
      bP (mC_Text_at_4 (r3 + x5) u) fun r4 =>
      bP (mC_Text_startOf x3 u) fun r5 =>
      bP (mC_Text_at_1 (r5 + x5) u) fun r6 =>
      if r4 = r6 then
        seq (x5 + 1 : Int32) fun y7 =>
        (mC_Text_same_4_1_L20 n) x1 x3 x4 y7 u
      else
        some 0
def mC_Text_same_4_1 (x1 : Int32) (x3 : Int32) (u : St) : Option (Int32) :=
  bP (mC_Text_sizeOf x1 u) fun r1 =>
  bP (mC_Text_sizeOf x3 u) fun r2 =>
  if r1 = r2 then
    mC_Text_same_4_1_L20 FU x1 x3 r1 0 u
  else
    some 0
def mC_Catalog_findTable_3_1_L2 : Nat → Int32 → Int32 → St → Option (Int32)
  | 0, _, _, _ => none
  | n + 1, x2, x3, u =>
    if (u.1 1) ≤ x3 then
      some (-1)
    else
      gd (inb x3 8) <|
      bP (mC_Text_same_4_1 (ga u 2 x3) x2 u) fun r1 =>
      if r1 = 0 then
        seq (x3 + 1 : Int32) fun y2 =>
        (mC_Catalog_findTable_3_1_L2 n) x2 y2 u
      else
        some x3
def mC_Catalog_findTable_3_1 (x2 : Int32) (u : St) : Option (Int32) :=
  mC_Catalog_findTable_3_1_L2 FU x2 0 u
def mC_Text_keep_L7 : Nat → Int32 → Int32 → St → Option (Int32 × St)
  | 0, _, _, _ => none
  | n + 1, x2, x3, u =>
    if (u.1 0) ≤ x3 then
      bP (mC_Text_span x2 ((u.1 2) - x2) u) fun r2 =>
      some (r2, u)
    else
      if 2000 ≤ (u.1 2) then
        bP (mC_Text_span x2 ((u.1 2) - x2) u) fun r3 =>
        some (r3, u)
      else
        gd (inb x3 2000) <|
        gd (inb (u.1 2) 2000) <| seq (sa u 1 (u.1 2) (i2b (ga u 0 x3))) fun u4 =>
        seq (ss u4 2 ((u4.1 2) + 1)) fun u5 =>
        seq (x3 + 1 : Int32) fun y6 =>
        (mC_Text_keep_L7 n) x2 y6 u5
def mC_Text_keep (u : St) : Option (Int32 × St) :=
  seq ((u.1 2) : Int32) fun y1 =>
  mC_Text_keep_L7 FU y1 0 u
def mC_Catalog_addTable (u : St) : Option (Int32 × St) :=
  bP (mC_Text_isName u) fun r1 =>
  if r1 = 0 then
    some ((-1), u)
  else
    if (u.1 1) < 8 then
      bP (mC_Text_size_1 u) fun r2 =>
      bP (mC_Text_span 0 r2 u) fun r3 =>
      bP (mC_Catalog_findTable_3_1 r3 u) fun r4 =>
      if r4 < 0 then
        bM (mC_Text_keep u) fun r5 u6 =>
        gd (inb (u.1 1) 8) <| seq (sa u6 2 (u.1 1) r5) fun u7 =>
        seq (ss u7 1 ((u7.1 1) + 1)) fun u8 =>
        some (((u8.1 1) - 1), u8)
      else
        some ((-2), u)
    else
      some ((-1), u)
def mC_Text_clear (u : St) : Option (St) :=
  seq (ss u 0 0) fun u1 =>
  some u1
def mC_SqlReader_table (u : St) : Option (Int32 × St) :=
  bM (mC_Catalog_addTable u) fun r1 u2 =>
  bP (mC_Text_clear u2) fun u3 =>
  some (r1, u3)
def mC_Catalog_has (x1 : Int32) (u : St) : Option (Int32) :=
  if x1 < 0 then
    some 0
  else
    if (u.1 1) ≤ x1 then
      some 0
    else
      some 1
def mC_Catalog_columnsOf (x1 : Int32) (u : St) : Option (Int32) :=
  bP (mC_Catalog_has x1 u) fun r1 =>
  if r1 = 0 then
    some 0
  else
    gd (inb x1 8) <|
    some (ga u 3 x1)
def mC_Catalog_findColumn_3_1_L3 : Nat → Int32 → Int32 → Int32 → St → Option (Int32)
  | 0, _, _, _, _ => none
  | n + 1, x1, x3, x4, u =>
    bP (mC_Catalog_columnsOf x1 u) fun r1 =>
    if r1 ≤ x4 then
      some (-1)
    else
      gd (inb ((x1 * 8) + x4) 64) <|
      bP (mC_Text_same_4_1 (ga u 4 ((x1 * 8) + x4)) x3 u) fun r2 =>
      if r2 = 0 then
        seq (x4 + 1 : Int32) fun y3 =>
        (mC_Catalog_findColumn_3_1_L3 n) x1 x3 y3 u
      else
        some x4
def mC_Catalog_findColumn_3_1 (x1 : Int32) (x3 : Int32) (u : St) : Option (Int32) :=
  mC_Catalog_findColumn_3_1_L3 FU x1 x3 0 u
def mC_Catalog_addColumn (x1 : Int32) (x2 : Int32) (u : St) : Option (Int32 × St) :=
  bP (mC_Text_isName u) fun r1 =>
  if r1 = 0 then
    some ((-1), u)
  else
    bP (mC_Catalog_has x1 u) fun r2 =>
    if r2 = 0 then
      some ((-1), u)
    else
      if x2 < 1 then
        some ((-1), u)
      else
        if x2 ≤ 3 then
          gd (inb x1 8) <|
          seq ((ga u 3 x1) : Int32) fun y3 =>
          if y3 < 8 then
            bP (mC_Text_size_1 u) fun r4 =>
            bP (mC_Text_span 0 r4 u) fun r5 =>
            bP (mC_Catalog_findColumn_3_1 x1 r5 u) fun r6 =>
            if r6 < 0 then
              bM (mC_Text_keep u) fun r7 u8 =>
              gd (inb ((x1 * 8) + y3) 64) <| seq (sa u8 4 ((x1 * 8) + y3) r7) fun u9 =>
              gd (inb ((x1 * 8) + y3) 64) <| seq (sa u9 5 ((x1 * 8) + y3) x2) fun u10 =>
              gd (inb x1 8) <| seq (sa u10 3 x1 (y3 + 1)) fun u11 =>
              some (y3, u11)
            else
              some ((-2), u)
          else
            some ((-1), u)
        else
          some ((-1), u)
def mC_SqlReader_column (x1 : Int32) (x2 : Int32) (u : St) : Option (Int32 × St) :=
  bM (mC_Catalog_addColumn x1 x2 u) fun r1 u2 =>
  bP (mC_Text_clear u2) fun u3 =>
  some (r1, u3)
def mC_Nodes_clear (u : St) : Option (St) :=
  seq (ss u 6 0) fun u1 =>
  seq (ss u1 7 0) fun u2 =>
  some u2
def mC_Arrays_fill_L5 : Nat → Int32 → Int32 → Int32 → St → Option (St)
  | 0, _, _, _, _ => none
  | n + 1, x1, x2, x3, u =>
    if x3 ≤ x2 then
      some u
    else
      gd (inb x2 14) <| seq (sa u 17 x2 x1) fun u1 =>
      seq (x2 + 1 : Int32) fun y2 =>
      (mC_Arrays_fill_L5 n) x1 y2 x3 u1
def mC_Arrays_fill (x1 : Int32) (u : St) : Option (St) :=
  mC_Arrays_fill_L5 FU x1 0 14 u
def mC_Lists_clear (u : St) : Option (St) :=
  bP (mC_Arrays_fill 0 u) fun u1 =>
  seq (ss u1 8 0) fun u2 =>
  some u2
def mC_Statement_clear (u : St) : Option (St) :=
  seq (ss u 9 0) fun u1 =>
  seq (ss u1 10 0) fun u2 =>
  seq (ss u2 11 (-1)) fun u3 =>
  seq (ss u3 12 (-1)) fun u4 =>
  seq (ss u4 13 (-1)) fun u5 =>
  seq (ss u5 14 (-1)) fun u6 =>
  seq (ss u6 15 (-1)) fun u7 =>
  seq (ss u7 16 0) fun u8 =>
  seq (ss u8 17 (-1)) fun u9 =>
  seq (ss u9 18 (-1)) fun u10 =>
  seq (ss u10 19 0) fun u11 =>
  seq (ss u11 20 0) fun u12 =>
  seq (ss u12 21 0) fun u13 =>
  some u13
def mC_SqlReader_forget (u : St) : Option (St) :=
  bP (mC_Nodes_clear u) fun u1 =>
  bP (mC_Lists_clear u1) fun u2 =>
  bP (mC_Statement_clear u2) fun u3 =>
  some u3
def mC_Text_copy (u : St) : Option (St) :=
  gd (cpok 0 0 (u.1 0) 2000 2000) <| gd (cpf (u.2.1 0) 0 (u.1 0)) <| seq (sA u 6 (va_cpy (u.2.1 0) (u.2.1 6) (Int32.toNatClampNeg 0) (Int32.toNatClampNeg 0) (Int32.toNatClampNeg (u.1 0)))) fun u1 =>
  seq (ss u1 5 (u1.1 0)) fun u2 =>
  some u2
def mC_Text_size_11 (u : St) : Option (Int32) :=
  some (u.1 5)
def mC_Text_at_11 (x1 : Int32) (u : St) : Option (Int32) :=
  if x1 < 0 then
    some (-1)
  else
    if x1 < (u.1 5) then
      gd (inb x1 2000) <|
      some ((ga u 6 x1) &&& 255)
    else
      some (-1)
def mC_Tokens_isCapital (x0 : Int32) (u : St) : Option (Int32) :=
  if x0 < 65 then
    some 0
  else
    if 90 < x0 then
      some 0
    else
      some 1
def mC_Tokens_endOfCapitals_L4 : Nat → Int32 → Int32 → St → Option (Int32)
  | 0, _, _, _ => none
  | n + 1, x2, x3, u =>
    if 2000 ≤ x3 then
      some x2
    else
      bP (mC_Text_at_11 x2 u) fun r1 =>
      bP (mC_Tokens_isCapital r1 u) fun r2 =>
      if r2 = 0 then
        some x2
      else
        seq (x2 + 1 : Int32) fun y3 =>
        seq (x3 + 1 : Int32) fun y4 =>
        (mC_Tokens_endOfCapitals_L4 n) y3 y4 u
def mC_Tokens_endOfCapitals (x1 : Int32) (u : St) : Option (Int32) :=
  mC_Tokens_endOfCapitals_L4 FU x1 0 u
def mC_Tokens_keep (x1 : Int32) (x2 : Int32) (x3 : Int32) (x4 : Int32) (u : St) : Option (Int32 × St) :=
  if x4 < (x3 - x2) then
    some ((-1), u)
  else
    if (u.1 3) < 2000 then
      bP (mC_Text_span x2 (x3 - x2) u) fun r1 =>
      gd (inb (u.1 3) 2000) <| seq (sa u 7 (u.1 3) ((x1 <<< (16 &&& 31)) ||| r1)) fun u2 =>
      seq (ss u2 3 ((u2.1 3) + 1)) fun u3 =>
      some (x3, u3)
    else
      some ((-1), u)
def mC_Tokens_endOfName_L4 : Nat → Int32 → Int32 → St → Option (Int32)
  | 0, _, _, _ => none
  | n + 1, x2, x3, u =>
    if 2000 ≤ x3 then
      some x2
    else
      bP (mC_Text_at_11 x2 u) fun r1 =>
      bP (mC_Text_isOfName r1 u) fun r2 =>
      if r2 = 0 then
        some x2
      else
        seq (x2 + 1 : Int32) fun y3 =>
        seq (x3 + 1 : Int32) fun y4 =>
        (mC_Tokens_endOfName_L4 n) y3 y4 u
def mC_Tokens_endOfName (x1 : Int32) (u : St) : Option (Int32) :=
  mC_Tokens_endOfName_L4 FU x1 0 u
def mC_Tokens_endOfDigits_L4 : Nat → Int32 → Int32 → St → Option (Int32)
  | 0, _, _, _ => none
  | n + 1, x2, x3, u =>
    if 2000 ≤ x3 then
      some x2
    else
      bP (mC_Text_at_11 x2 u) fun r1 =>
      bP (mC_Text_isDigit r1 u) fun r2 =>
      if r2 = 0 then
        some x2
      else
        seq (x2 + 1 : Int32) fun y3 =>
        seq (x3 + 1 : Int32) fun y4 =>
        (mC_Tokens_endOfDigits_L4 n) y3 y4 u
def mC_Tokens_endOfDigits (x1 : Int32) (u : St) : Option (Int32) :=
  mC_Tokens_endOfDigits_L4 FU x1 0 u
def mC_Text_put (x1 : Int32) (x2 : Int32) (u : St) : Option (St) :=
  if x1 < 0 then
    some u
  else
    if (u.1 5) ≤ x1 then
      some u
    else
      gd (inb x1 2000) <| seq (sa u 6 x1 (i2b (i2b x2))) fun u1 =>
      some u1
def mC_Tokens_cutText_J82 (q7 : Int32 → Int32 → Int32 → Int32 → St → Option (Int32 × St)) (x1 : Int32) (x2 : Int32) (x3 : Int32) (x4 : Int32) (x5 : Int32) (u : St) : Option (Int32 × St) :=
  bP (mC_Text_put x2 x5 u) fun u2 =>
  seq (x2 + 1 : Int32) fun y3 =>
  seq (x3 + 1 : Int32) fun y4 =>
  seq (x4 + 1 : Int32) fun y5 =>
  q7 x1 y3 y4 y5 u2
def mC_Tokens_cutText_L7 : Nat → Int32 → Int32 → Int32 → Int32 → St → Option (Int32 × St)
  | 0, _, _, _, _, _ => none
  | n + 1, x1, x2, x3, x4, u =>
    if 2000 ≤ x4 then
      some ((-1), u)
    else
      bP (mC_Text_at_11 x3 u) fun r1 =>
      if r1 < 32 then
        some ((-1), u)
      else
        if r1 ≤ 126 then
          if r1 = 39 then
            seq (x3 + 1 : Int32) fun y6 =>
            bP (mC_Text_at_11 y6 u) fun r7 =>
            if r7 = 39 then
              mC_Tokens_cutText_J82 (mC_Tokens_cutText_L7 n) x1 x2 y6 x4 r1 u
            else
              bM (mC_Tokens_keep 3 x1 x2 31 u) fun r8 u9 =>
              if 0 ≤ r8 then
                some (y6, u9)
              else
                some ((-1), u9)
          else
            mC_Tokens_cutText_J82 (mC_Tokens_cutText_L7 n) x1 x2 x3 x4 r1 u
        else
          some ((-1), u)
def mC_Tokens_cutText (x1 : Int32) (u : St) : Option (Int32 × St) :=
  mC_Tokens_cutText_L7 FU x1 x1 x1 0 u
def mC_String_isLatin1 (k0 : Nat) (u : St) : Option (Int32) :=
  gd (stok k0) <|
  some 1
def mC_String_coder (k0 : Nat) (u : St) : Option (Int32) :=
  gd (stok k0) <|
  some 0
def mC_String_length (k0 : Nat) (u : St) : Option (Int32) :=
  gd (stok k0) <|
  gd (stok k0) <|
  gd (stok k0) <|
  bP (mC_String_coder k0 u) fun r1 =>
  some ((nI (lnK k0)) >>> (r1 &&& 31))
def mC_StringLatin1_canEncode (x0 : Int32) (u : St) : Option (Int32) :=
  if x0 < 0 then
    some 0
  else
    if 255 < x0 then
      some 0
    else
      some 1
def mC_StringLatin1_indexOfChar_L7 : Nat → Nat → Int32 → Int32 → Int32 → St → Option (Int32)
  | 0, _, _, _, _, _ => none
  | n + 1, k0, x3, x4, x5, u =>
    if x3 ≤ x5 then
      some (-1)
    else
      gd (stok k0) <| gd (inb x5 (lnK k0)) <|
      if (byK k0 x5) = x4 then
        some x5
      else
        seq (x5 + 1 : Int32) fun y2 =>
        (mC_StringLatin1_indexOfChar_L7 n) k0 x3 x4 y2 u
def mC_StringLatin1_indexOfChar (k0 : Nat) (x1 : Int32) (x2 : Int32) (x3 : Int32) (u : St) : Option (Int32) :=
  seq ((i2b x1) : Int32) fun y1 =>
  mC_StringLatin1_indexOfChar_L7 FU k0 x3 y1 x2 u
def mC_StringLatin1_indexOf (k0 : Nat) (x1 : Int32) (x2 : Int32) (x3 : Int32) (u : St) : Option (Int32) :=
  bP (mC_StringLatin1_canEncode x1 u) fun r1 =>
  if r1 = 0 then
    some (-1)
  else
    seq ((if x2 < 0 then 0 else x2) : Int32) fun y2 =>
    gd (stok k0) <|
    seq ((if (nI (lnK k0)) < x3 then (nI (lnK k0)) else x3) : Int32) fun y3 =>
    if y2 < y3 then
      bP (mC_StringLatin1_indexOfChar k0 x1 y2 y3 u) fun r4 =>
      some r4
    else
      some (-1)
def mC_String_indexOf_s_II (k0 : Nat) (x1 : Int32) (x2 : Int32) (u : St) : Option (Int32) :=
  gd (stok k0) <|
  bP (mC_String_isLatin1 k0 u) fun r1 =>
  if r1 = 0 then
    gd (stok k0) <|
    gd (stok k0) <|
    bP (mC_String_length k0 u) fun r2 =>
    none
  else
    gd (stok k0) <|
    gd (stok k0) <|
    bP (mC_String_length k0 u) fun r3 =>
    bP (mC_StringLatin1_indexOf k0 x1 x2 r3 u) fun r4 =>
    some r4
def mC_String_indexOf_s_I (k0 : Nat) (x1 : Int32) (u : St) : Option (Int32) :=
  gd (stok k0) <|
  bP (mC_String_indexOf_s_II k0 x1 0 u) fun r1 =>
  some r1
def mC_Tokens_signSize_J67 (x2 : Int32) (s0 : Int32) (u : St) : Option (Int32) :=
  if s0 = 0 then
    gd (stok 0) <|
    bP (mC_String_indexOf_s_I 0 (i2c x2) u) fun r3 =>
    if r3 < 0 then
      some 0
    else
      some 1
  else
    some 2
def mC_Tokens_signSize_J50 (x2 : Int32) (x3 : Int32) (u : St) : Option (Int32) :=
  if x2 = 124 then
    if x3 = 124 then
      mC_Tokens_signSize_J67 x2 1 u
    else
      mC_Tokens_signSize_J67 x2 0 u
  else
    mC_Tokens_signSize_J67 x2 0 u
def mC_Tokens_signSize_J38 (x2 : Int32) (x3 : Int32) (u : St) : Option (Int32) :=
  if x2 = 62 then
    if x3 = 61 then
      mC_Tokens_signSize_J67 x2 1 u
    else
      mC_Tokens_signSize_J50 x2 x3 u
  else
    mC_Tokens_signSize_J50 x2 x3 u
def mC_Tokens_signSize (x1 : Int32) (u : St) : Option (Int32) :=
  bP (mC_Text_at_11 x1 u) fun r1 =>
  bP (mC_Text_at_11 (x1 + 1) u) fun r2 =>
  if r1 = 60 then
    if r2 = 61 then
      mC_Tokens_signSize_J67 r1 1 u
    else
      if r2 = 62 then
        mC_Tokens_signSize_J67 r1 1 u
      else
        mC_Tokens_signSize_J38 r1 r2 u
  else
    mC_Tokens_signSize_J38 r1 r2 u
def mC_Tokens_cutToken (x1 : Int32) (u : St) : Option (Int32 × St) :=
  bP (mC_Text_at_11 x1 u) fun r1 =>
  bP (mC_Tokens_isCapital r1 u) fun r2 =>
  if r2 = 0 then
    bP (mC_Text_isSmall r1 u) fun r3 =>
    if r3 = 0 then
      bP (mC_Text_isDigit r1 u) fun r4 =>
      if r4 = 0 then
        if r1 = 39 then
          bM (mC_Tokens_cutText (x1 + 1) u) fun r11 u12 =>
          some (r11, u12)
        else
          if r1 = 36 then
            bP (mC_Text_at_11 (x1 + 1) u) fun r8 =>
            if r8 < 49 then
              some ((-1), u)
            else
              if r8 ≤ 57 then
                bM (mC_Tokens_keep 4 (x1 + 1) (x1 + 2) 1 u) fun r9 u10 =>
                some (r9, u10)
              else
                some ((-1), u)
          else
            bP (mC_Tokens_signSize x1 u) fun r5 =>
            if r5 = 0 then
              some ((-1), u)
            else
              bM (mC_Tokens_keep 0 x1 (x1 + r5) r5 u) fun r6 u7 =>
              some (r6, u7)
      else
        bP (mC_Tokens_endOfDigits x1 u) fun r13 =>
        bM (mC_Tokens_keep 2 x1 r13 18 u) fun r14 u15 =>
        some (r14, u15)
    else
      bP (mC_Tokens_endOfName x1 u) fun r16 =>
      bM (mC_Tokens_keep 1 x1 r16 16 u) fun r17 u18 =>
      some (r17, u18)
  else
    bP (mC_Tokens_endOfCapitals x1 u) fun r19 =>
    bM (mC_Tokens_keep 0 x1 r19 31 u) fun r20 u21 =>
    some (r20, u21)
def mC_Tokens_cut_L22 : Nat → Int32 → Int32 → St → Option (Int32 × St)
  | 0, _, _, _ => none
  | n + 1, x2, x3, u =>
    if 2000 ≤ x3 then
      if x2 < 0 then
        some (0, u)
      else
        some (1, u)
    else
      if x2 < 0 then
        if x2 < 0 then
          some (0, u)
        else
          some (1, u)
      else
        bP (mC_Text_size_11 u) fun r4 =>
        if r4 ≤ x2 then
          if x2 < 0 then
            some (0, u)
          else
            some (1, u)
        else
          bP (mC_Text_at_11 x2 u) fun r5 =>
          if r5 = 32 then
            seq ((x2 + 1) : Int32) fun y9 =>
            seq (x3 + 1 : Int32) fun y10 =>
            (mC_Tokens_cut_L22 n) y9 y10 u
          else
            bM (mC_Tokens_cutToken x2 u) fun r6 u7 =>
            seq (x3 + 1 : Int32) fun y8 =>
            (mC_Tokens_cut_L22 n) r6 y8 u7
def mC_Tokens_cut (u : St) : Option (Int32 × St) :=
  bP (mC_Text_copy u) fun u1 =>
  seq (ss u1 3 0) fun u2 =>
  seq (ss u2 4 0) fun u3 =>
  mC_Tokens_cut_L22 FU 0 0 u3
def mC_Preconditions_checkIndex (x0 : Int32) (x1 : Int32) (u : St) : Option (Int32) :=
  if x0 < 0 then
    none
  else
    if x0 < x1 then
      some x0
    else
      none
def mC_String_checkIndex (x0 : Int32) (x1 : Int32) (u : St) : Option (Unit) :=
  bP (mC_Preconditions_checkIndex x0 x1 u) fun r1 =>
  some ()
def mC_StringLatin1_charAt (k0 : Nat) (x1 : Int32) (u : St) : Option (Int32) :=
  gd (stok k0) <|
  bP (mC_String_checkIndex x1 (nI (lnK k0)) u) fun _ =>
  gd (stok k0) <| gd (inb x1 (lnK k0)) <|
  some (i2c ((byK k0 x1) &&& 255))
def mC_String_charAt (k0 : Nat) (x1 : Int32) (u : St) : Option (Int32) :=
  gd (stok k0) <|
  bP (mC_String_isLatin1 k0 u) fun r1 =>
  if r1 = 0 then
    gd (stok k0) <|
    none
  else
    gd (stok k0) <|
    bP (mC_StringLatin1_charAt k0 x1 u) fun r2 =>
    gd (cb r2) <| some r2
def mC_Tokens_takes_L53 : Nat → Nat → Int32 → Int32 → St → Option (Int32 × St)
  | 0, _, _, _, _ => none
  | n + 1, k1, x3, x4, u =>
    gd (stok k1) <|
    bP (mC_String_length k1 u) fun r4 =>
    if r4 ≤ x4 then
      seq (ss u 4 ((u.1 4) + 1)) fun u5 =>
      some (1, u5)
    else
      bP (mC_Text_at_11 (x3 + x4) u) fun r6 =>
      gd (stok k1) <|
      bP (mC_String_charAt k1 x4 u) fun r7 =>
      if r6 = r7 then
        seq (x4 + 1 : Int32) fun y8 =>
        (mC_Tokens_takes_L53 n) k1 x3 y8 u
      else
        some (0, u)
def mC_Tokens_takes_J24 (k1 : Nat) (s0 : Int32) (u : St) : Option (Int32 × St) :=
  if (s0 >>> (16 &&& 31)) = 0 then
    bP (mC_Text_sizeOf s0 u) fun r1 =>
    gd (stok k1) <|
    bP (mC_String_length k1 u) fun r2 =>
    if r1 = r2 then
      bP (mC_Text_startOf s0 u) fun r3 =>
      mC_Tokens_takes_L53 FU k1 r3 0 u
    else
      some (0, u)
  else
    some (0, u)
def mC_Tokens_takes (k1 : Nat) (u : St) : Option (Int32 × St) :=
  if (u.1 3) ≤ (u.1 4) then
    mC_Tokens_takes_J24 k1 (-1) u
  else
    gd (inb (u.1 4) 2000) <|
    mC_Tokens_takes_J24 k1 (ga u 7 (u.1 4)) u
def mC_Tokens_take (x1 : Int32) (u : St) : Option (Int32 × St) :=
  if (u.1 3) ≤ (u.1 4) then
    some ((-1), u)
  else
    gd (inb (u.1 4) 2000) <|
    if ((ga u 7 (u.1 4)) >>> (16 &&& 31)) = x1 then
      seq (ss u 4 ((u.1 4) + 1)) fun u1 =>
      gd (inb ((u1.1 4) - 1) 2000) <|
      some (((ga u1 7 ((u1.1 4) - 1)) &&& 65535), u1)
    else
      some ((-1), u)
def mC_Parser_title (u : St) : Option (Int32 × St) :=
  bM (mC_Tokens_take 1 u) fun r1 u2 =>
  seq (ss u2 11 r1) fun u3 =>
  if (u3.1 11) < 0 then
    some (0, u3)
  else
    some (1, u3)
def mC_Parser_begins (u : St) : Option (Int32 × St) :=
  bM (mC_Tokens_takes 1 u) fun r1 u2 =>
  gd (zb r1) <| seq (ss u2 22 r1) fun u3 =>
  if (u3.1 22) = 0 then
    some (1, u3)
  else
    bM (mC_Parser_title u3) fun r4 u5 =>
    if r4 = 0 then
      some (0, u5)
    else
      bM (mC_Tokens_takes 2 u5) fun r6 u7 =>
      if r6 = 0 then
        some (0, u7)
      else
        some (1, u7)
def mC_Nodes_size (u : St) : Option (Int32) :=
  some (u.1 6)
def mC_Nodes_leaf (x1 : Int32) (x2 : Int32) (x3 : Int32) (x4 : Int32) (u : St) : Option (Int32 × St) :=
  if (u.1 6) < 200 then
    seq ((u.1 6) : Int32) fun y1 =>
    gd (inb y1 200) <| seq (sa u 8 y1 x1) fun u2 =>
    gd (inb y1 200) <| seq (sa u2 9 y1 x2) fun u3 =>
    gd (inb y1 200) <| seq (sa u3 10 y1 (-1)) fun u4 =>
    gd (inb y1 200) <| seq (sa u4 11 y1 0) fun u5 =>
    gd (inb y1 200) <| seq (sa u5 12 y1 (-1)) fun u6 =>
    gd (inb y1 200) <| seq (sa u6 13 y1 0) fun u7 =>
    gd (inb y1 200) <| seq (sa u7 14 y1 0) fun u8 =>
    gd (inb y1 200) <| seq (sa u8 15 y1 x3) fun u9 =>
    gd (inb y1 200) <| seq (sa u9 16 y1 x4) fun u10 =>
    seq (ss u10 6 ((u10.1 6) + 1)) fun u11 =>
    some (y1, u11)
  else
    seq (ss u 7 1) fun u12 =>
    some (0, u12)
def mC_Nodes_adopt (x1 : Int32) (x2 : Int32) (u : St) : Option (St) :=
  if x1 < 0 then
    some u
  else
    if (u.1 6) ≤ x1 then
      some u
    else
      gd (inb x1 200) <| seq (sa u 12 x1 x2) fun u1 =>
      some u1
def mC_Nodes_top (x1 : Int32) (x2 : Int32) (u : St) : Option (Int32 × St) :=
  if 0 ≤ x2 then
    bM (mC_Nodes_leaf x1 x2 (-1) (-1) u) fun r1 u2 =>
    if (u2.1 7) = 0 then
      bP (mC_Nodes_adopt x2 r1 u2) fun u3 =>
      some (r1, u3)
    else
      some (r1, u2)
  else
    some ((-1), u)
def mC_Tokens_mark (u : St) : Option (Int32) :=
  some (u.1 4)
def mC_Parser_wordBehind (u : St) : Option (Int32 × St) :=
  bM (mC_Tokens_takes 18 u) fun r1 u2 =>
  if r1 = 0 then
    bM (mC_Tokens_takes 19 u2) fun r3 u4 =>
    if r3 = 0 then
      bM (mC_Tokens_takes 20 u4) fun r5 u6 =>
      if r5 = 0 then
        bM (mC_Tokens_takes 21 u6) fun r7 u8 =>
        if r7 = 0 then
          bM (mC_Tokens_takes 22 u8) fun r9 u10 =>
          if r9 = 0 then
            bM (mC_Tokens_takes 6 u10) fun r11 u12 =>
            if r11 = 0 then
              some ((-1), u12)
            else
              some (31, u12)
          else
            some (30, u10)
        else
          some (29, u8)
      else
        some (23, u6)
    else
      some (26, u4)
  else
    some (27, u2)
def mC_Parser_signBehind (u : St) : Option (Int32 × St) :=
  bM (mC_Tokens_takes 23 u) fun r1 u2 =>
  if r1 = 0 then
    bM (mC_Tokens_takes 24 u2) fun r3 u4 =>
    if r3 = 0 then
      bM (mC_Tokens_takes 25 u4) fun r5 u6 =>
      if r5 = 0 then
        bM (mC_Tokens_takes 26 u6) fun r7 u8 =>
        if r7 = 0 then
          bM (mC_Tokens_takes 27 u8) fun r9 u10 =>
          if r9 = 0 then
            bM (mC_Tokens_takes 28 u10) fun r11 u12 =>
            if r11 = 0 then
              bM (mC_Tokens_takes 29 u12) fun r13 u14 =>
              if r13 = 0 then
                bM (mC_Tokens_takes 7 u14) fun r15 u16 =>
                if r15 = 0 then
                  bM (mC_Tokens_takes 5 u16) fun r17 u18 =>
                  if r17 = 0 then
                    bM (mC_Tokens_takes 30 u18) fun r19 u20 =>
                    if r19 = 0 then
                      bM (mC_Tokens_takes 31 u20) fun r21 u22 =>
                      if r21 = 0 then
                        bM (mC_Tokens_takes 32 u22) fun r23 u24 =>
                        if r23 = 0 then
                          some ((-1), u24)
                        else
                          some (16, u24)
                      else
                        some (15, u22)
                    else
                      some (14, u20)
                  else
                    some (13, u18)
                else
                  some (12, u16)
              else
                some (11, u14)
            else
              some (22, u12)
          else
            some (21, u10)
        else
          some (20, u8)
      else
        some (19, u6)
    else
      some (18, u4)
  else
    some (17, u2)
def mC_Parser_levelOf (x0 : Int32) (u : St) : Option (Int32) :=
  if x0 = (-1) then
    some 0
  else
    if x0 = 0 then
      some 4
    else
      if x0 = 1 then
        some 4
      else
        if x0 = 2 then
          some 4
        else
          if x0 = 3 then
            some 4
          else
            if x0 = 4 then
              some 4
            else
              if x0 = 5 then
                some 4
              else
                if x0 = 6 then
                  some 4
                else
                  if x0 = 7 then
                    some 4
                  else
                    if x0 = 8 then
                      some 4
                    else
                      if x0 = 9 then
                        some 4
                      else
                        if x0 = 10 then
                          some 4
                        else
                          if x0 = 11 then
                            some 6
                          else
                            if x0 = 12 then
                              some 6
                            else
                              if x0 = 13 then
                                some 7
                              else
                                if x0 = 14 then
                                  some 7
                                else
                                  if x0 = 15 then
                                    some 7
                                  else
                                    if x0 = 16 then
                                      some 5
                                    else
                                      if x0 = 17 then
                                        some 4
                                      else
                                        if x0 = 18 then
                                          some 4
                                        else
                                          if x0 = 19 then
                                            some 4
                                          else
                                            if x0 = 20 then
                                              some 4
                                            else
                                              if x0 = 21 then
                                                some 4
                                              else
                                                if x0 = 22 then
                                                  some 4
                                                else
                                                  if x0 = 23 then
                                                    some 4
                                                  else
                                                    if x0 = 24 then
                                                      some 4
                                                    else
                                                      if x0 = 25 then
                                                        some 4
                                                      else
                                                        if x0 = 26 then
                                                          some 2
                                                        else
                                                          if x0 = 27 then
                                                            some 1
                                                          else
                                                            some 4
def mC_Tokens_backTo (x1 : Int32) (u : St) : Option (St) :=
  if x1 < 0 then
    some u
  else
    if (u.1 4) ≤ x1 then
      some u
    else
      seq (ss u 4 x1) fun u1 =>
      some u1
def mC_Nodes_join (x1 : Int32) (x2 : Int32) (x3 : Int32) (u : St) : Option (Int32 × St) :=
  if x2 < 0 then
    some ((-1), u)
  else
    if 0 ≤ x3 then
      bM (mC_Nodes_leaf x1 x2 (-1) (-1) u) fun r1 u2 =>
      if (u2.1 7) = 0 then
        gd (inb r1 200) <| seq (sa u2 10 r1 x3) fun u3 =>
        bP (mC_Nodes_adopt x2 r1 u3) fun u4 =>
        bP (mC_Nodes_adopt x3 r1 u4) fun u5 =>
        some (r1, u5)
      else
        some (r1, u2)
    else
      some ((-1), u)
def mC_Nodes_works (x0 : Int32) (u : St) : Option (Int32) :=
  if x0 < 6 then
    some 0
  else
    if 27 < x0 then
      some 0
    else
      some 1
def mC_Nodes_again_L17 : Nat → Int32 → Int32 → Int32 → Int32 → St → Option (Int32 × St)
  | 0, _, _, _, _, _ => none
  | n + 1, x2, x3, x4, x5, u =>
    if x2 < x5 then
      some (x4, u)
    else
      if 200 ≤ x5 then
        some (x4, u)
      else
        if (u.1 7) = 0 then
          gd (inb x5 200) <|
          bP (mC_Nodes_works (ga u 8 x5) u) fun r3 =>
          if r3 = 0 then
            gd (inb x5 200) <|
            gd (inb x5 200) <|
            gd (inb x5 200) <|
            gd (inb x5 200) <|
            bM (mC_Nodes_leaf (ga u 8 x5) (ga u 9 x5) (ga u 15 x5) (ga u 16 x5) u) fun r10 u11 =>
            seq (x5 + 1 : Int32) fun y12 =>
            (mC_Nodes_again_L17 n) x2 x3 r10 y12 u11
          else
            gd (inb x5 200) <|
            if 0 ≤ (ga u 10 x5) then
              gd (inb x5 200) <|
              gd (inb x5 200) <|
              gd (inb x5 200) <|
              bM (mC_Nodes_join (ga u 8 x5) ((ga u 9 x5) + x3) ((ga u 10 x5) + x3) u) fun r4 u5 =>
              seq (x5 + 1 : Int32) fun y6 =>
              (mC_Nodes_again_L17 n) x2 x3 r4 y6 u5
            else
              gd (inb x5 200) <|
              gd (inb x5 200) <|
              bM (mC_Nodes_top (ga u 8 x5) ((ga u 9 x5) + x3) u) fun r7 u8 =>
              seq (x5 + 1 : Int32) fun y9 =>
              (mC_Nodes_again_L17 n) x2 x3 r7 y9 u8
        else
          some (x4, u)
def mC_Nodes_again (x1 : Int32) (x2 : Int32) (u : St) : Option (Int32 × St) :=
  seq (((u.1 6) - x1) : Int32) fun y1 =>
  seq ((if x1 < 0 then 0 else x1) : Int32) fun y2 =>
  mC_Nodes_again_L17 FU x2 y1 0 y2 u
def mC_Parser_aggregate (u : St) : Option (Int32 × St) :=
  bM (mC_Tokens_takes 10 u) fun r1 u2 =>
  if r1 = 0 then
    bM (mC_Tokens_takes 11 u2) fun r3 u4 =>
    if r3 = 0 then
      bM (mC_Tokens_takes 12 u4) fun r5 u6 =>
      if r5 = 0 then
        bM (mC_Tokens_takes 13 u6) fun r7 u8 =>
        if r7 = 0 then
          some ((-1), u8)
        else
          some (9, u8)
      else
        some (8, u6)
    else
      some (7, u4)
  else
    some (6, u2)
def mC_Tokens_numberOf_L5 : Nat → Int32 → Int64 → Int32 → St → Option (Int64)
  | 0, _, _, _, _ => none
  | n + 1, x1, x2, x4, u =>
    bP (mC_Text_sizeOf x1 u) fun r1 =>
    if r1 ≤ x4 then
      some x2
    else
      bP (mC_Text_startOf x1 u) fun r2 =>
      bP (mC_Text_at_11 (r2 + x4) u) fun r3 =>
      seq (((x2 * 10) + (Int32.toInt64 (r3 - 48))) : Int64) fun y4 =>
      seq (x4 + 1 : Int32) fun y5 =>
      (mC_Tokens_numberOf_L5 n) x1 y4 y5 u
def mC_Tokens_numberOf (x1 : Int32) (u : St) : Option (Int64) :=
  mC_Tokens_numberOf_L5 FU x1 0 0 u
def mC_Parser_leaf (u : St) : Option (Int32 × St) :=
  bM (mC_Tokens_take 2 u) fun r1 u2 =>
  if r1 < 0 then
    bM (mC_Tokens_take 3 u2) fun r3 u4 =>
    if r3 < 0 then
      bM (mC_Tokens_take 4 u4) fun r5 u6 =>
      if r5 < 0 then
        bM (mC_Tokens_takes 14 u6) fun r7 u8 =>
        if r7 = 0 then
          bM (mC_Tokens_takes 15 u8) fun r9 u10 =>
          if r9 = 0 then
            bM (mC_Tokens_takes 16 u10) fun r11 u12 =>
            if r11 = 0 then
              some ((-1), u12)
            else
              bM (mC_Nodes_leaf 3 0 (-1) (-1) u12) fun r13 u14 =>
              some (r13, u14)
          else
            bM (mC_Nodes_leaf 3 1 (-1) (-1) u10) fun r15 u16 =>
            some (r15, u16)
        else
          bM (mC_Nodes_leaf 0 (-1) (-1) (-1) u8) fun r17 u18 =>
          some (r17, u18)
      else
        bP (mC_Tokens_numberOf r5 u6) fun r19 =>
        bM (mC_Nodes_leaf 28 (Int64.toInt32 r19) (-1) (-1) u6) fun r20 u21 =>
        some (r20, u21)
    else
      bM (mC_Nodes_leaf 2 (-1) r3 (-1) u4) fun r22 u23 =>
      some (r22, u23)
  else
    bM (mC_Nodes_leaf 1 (-1) r1 (-1) u2) fun r24 u25 =>
    some (r24, u25)
def mC_Parser_place_J26 (x1 : Int32) (u : St) : Option (Int32 × St) :=
  if 0 ≤ x1 then
    bM (mC_Nodes_leaf 4 (-1) x1 (-1) u) fun r3 u4 =>
    some (r3, u4)
  else
    some ((-1), u)
def mC_Parser_place (u : St) : Option (Int32 × St) :=
  bM (mC_Tokens_take 1 u) fun r1 u2 =>
  if r1 < 0 then
    mC_Parser_place_J26 r1 u2
  else
    bM (mC_Tokens_takes 17 u2) fun r5 u6 =>
    if r5 = 0 then
      mC_Parser_place_J26 r1 u6
    else
      bM (mC_Tokens_take 1 u6) fun r7 u8 =>
      if 0 ≤ r7 then
        bM (mC_Nodes_leaf 4 (-1) r7 r1 u8) fun r9 u10 =>
        some (r9, u10)
      else
        some ((-1), u8)
def rmGC (n : Nat) : Room := { frames := n + 6, cells := 0, slots := 0, locals := 31 * n + 131 }
def mC_Parser_aggregated_J62 (rc : Nat → Int32 → Int32 → Int32 → Int32 → St → Option (Int32 × St)) (s0 : Int32) (u : St) : Option (Int32 × St) :=
  bM (mC_Tokens_takes 9 u) fun r7 u8 =>
  if r7 = 0 then
    some ((-1), u8)
  else
    some (s0, u8)
def mC_Parser_aggregated_J46 (rc : Nat → Int32 → Int32 → Int32 → Int32 → St → Option (Int32 × St)) (x1 : Int32) (x2 : Int32) (u : St) : Option (Int32 × St) :=
  bM (rc 5 1 (x2 + 1) 0 0 u) fun r3 u4 =>
  bM (mC_Nodes_top x1 r3 u4) fun r5 u6 =>
  mC_Parser_aggregated_J62 rc r5 u6
def mC_Parser_aggregated_o (rc : Nat → Int32 → Int32 → Int32 → Int32 → St → Option (Int32 × St)) (x1 : Int32) (x2 : Int32) (u : St) : Option (Int32 × St) :=
  bM (mC_Tokens_takes 8 u) fun r1 u2 =>
  if r1 = 0 then
    some ((-1), u2)
  else
    if x1 = 6 then
      bM (mC_Tokens_takes 5 u2) fun r9 u10 =>
      if r9 = 0 then
        mC_Parser_aggregated_J46 rc x1 x2 u10
      else
        bM (mC_Nodes_leaf 5 (-1) (-1) (-1) u10) fun r11 u12 =>
        mC_Parser_aggregated_J62 rc r11 u12
    else
      mC_Parser_aggregated_J46 rc x1 x2 u2
def mC_Parser_operand_J92 (rc : Nat → Int32 → Int32 → Int32 → Int32 → St → Option (Int32 × St)) (x1 : Int32) (s0 : Int32) (u : St) : Option (Int32 × St) :=
  if s0 < 0 then
    bM (mC_Parser_leaf u) fun r5 u6 =>
    if 0 ≤ r5 then
      some (r5, u6)
    else
      bM (mC_Parser_place u6) fun r7 u8 =>
      some (r7, u8)
  else
    bM (rc 0 s0 x1 0 0 u) fun r9 u10 =>
    some (r9, u10)
def mC_Parser_operand_o (rc : Nat → Int32 → Int32 → Int32 → Int32 → St → Option (Int32 × St)) (x1 : Int32) (u : St) : Option (Int32 × St) :=
  if x1 ≤ 20 then
    bM (mC_Tokens_takes 7 u) fun r1 u2 =>
    if r1 = 0 then
      bM (mC_Tokens_takes 8 u2) fun r3 u4 =>
      if r3 = 0 then
        if (u4.1 23) = 0 then
          mC_Parser_operand_J92 rc x1 (-1) u4
        else
          bM (mC_Parser_aggregate u4) fun r11 u12 =>
          mC_Parser_operand_J92 rc x1 r11 u12
      else
        bM (rc 5 1 (x1 + 1) 0 0 u4) fun r13 u14 =>
        bM (mC_Tokens_takes 9 u14) fun r15 u16 =>
        if r15 = 0 then
          some ((-1), u16)
        else
          some (r13, u16)
    else
      bM (rc 1 (x1 + 1) 0 0 0 u2) fun r17 u18 =>
      bM (mC_Nodes_top 10 r17 u18) fun r19 u20 =>
      some (r19, u20)
  else
    some ((-1), u)
def mC_Parser_among_L37 (rc : Nat → Int32 → Int32 → Int32 → Int32 → St → Option (Int32 × St)) : Nat → Int32 → Int32 → Int32 → Int32 → Int32 → St → Option (Int32 × St)
  | 0, _, _, _, _, _, _ => none
  | n + 1, x1, x2, x3, x4, x5, u =>
    if 2000 ≤ x5 then
      bM (mC_Tokens_takes 9 u) fun r7 u8 =>
      if r7 = 0 then
        some ((-1), u8)
      else
        some (x4, u8)
    else
      if x4 < 0 then
        bM (mC_Tokens_takes 9 u) fun r9 u10 =>
        if r9 = 0 then
          some ((-1), u10)
        else
          some (x4, u10)
      else
        bM (mC_Tokens_takes 33 u) fun r11 u12 =>
        if r11 = 0 then
          bM (mC_Tokens_takes 9 u12) fun r13 u14 =>
          if r13 = 0 then
            some ((-1), u14)
          else
            some (x4, u14)
        else
          bM (mC_Nodes_again x1 x2 u12) fun r15 u16 =>
          bM (rc 5 1 (x3 + 1) 0 0 u16) fun r17 u18 =>
          bM (mC_Nodes_join 17 r15 r17 u18) fun r19 u20 =>
          bM (mC_Nodes_join 27 x4 r19 u20) fun r21 u22 =>
          seq (x5 + 1 : Int32) fun y23 =>
          (mC_Parser_among_L37 rc n) x1 x2 x3 r21 y23 u22
def mC_Parser_among_o (rc : Nat → Int32 → Int32 → Int32 → Int32 → St → Option (Int32 × St)) (x1 : Int32) (x2 : Int32) (x3 : Int32) (u : St) : Option (Int32 × St) :=
  bM (mC_Tokens_takes 8 u) fun r1 u2 =>
  if r1 = 0 then
    some ((-1), u2)
  else
    bM (rc 5 1 (x3 + 1) 0 0 u2) fun r3 u4 =>
    bM (mC_Nodes_join 17 x2 r3 u4) fun r5 u6 =>
    mC_Parser_among_L37 rc FU x1 x2 x3 r5 0 u6
def mC_Parser_between_o (rc : Nat → Int32 → Int32 → Int32 → Int32 → St → Option (Int32 × St)) (x1 : Int32) (x2 : Int32) (x3 : Int32) (u : St) : Option (Int32 × St) :=
  bM (rc 5 5 x3 0 0 u) fun r1 u2 =>
  bM (mC_Nodes_join 22 x2 r1 u2) fun r3 u4 =>
  if r3 < 0 then
    some ((-1), u4)
  else
    bM (mC_Tokens_takes 19 u4) fun r5 u6 =>
    if r5 = 0 then
      some ((-1), u6)
    else
      bM (mC_Nodes_again x1 x2 u6) fun r7 u8 =>
      bM (rc 5 5 x3 0 0 u8) fun r9 u10 =>
      bM (mC_Nodes_join 20 r7 r9 u10) fun r11 u12 =>
      bM (mC_Nodes_join 26 r3 r11 u12) fun r13 u14 =>
      some (r13, u14)
def mC_Parser_comparison_J158 (rc : Nat → Int32 → Int32 → Int32 → Int32 → St → Option (Int32 × St)) (x5 : Int32) (x6 : Int32) (u : St) : Option (Int32 × St) :=
  if x5 = 0 then
    some (x6, u)
  else
    bM (mC_Nodes_top 25 x6 u) fun r3 u4 =>
    some (r3, u4)
def mC_Parser_comparison_J129 (rc : Nat → Int32 → Int32 → Int32 → Int32 → St → Option (Int32 × St)) (x1 : Int32) (x2 : Int32) (x3 : Int32) (x4 : Int32) (x5 : Int32) (x6 : Int32) (u : St) : Option (Int32 × St) :=
  if x1 = 30 then
    bM (rc 2 x2 x3 x4 0 u) fun r5 u6 =>
    mC_Parser_comparison_J158 rc x5 r5 u6
  else
    bM (mC_Tokens_takes 22 u) fun r7 u8 =>
    if r7 = 0 then
      mC_Parser_comparison_J158 rc x5 x6 u8
    else
      bM (rc 2 x2 x3 x4 0 u8) fun r9 u10 =>
      mC_Parser_comparison_J158 rc x5 r9 u10
def mC_Parser_comparison_J87 (rc : Nat → Int32 → Int32 → Int32 → Int32 → St → Option (Int32 × St)) (x1 : Int32) (x2 : Int32) (x3 : Int32) (x4 : Int32) (s0 : Int32) (u : St) : Option (Int32 × St) :=
  if x1 = 29 then
    bM (rc 3 x2 x3 x4 0 u) fun r1 u2 =>
    mC_Parser_comparison_J158 rc s0 r1 u2
  else
    if s0 = 0 then
      mC_Parser_comparison_J129 rc x1 x2 x3 x4 s0 (-1) u
    else
      bM (mC_Tokens_takes 21 u) fun r11 u12 =>
      if r11 = 0 then
        mC_Parser_comparison_J129 rc x1 x2 x3 x4 s0 (-1) u12
      else
        bM (rc 3 x2 x3 x4 0 u12) fun r13 u14 =>
        mC_Parser_comparison_J158 rc s0 r13 u14
def mC_Parser_comparison_J24 (rc : Nat → Int32 → Int32 → Int32 → Int32 → St → Option (Int32 × St)) (x3 : Int32) (s0 : Int32) (u : St) : Option (Int32 × St) :=
  bM (mC_Tokens_takes 14 u) fun r21 u22 =>
  if r21 = 0 then
    some ((-1), u22)
  else
    bM (mC_Nodes_top s0 x3 u22) fun r23 u24 =>
    some (r23, u24)
def mC_Parser_comparison_o (rc : Nat → Int32 → Int32 → Int32 → Int32 → St → Option (Int32 × St)) (x1 : Int32) (x2 : Int32) (x3 : Int32) (x4 : Int32) (u : St) : Option (Int32 × St) :=
  if x1 = 23 then
    bM (mC_Tokens_takes 6 u) fun r19 u20 =>
    if r19 = 0 then
      mC_Parser_comparison_J24 rc x3 x1 u20
    else
      mC_Parser_comparison_J24 rc x3 24 u20
  else
    if 29 ≤ x1 then
      if x1 = 31 then
        mC_Parser_comparison_J87 rc x1 x2 x3 x4 1 u
      else
        mC_Parser_comparison_J87 rc x1 x2 x3 x4 0 u
    else
      bM (rc 5 5 x4 0 0 u) fun r15 u16 =>
      bM (mC_Nodes_join x1 x3 r15 u16) fun r17 u18 =>
      some (r17, u18)
def mC_Parser_expression_J130 (rc : Nat → Int32 → Int32 → Int32 → Int32 → St → Option (Int32 × St)) (q88 : Int32 → Int32 → Int32 → Int32 → Int32 → Int32 → St → Option (Int32 × St)) (x1 : Int32) (x2 : Int32) (x3 : Int32) (x5 : Int32) (x6 : Int32) (x7 : Int32) (x8 : Int32) (s0 : Int32) (u : St) : Option (Int32 × St) :=
  bP (mC_Parser_levelOf s0 u) fun r7 =>
  if r7 < x1 then
    bP (mC_Tokens_backTo x8 u) fun u8 =>
    some (x6, u8)
  else
    if r7 ≤ x5 then
      if r7 = 4 then
        bM (rc 4 s0 x3 x6 x2 u) fun r14 u15 =>
        seq (x7 + 1 : Int32) fun y16 =>
        q88 x1 x2 x3 2 r14 y16 u15
      else
        bM (rc 5 (r7 + 1) x2 0 0 u) fun r9 u10 =>
        bM (mC_Nodes_join s0 x6 r9 u10) fun r11 u12 =>
        seq (x7 + 1 : Int32) fun y13 =>
        q88 x1 x2 x3 r7 r11 y13 u12
    else
      bP (mC_Tokens_backTo x8 u) fun u17 =>
      some (x6, u17)
def mC_Parser_expression_L88 (rc : Nat → Int32 → Int32 → Int32 → Int32 → St → Option (Int32 × St)) : Nat → Int32 → Int32 → Int32 → Int32 → Int32 → Int32 → St → Option (Int32 × St)
  | 0, _, _, _, _, _, _, _ => none
  | n + 1, x1, x2, x3, x5, x6, x7, u =>
    if 2000 ≤ x7 then
      some (x6, u)
    else
      if x6 < 0 then
        some (x6, u)
      else
        bP (mC_Tokens_mark u) fun r4 =>
        bM (mC_Parser_wordBehind u) fun r5 u6 =>
        if 0 ≤ r5 then
          mC_Parser_expression_J130 rc (mC_Parser_expression_L88 rc n) x1 x2 x3 x5 x6 x7 r4 r5 u6
        else
          bM (mC_Parser_signBehind u6) fun r18 u19 =>
          mC_Parser_expression_J130 rc (mC_Parser_expression_L88 rc n) x1 x2 x3 x5 x6 x7 r4 r18 u19
def mC_Parser_expression_J51 (rc : Nat → Int32 → Int32 → Int32 → Int32 → St → Option (Int32 × St)) (x1 : Int32) (x2 : Int32) (x3 : Int32) (x4 : Int32) (s0 : Int32) (u : St) : Option (Int32 × St) :=
  if x4 = 0 then
    bM (rc 1 x2 0 0 0 u) fun r2 u3 =>
    mC_Parser_expression_L88 rc FU x1 x2 x3 s0 r2 0 u3
  else
    bM (rc 5 3 (x2 + 1) 0 0 u) fun r20 u21 =>
    bM (mC_Nodes_top 25 r20 u21) fun r22 u23 =>
    mC_Parser_expression_L88 rc FU x1 x2 x3 s0 r22 0 u23
def mC_Parser_expression_J37 (rc : Nat → Int32 → Int32 → Int32 → Int32 → St → Option (Int32 × St)) (x1 : Int32) (x2 : Int32) (x3 : Int32) (u : St) : Option (Int32 × St) :=
  mC_Parser_expression_J51 rc x1 x2 x3 0 7 u
def mC_Parser_expression_o (rc : Nat → Int32 → Int32 → Int32 → Int32 → St → Option (Int32 × St)) (x1 : Int32) (x2 : Int32) (u : St) : Option (Int32 × St) :=
  if x2 ≤ 20 then
    bP (mC_Nodes_size u) fun r1 =>
    if 3 < x1 then
      mC_Parser_expression_J37 rc x1 x2 r1 u
    else
      bM (mC_Tokens_takes 6 u) fun r24 u25 =>
      if r24 = 0 then
        mC_Parser_expression_J37 rc x1 x2 r1 u25
      else
        mC_Parser_expression_J51 rc x1 x2 r1 1 2 u25
  else
    some ((-1), u)
def grpC : Nat → Nat → Int32 → Int32 → Int32 → Int32 → St → Option (Int32 × St)
  | 0, _, _, _, _, _, _ => none
  | n + 1, t, a, b, c, d, u => match t with
    | 0 => mC_Parser_aggregated_o (grpC n) a b u
    | 1 => mC_Parser_operand_o (grpC n) a u
    | 2 => mC_Parser_among_o (grpC n) a b c u
    | 3 => mC_Parser_between_o (grpC n) a b c u
    | 4 => mC_Parser_comparison_o (grpC n) a b c d u
    | 5 => mC_Parser_expression_o (grpC n) a b u
    | _ => none
def mC_Parser_aggregated (n : Nat) (x1 : Int32) (x2 : Int32) (u : St) : Option (Int32 × St) := grpC n 0 x1 x2 0 0 u
def mC_Parser_operand (n : Nat) (x1 : Int32) (u : St) : Option (Int32 × St) := grpC n 1 x1 0 0 0 u
def mC_Parser_among (n : Nat) (x1 : Int32) (x2 : Int32) (x3 : Int32) (u : St) : Option (Int32 × St) := grpC n 2 x1 x2 x3 0 u
def mC_Parser_between (n : Nat) (x1 : Int32) (x2 : Int32) (x3 : Int32) (u : St) : Option (Int32 × St) := grpC n 3 x1 x2 x3 0 u
def mC_Parser_comparison (n : Nat) (x1 : Int32) (x2 : Int32) (x3 : Int32) (x4 : Int32) (u : St) : Option (Int32 × St) := grpC n 4 x1 x2 x3 x4 u
def mC_Parser_expression (n : Nat) (x1 : Int32) (x2 : Int32) (u : St) : Option (Int32 × St) := grpC n 5 x1 x2 0 0 u
def mC_Lists_add (x1 : Int32) (x2 : Int32) (u : St) : Option (St) :=
  if x1 < 0 then
    seq (ss u 8 1) fun u1 =>
    some u1
  else
    if 14 ≤ x1 then
      seq (ss u 8 1) fun u2 =>
      some u2
    else
      gd (inb x1 14) <|
      gd (inb x1 (lnT 0)) <|
      if (ga u 17 x1) < (gst 0 x1) then
        gd (inb x1 (lnT 1)) <|
        gd (inb x1 14) <|
        gd (inb ((gst 1 x1) + (ga u 17 x1)) 666) <| seq (sa u 18 ((gst 1 x1) + (ga u 17 x1)) x2) fun u3 =>
        gd (inb x1 14) <|
        gd (inb x1 14) <| seq (sa u3 17 x1 ((ga u3 17 x1) + 1)) fun u4 =>
        some u4
      else
        seq (ss u 8 1) fun u5 =>
        some u5
def mC_Parser_expressions_L2 : Nat → Int32 → Int32 → St → Option (Int32 × St)
  | 0, _, _, _ => none
  | n + 1, x1, x2, u =>
    if 2000 ≤ x2 then
      some (0, u)
    else
      bM (mC_Parser_expression DP 1 0 u) fun r1 u2 =>
      if 0 ≤ r1 then
        bP (mC_Lists_add x1 r1 u2) fun u3 =>
        bM (mC_Tokens_takes 33 u3) fun r4 u5 =>
        if r4 = 0 then
          some (1, u5)
        else
          seq (x2 + 1 : Int32) fun y6 =>
          (mC_Parser_expressions_L2 n) x1 y6 u5
      else
        some (0, u2)
def mC_Parser_expressions (x1 : Int32) (u : St) : Option (Int32 × St) :=
  mC_Parser_expressions_L2 FU x1 0 u
def mC_Parser_tableOfQuery (u : St) : Option (Int32 × St) :=
  bM (mC_Tokens_take 1 u) fun r1 u2 =>
  bP (mC_Lists_add 10 r1 u2) fun u3 =>
  bM (mC_Tokens_take 1 u3) fun r4 u5 =>
  bP (mC_Lists_add 11 r4 u5) fun u6 =>
  if r1 < 0 then
    some (0, u6)
  else
    some (1, u6)
def mC_Parser_from_L27 : Nat → Int32 → Int32 → St → Option (Int32 × St)
  | 0, _, _, _ => none
  | n + 1, x1, x2, u =>
    if 2000 ≤ x2 then
      gd (zb x1) <| some (x1, u)
    else
      if x1 = 0 then
        gd (zb x1) <| some (x1, u)
      else
        bM (mC_Tokens_takes 33 u) fun r3 u4 =>
        if r3 = 0 then
          gd (zb x1) <| some (x1, u4)
        else
          bM (mC_Parser_tableOfQuery u4) fun r5 u6 =>
          seq (x2 + 1 : Int32) fun y7 =>
          (mC_Parser_from_L27 n) r5 y7 u6
def mC_Parser_from (u : St) : Option (Int32 × St) :=
  bM (mC_Tokens_takes 34 u) fun r1 u2 =>
  if r1 = 0 then
    mC_Parser_from_L27 FU 0 0 u2
  else
    bM (mC_Parser_tableOfQuery u2) fun r8 u9 =>
    if r8 = 0 then
      mC_Parser_from_L27 FU 0 0 u9
    else
      mC_Parser_from_L27 FU 1 0 u9
def mC_Parser_where (u : St) : Option (Int32 × St) :=
  bM (mC_Tokens_takes 35 u) fun r1 u2 =>
  if r1 = 0 then
    some (1, u2)
  else
    bM (mC_Parser_expression DP 1 0 u2) fun r3 u4 =>
    seq (ss u4 18 r3) fun u5 =>
    if (u5.1 18) < 0 then
      some (0, u5)
    else
      some (1, u5)
def mC_Parser_group (u : St) : Option (Int32 × St) :=
  bM (mC_Parser_place u) fun r1 u2 =>
  if r1 < 0 then
    if r1 < 0 then
      some (0, u2)
    else
      some (1, u2)
  else
    bP (mC_Lists_add 1 r1 u2) fun u3 =>
    if r1 < 0 then
      some (0, u3)
    else
      some (1, u3)
def mC_Parser_groups_L41 : Nat → Int32 → Int32 → St → Option (Int32 × St)
  | 0, _, _, _ => none
  | n + 1, x1, x2, u =>
    if 2000 ≤ x2 then
      gd (zb x1) <| some (x1, u)
    else
      if x1 = 0 then
        gd (zb x1) <| some (x1, u)
      else
        bM (mC_Tokens_takes 33 u) fun r5 u6 =>
        if r5 = 0 then
          gd (zb x1) <| some (x1, u6)
        else
          bM (mC_Parser_group u6) fun r7 u8 =>
          seq (x2 + 1 : Int32) fun y9 =>
          (mC_Parser_groups_L41 n) r7 y9 u8
def mC_Parser_groups (u : St) : Option (Int32 × St) :=
  bM (mC_Tokens_takes 36 u) fun r1 u2 =>
  if r1 = 0 then
    some (1, u2)
  else
    bM (mC_Tokens_takes 37 u2) fun r3 u4 =>
    if r3 = 0 then
      mC_Parser_groups_L41 FU 0 0 u4
    else
      bM (mC_Parser_group u4) fun r10 u11 =>
      if r10 = 0 then
        mC_Parser_groups_L41 FU 0 0 u11
      else
        mC_Parser_groups_L41 FU 1 0 u11
def mC_Parser_order_J47 (s0 : Int32) (u : St) : Option (Int32 × St) :=
  bM (mC_Tokens_takes 39 u) fun r4 u5 =>
  if r4 = 0 then
    bP (mC_Lists_add 2 s0 u5) fun u6 =>
    some (1, u6)
  else
    bP (mC_Lists_add 2 ((-1) - s0) u5) fun u7 =>
    some (1, u7)
def mC_Parser_order (u : St) : Option (Int32 × St) :=
  bM (mC_Tokens_take 2 u) fun r1 u2 =>
  if 0 ≤ r1 then
    bP (mC_Tokens_numberOf r1 u2) fun r3 =>
    if (lg_cmp r3 1) < 0 then
      mC_Parser_order_J47 8 u2
    else
      if (lg_cmp r3 8) ≤ 0 then
        mC_Parser_order_J47 ((Int64.toInt32 r3) - 1) u2
      else
        mC_Parser_order_J47 8 u2
  else
    some (0, u2)
def mC_Parser_orders_L42 : Nat → Int32 → Int32 → St → Option (Int32 × St)
  | 0, _, _, _ => none
  | n + 1, x1, x2, u =>
    if 2000 ≤ x2 then
      gd (zb x1) <| some (x1, u)
    else
      if x1 = 0 then
        gd (zb x1) <| some (x1, u)
      else
        bM (mC_Tokens_takes 33 u) fun r5 u6 =>
        if r5 = 0 then
          gd (zb x1) <| some (x1, u6)
        else
          bM (mC_Parser_order u6) fun r7 u8 =>
          seq (x2 + 1 : Int32) fun y9 =>
          (mC_Parser_orders_L42 n) r7 y9 u8
def mC_Parser_orders (u : St) : Option (Int32 × St) :=
  bM (mC_Tokens_takes 38 u) fun r1 u2 =>
  if r1 = 0 then
    some (1, u2)
  else
    bM (mC_Tokens_takes 37 u2) fun r3 u4 =>
    if r3 = 0 then
      mC_Parser_orders_L42 FU 0 0 u4
    else
      bM (mC_Parser_order u4) fun r10 u11 =>
      if r10 = 0 then
        mC_Parser_orders_L42 FU 0 0 u11
      else
        mC_Parser_orders_L42 FU 1 0 u11
def mC_Parser_limit (u : St) : Option (Int32 × St) :=
  bM (mC_Tokens_takes 40 u) fun r1 u2 =>
  if r1 = 0 then
    some (1, u2)
  else
    bM (mC_Tokens_take 2 u2) fun r3 u4 =>
    bP (mC_Tokens_numberOf r3 u4) fun r5 =>
    seq (ss u4 17 (Int64.toInt32 (if 2147483647 < r5 then 2147483647 else r5))) fun u6 =>
    if r3 < 0 then
      some (0, u6)
    else
      some (1, u6)
def mC_Parser_lock (u : St) : Option (Int32 × St) :=
  bM (mC_Tokens_takes 41 u) fun r1 u2 =>
  if r1 = 0 then
    some (1, u2)
  else
    bM (mC_Tokens_takes 42 u2) fun r3 u4 =>
    if r3 = 0 then
      bM (mC_Tokens_takes 43 u4) fun r5 u6 =>
      if r5 = 0 then
        seq (ss u6 16 0) fun u7 =>
        if (u7.1 16) ≤ 0 then
          some (0, u7)
        else
          some (1, u7)
      else
        seq (ss u6 16 2) fun u8 =>
        if (u8.1 16) ≤ 0 then
          some (0, u8)
        else
          some (1, u8)
    else
      seq (ss u4 16 1) fun u9 =>
      if (u9.1 16) ≤ 0 then
        some (0, u9)
      else
        some (1, u9)
def mC_Parser_is (x1 : Int32) (u : St) : Option (Int32 × St) :=
  seq (ss u 10 x1) fun u1 =>
  some (1, u1)
def mC_Parser_query_J60 (x1 : Int32) (s0 : Int32) (u : St) : Option (Int32 × St) :=
  seq (ss u 23 0) fun u8 =>
  if s0 = 0 then
    some (0, u8)
  else
    bM (mC_Parser_from u8) fun r9 u10 =>
    if r9 = 0 then
      some (0, u10)
    else
      bM (mC_Parser_where u10) fun r11 u12 =>
      if r11 = 0 then
        some (0, u12)
      else
        bM (mC_Parser_groups u12) fun r13 u14 =>
        if r13 = 0 then
          some (0, u14)
        else
          bM (mC_Parser_orders u14) fun r15 u16 =>
          if r15 = 0 then
            some (0, u16)
          else
            bM (mC_Parser_limit u16) fun r17 u18 =>
            if r17 = 0 then
              some (0, u18)
            else
              bM (mC_Parser_lock u18) fun r19 u20 =>
              if r19 = 0 then
                some (0, u20)
              else
                bM (mC_Parser_is x1 u20) fun r21 u22 =>
                if r21 = 0 then
                  some (0, u22)
                else
                  some (1, u22)
def mC_Parser_query (x1 : Int32) (u : St) : Option (Int32 × St) :=
  bM (mC_Tokens_takes 4 u) fun r1 u2 =>
  gd (zb r1) <| seq (ss u2 20 r1) fun u3 =>
  bM (mC_Tokens_takes 5 u3) fun r4 u5 =>
  gd (zb r4) <| seq (ss u5 21 r4) fun u6 =>
  seq (ss u6 23 1) fun u7 =>
  if (u7.1 21) = 0 then
    bM (mC_Parser_expressions 0 u7) fun r23 u24 =>
    if r23 = 0 then
      mC_Parser_query_J60 x1 0 u24
    else
      mC_Parser_query_J60 x1 1 u24
  else
    mC_Parser_query_J60 x1 1 u7
def mC_Parser_target (u : St) : Option (Int32 × St) :=
  bM (mC_Tokens_take 1 u) fun r1 u2 =>
  seq (ss u2 12 r1) fun u3 =>
  if (u3.1 12) < 0 then
    some (0, u3)
  else
    some (1, u3)
def mC_Lists_size (x1 : Int32) (u : St) : Option (Int32) :=
  if x1 < 0 then
    some 0
  else
    if x1 < 14 then
      gd (inb x1 14) <|
      some (ga u 17 x1)
    else
      some 0
def mC_Parser_rows_J101 (x1 : Int32) (u : St) : Option (Int32 × St) :=
  if x1 = 0 then
    some (0, u)
  else
    bM (mC_Parser_is 4 u) fun r3 u4 =>
    if r3 = 0 then
      some (0, u4)
    else
      some (1, u4)
def mC_Parser_rows_J61 (q12 : Int32 → Int32 → St → Option (Int32 × St)) (x2 : Int32) (s0 : Int32) (u : St) : Option (Int32 × St) :=
  bP (mC_Lists_size 6 u) fun r7 =>
  bP (mC_Lists_add 12 r7 u) fun u8 =>
  bM (mC_Tokens_takes 33 u8) fun r9 u10 =>
  if r9 = 0 then
    mC_Parser_rows_J101 s0 u10
  else
    seq (x2 + 1 : Int32) fun y11 =>
    q12 s0 y11 u10
def mC_Parser_rows_L12 : Nat → Int32 → Int32 → St → Option (Int32 × St)
  | 0, _, _, _ => none
  | n + 1, x1, x2, u =>
    if 2000 ≤ x2 then
      mC_Parser_rows_J101 x1 u
    else
      if x1 = 0 then
        mC_Parser_rows_J101 x1 u
      else
        bM (mC_Tokens_takes 8 u) fun r5 u6 =>
        if r5 = 0 then
          mC_Parser_rows_J61 (mC_Parser_rows_L12 n) x2 0 u6
        else
          bM (mC_Parser_expressions 6 u6) fun r12 u13 =>
          if r12 = 0 then
            mC_Parser_rows_J61 (mC_Parser_rows_L12 n) x2 0 u13
          else
            bM (mC_Tokens_takes 9 u13) fun r14 u15 =>
            if r14 = 0 then
              mC_Parser_rows_J61 (mC_Parser_rows_L12 n) x2 0 u15
            else
              mC_Parser_rows_J61 (mC_Parser_rows_L12 n) x2 1 u15
def mC_Parser_rows (u : St) : Option (Int32 × St) :=
  bM (mC_Tokens_takes 46 u) fun r1 u2 =>
  mC_Parser_rows_L12 FU r1 0 u2
def mC_Parser_setting_J35 (x1 : Int32) (s0 : Int32) (u : St) : Option (Int32 × St) :=
  bP (mC_Lists_add 13 x1 u) fun u3 =>
  bP (mC_Lists_add 5 s0 u3) fun u4 =>
  if s0 < 0 then
    some (0, u4)
  else
    some (1, u4)
def mC_Parser_setting (u : St) : Option (Int32 × St) :=
  bM (mC_Tokens_take 1 u) fun r1 u2 =>
  if r1 < 0 then
    mC_Parser_setting_J35 r1 (-1) u2
  else
    bM (mC_Tokens_takes 23 u2) fun r5 u6 =>
    if r5 = 0 then
      mC_Parser_setting_J35 r1 (-1) u6
    else
      bM (mC_Parser_expression DP 1 0 u6) fun r7 u8 =>
      mC_Parser_setting_J35 r1 r7 u8
def mC_Parser_ownTable (u : St) : Option (St) :=
  bP (mC_Lists_add 10 (u.1 12) u) fun u1 =>
  bP (mC_Lists_add 11 (-1) u1) fun u2 =>
  some u2
def mC_Parser_update_J68 (x1 : Int32) (u : St) : Option (Int32 × St) :=
  bP (mC_Parser_ownTable u) fun u3 =>
  if x1 = 0 then
    some (0, u3)
  else
    bM (mC_Parser_where u3) fun r4 u5 =>
    if r4 = 0 then
      some (0, u5)
    else
      bM (mC_Parser_is 6 u5) fun r6 u7 =>
      if r6 = 0 then
        some (0, u7)
      else
        some (1, u7)
def mC_Parser_update_L34 : Nat → Int32 → Int32 → St → Option (Int32 × St)
  | 0, _, _, _ => none
  | n + 1, x1, x2, u =>
    if 2000 ≤ x2 then
      mC_Parser_update_J68 x1 u
    else
      if x1 = 0 then
        mC_Parser_update_J68 x1 u
      else
        bM (mC_Tokens_takes 33 u) fun r8 u9 =>
        if r8 = 0 then
          mC_Parser_update_J68 x1 u9
        else
          bM (mC_Parser_setting u9) fun r10 u11 =>
          seq (x2 + 1 : Int32) fun y12 =>
          (mC_Parser_update_L34 n) r10 y12 u11
def mC_Parser_update (u : St) : Option (Int32 × St) :=
  bM (mC_Parser_target u) fun r1 u2 =>
  if r1 = 0 then
    mC_Parser_update_L34 FU 0 0 u2
  else
    bM (mC_Tokens_takes 47 u2) fun r13 u14 =>
    if r13 = 0 then
      mC_Parser_update_L34 FU 0 0 u14
    else
      bM (mC_Parser_setting u14) fun r15 u16 =>
      if r15 = 0 then
        mC_Parser_update_L34 FU 0 0 u16
      else
        mC_Parser_update_L34 FU 1 0 u16
def mC_Parser_delete_J24 (s0 : Int32) (u : St) : Option (Int32 × St) :=
  bP (mC_Parser_ownTable u) fun u3 =>
  if s0 = 0 then
    some (0, u3)
  else
    bM (mC_Parser_where u3) fun r4 u5 =>
    if r4 = 0 then
      some (0, u5)
    else
      bM (mC_Parser_is 7 u5) fun r6 u7 =>
      if r6 = 0 then
        some (0, u7)
      else
        some (1, u7)
def mC_Parser_delete (u : St) : Option (Int32 × St) :=
  bM (mC_Tokens_takes 34 u) fun r1 u2 =>
  if r1 = 0 then
    mC_Parser_delete_J24 0 u2
  else
    bM (mC_Parser_target u2) fun r8 u9 =>
    if r8 = 0 then
      mC_Parser_delete_J24 0 u9
    else
      mC_Parser_delete_J24 1 u9
def mC_Parser_execute_J48 (x1 : Int32) (u : St) : Option (Int32 × St) :=
  if x1 = 0 then
    some (0, u)
  else
    bM (mC_Parser_is 17 u) fun r3 u4 =>
    if r3 = 0 then
      some (0, u4)
    else
      some (1, u4)
def mC_Parser_execute (u : St) : Option (Int32 × St) :=
  bM (mC_Parser_title u) fun r1 u2 =>
  if r1 = 0 then
    mC_Parser_execute_J48 r1 u2
  else
    bM (mC_Tokens_takes 8 u2) fun r5 u6 =>
    if r5 = 0 then
      mC_Parser_execute_J48 r1 u6
    else
      bM (mC_Parser_expressions 9 u6) fun r7 u8 =>
      if r7 = 0 then
        mC_Parser_execute_J48 0 u8
      else
        bM (mC_Tokens_takes 9 u8) fun r9 u10 =>
        if r9 = 0 then
          mC_Parser_execute_J48 0 u10
        else
          mC_Parser_execute_J48 1 u10
def mC_Parser_typeWord (u : St) : Option (Int32 × St) :=
  bM (mC_Tokens_takes 52 u) fun r1 u2 =>
  if r1 = 0 then
    bM (mC_Tokens_takes 53 u2) fun r3 u4 =>
    if r3 = 0 then
      bM (mC_Tokens_takes 54 u4) fun r5 u6 =>
      if r5 = 0 then
        some (0, u6)
      else
        some (3, u6)
    else
      some (2, u4)
  else
    some (1, u2)
def mC_Parser_newColumn_J90 (x4 : Int32) (s1 : Int32) (s2 : Int32) (s3 : Int32) (u : St) : Option (Int32 × St) :=
  if x4 = 0 then
    bP (mC_Lists_add s1 ((s2 + s3) + 0) u) fun u10 =>
    some (1, u10)
  else
    bP (mC_Lists_add s1 ((s2 + s3) + 20) u) fun u11 =>
    some (1, u11)
def mC_Parser_newColumn_J52 (x1 : Int32) (x2 : Int32) (x3 : Int32) (u : St) : Option (Int32 × St) :=
  bM (mC_Tokens_takes 55 u) fun r7 u8 =>
  bP (mC_Lists_add 13 x1 u8) fun u9 =>
  if x3 = 0 then
    mC_Parser_newColumn_J90 r7 7 x2 0 u9
  else
    mC_Parser_newColumn_J90 r7 7 x2 10 u9
def mC_Parser_newColumn (u : St) : Option (Int32 × St) :=
  bM (mC_Tokens_take 1 u) fun r1 u2 =>
  bM (mC_Parser_typeWord u2) fun r3 u4 =>
  if r1 < 0 then
    some (0, u4)
  else
    if r3 = 0 then
      some (0, u4)
    else
      bM (mC_Tokens_takes 6 u4) fun r5 u6 =>
      if r5 = 0 then
        mC_Parser_newColumn_J52 r1 r3 r5 u6
      else
        bM (mC_Tokens_takes 14 u6) fun r12 u13 =>
        if r12 = 0 then
          some (0, u13)
        else
          mC_Parser_newColumn_J52 r1 r3 r5 u13
def mC_Parser_columns_J61 (x1 : Int32) (u : St) : Option (Int32 × St) :=
  if x1 = 0 then
    some (0, u)
  else
    bM (mC_Tokens_takes 9 u) fun r3 u4 =>
    if r3 = 0 then
      some (0, u4)
    else
      some (1, u4)
def mC_Parser_columns_L27 : Nat → Int32 → Int32 → St → Option (Int32 × St)
  | 0, _, _, _ => none
  | n + 1, x1, x2, u =>
    if 2000 ≤ x2 then
      mC_Parser_columns_J61 x1 u
    else
      if x1 = 0 then
        mC_Parser_columns_J61 x1 u
      else
        bM (mC_Tokens_takes 33 u) fun r5 u6 =>
        if r5 = 0 then
          mC_Parser_columns_J61 x1 u6
        else
          bM (mC_Parser_newColumn u6) fun r7 u8 =>
          seq (x2 + 1 : Int32) fun y9 =>
          (mC_Parser_columns_L27 n) r7 y9 u8
def mC_Parser_columns (u : St) : Option (Int32 × St) :=
  bM (mC_Tokens_takes 8 u) fun r1 u2 =>
  if r1 = 0 then
    mC_Parser_columns_L27 FU 0 0 u2
  else
    bM (mC_Parser_newColumn u2) fun r10 u11 =>
    if r10 = 0 then
      mC_Parser_columns_L27 FU 0 0 u11
    else
      mC_Parser_columns_L27 FU 1 0 u11
def mC_Parser_create (u : St) : Option (Int32 × St) :=
  bM (mC_Tokens_takes 51 u) fun r1 u2 =>
  if r1 = 0 then
    bM (mC_Tokens_takes 55 u2) fun r3 u4 =>
    gd (zb r3) <| seq (ss u4 19 r3) fun u5 =>
    bM (mC_Tokens_takes 56 u5) fun r6 u7 =>
    if r6 = 0 then
      some (0, u7)
    else
      bM (mC_Tokens_takes 57 u7) fun r8 u9 =>
      if r8 = 0 then
        some (0, u9)
      else
        bM (mC_Parser_target u9) fun r10 u11 =>
        if r10 = 0 then
          some (0, u11)
        else
          bM (mC_Tokens_takes 8 u11) fun r12 u13 =>
          if r12 = 0 then
            some (0, u13)
          else
            bM (mC_Tokens_take 1 u13) fun r14 u15 =>
            seq (ss u15 14 r14) fun u16 =>
            if (u16.1 14) < 0 then
              some (0, u16)
            else
              bM (mC_Tokens_takes 9 u16) fun r17 u18 =>
              if r17 = 0 then
                some (0, u18)
              else
                bM (mC_Parser_is 2 u18) fun r19 u20 =>
                if r19 = 0 then
                  some (0, u20)
                else
                  some (1, u20)
  else
    bM (mC_Parser_title u2) fun r21 u22 =>
    if r21 = 0 then
      some (0, u22)
    else
      bM (mC_Parser_columns u22) fun r23 u24 =>
      if r23 = 0 then
        some (0, u24)
      else
        bM (mC_Parser_is 1 u24) fun r25 u26 =>
        if r25 = 0 then
          some (0, u26)
        else
          some (1, u26)
def mC_Parser_begin (u : St) : Option (Int32 × St) :=
  seq (ss u 10 9) fun u1 =>
  bM (mC_Tokens_takes 60 u1) fun r2 u3 =>
  if r2 = 0 then
    bM (mC_Tokens_takes 62 u3) fun r4 u5 =>
    if r4 = 0 then
      bM (mC_Tokens_takes 63 u5) fun r6 u7 =>
      if r6 = 0 then
        seq (ss u7 16 0) fun u8 =>
        some (1, u8)
      else
        seq (ss u7 16 2) fun u9 =>
        some (1, u9)
    else
      seq (ss u5 16 1) fun u10 =>
      bM (mC_Tokens_takes 60 u10) fun r11 u12 =>
      gd (zb r11) <| some (r11, u12)
  else
    bM (mC_Tokens_takes 61 u3) fun r13 u14 =>
    gd (zb r13) <| some (r13, u14)
def mC_Parser_shareMode (u : St) : Option (Int32 × St) :=
  bM (mC_Tokens_takes 43 u) fun r1 u2 =>
  if r1 = 0 then
    bM (mC_Tokens_takes 72 u2) fun r3 u4 =>
    if r3 = 0 then
      some (5, u4)
    else
      bM (mC_Tokens_takes 71 u4) fun r5 u6 =>
      if r5 = 0 then
        some (0, u6)
      else
        some (6, u6)
  else
    bM (mC_Tokens_takes 71 u2) fun r7 u8 =>
    if r7 = 0 then
      some (0, u8)
    else
      some (4, u8)
def mC_Parser_lockMode_J111 (s1 : Int32) (u : St) : Option (Int32 × St) :=
  seq (ss u 16 s1) fun u18 =>
  if (u18.1 16) ≤ 0 then
    some (0, u18)
  else
    some (1, u18)
def mC_Parser_lockMode_J53 (s1 : Int32) (u : St) : Option (Int32 × St) :=
  seq (ss u 16 s1) fun u23 =>
  if (u23.1 16) ≤ 0 then
    some (0, u23)
  else
    some (1, u23)
def mC_Parser_lockMode (u : St) : Option (Int32 × St) :=
  bM (mC_Tokens_takes 70 u) fun r1 u2 =>
  if r1 = 0 then
    bM (mC_Tokens_takes 72 u2) fun r3 u4 =>
    if r3 = 0 then
      bM (mC_Tokens_takes 42 u4) fun r5 u6 =>
      if r5 = 0 then
        bM (mC_Tokens_takes 71 u6) fun r7 u8 =>
        if r7 = 0 then
          seq (ss u8 16 0) fun u9 =>
          if (u9.1 16) ≤ 0 then
            some (0, u9)
          else
            some (1, u9)
        else
          seq (ss u8 16 7) fun u10 =>
          if (u10.1 16) ≤ 0 then
            some (0, u10)
          else
            some (1, u10)
      else
        bM (mC_Parser_shareMode u6) fun r11 u12 =>
        seq (ss u12 16 r11) fun u13 =>
        if (u13.1 16) ≤ 0 then
          some (0, u13)
        else
          some (1, u13)
    else
      bM (mC_Tokens_takes 42 u4) fun r14 u15 =>
      if r14 = 0 then
        bM (mC_Tokens_takes 71 u15) fun r16 u17 =>
        if r16 = 0 then
          mC_Parser_lockMode_J111 0 u17
        else
          mC_Parser_lockMode_J111 3 u17
      else
        mC_Parser_lockMode_J111 2 u15
  else
    bM (mC_Tokens_takes 42 u2) fun r19 u20 =>
    if r19 = 0 then
      bM (mC_Tokens_takes 71 u20) fun r21 u22 =>
      if r21 = 0 then
        mC_Parser_lockMode_J53 0 u22
      else
        mC_Parser_lockMode_J53 8 u22
    else
      mC_Parser_lockMode_J53 1 u20
def mC_Parser_otherDeed (u : St) : Option (Int32 × St) :=
  bM (mC_Tokens_takes 58 u) fun r1 u2 =>
  if r1 = 0 then
    bM (mC_Tokens_takes 59 u2) fun r3 u4 =>
    if r3 = 0 then
      bM (mC_Tokens_takes 64 u4) fun r5 u6 =>
      if r5 = 0 then
        bM (mC_Tokens_takes 65 u6) fun r7 u8 =>
        if r7 = 0 then
          bM (mC_Tokens_takes 67 u8) fun r9 u10 =>
          if r9 = 0 then
            bM (mC_Tokens_takes 68 u10) fun r11 u12 =>
            if r11 = 0 then
              bM (mC_Tokens_takes 69 u12) fun r13 u14 =>
              if r13 = 0 then
                bM (mC_Tokens_takes 73 u14) fun r15 u16 =>
                if r15 = 0 then
                  bM (mC_Tokens_takes 74 u16) fun r17 u18 =>
                  if r17 = 0 then
                    some (0, u18)
                  else
                    bM (mC_Parser_is 19 u18) fun r19 u20 =>
                    if r19 = 0 then
                      some (0, u20)
                    else
                      some (1, u20)
                else
                  bM (mC_Parser_target u16) fun r21 u22 =>
                  if r21 = 0 then
                    some (0, u22)
                  else
                    bM (mC_Parser_is 18 u22) fun r23 u24 =>
                    if r23 = 0 then
                      some (0, u24)
                    else
                      some (1, u24)
              else
                bM (mC_Parser_target u14) fun r25 u26 =>
                if r25 = 0 then
                  some (0, u26)
                else
                  bM (mC_Parser_lockMode u26) fun r27 u28 =>
                  if r27 = 0 then
                    some (0, u28)
                  else
                    bM (mC_Parser_is 15 u28) fun r29 u30 =>
                    if r29 = 0 then
                      some (0, u30)
                    else
                      some (1, u30)
            else
              bM (mC_Parser_title u12) fun r31 u32 =>
              if r31 = 0 then
                some (0, u32)
              else
                bM (mC_Parser_is 14 u32) fun r33 u34 =>
                if r33 = 0 then
                  some (0, u34)
                else
                  some (1, u34)
          else
            bM (mC_Parser_title u10) fun r35 u36 =>
            if r35 = 0 then
              some (0, u36)
            else
              bM (mC_Parser_is 12 u36) fun r37 u38 =>
              if r37 = 0 then
                some (0, u38)
              else
                some (1, u38)
        else
          bM (mC_Tokens_takes 66 u8) fun r39 u40 =>
          if r39 = 0 then
            bM (mC_Parser_is 11 u40) fun r41 u42 =>
            gd (zb r41) <| some (r41, u42)
          else
            bM (mC_Parser_title u40) fun r43 u44 =>
            if r43 = 0 then
              some (0, u44)
            else
              bM (mC_Parser_is 13 u44) fun r45 u46 =>
              if r45 = 0 then
                some (0, u46)
              else
                some (1, u46)
      else
        bM (mC_Parser_is 10 u6) fun r47 u48 =>
        gd (zb r47) <| some (r47, u48)
    else
      bM (mC_Parser_begin u4) fun r49 u50 =>
      gd (zb r49) <| some (r49, u50)
  else
    bM (mC_Tokens_takes 51 u2) fun r51 u52 =>
    if r51 = 0 then
      some (0, u52)
    else
      bM (mC_Parser_target u52) fun r53 u54 =>
      if r53 = 0 then
        some (0, u54)
      else
        bM (mC_Parser_is 3 u54) fun r55 u56 =>
        if r55 = 0 then
          some (0, u56)
        else
          some (1, u56)
def mC_Parser_deed (u : St) : Option (Int32 × St) :=
  bM (mC_Tokens_takes 3 u) fun r1 u2 =>
  if r1 = 0 then
    bM (mC_Tokens_takes 44 u2) fun r3 u4 =>
    if r3 = 0 then
      bM (mC_Tokens_takes 43 u4) fun r5 u6 =>
      if r5 = 0 then
        bM (mC_Tokens_takes 48 u6) fun r7 u8 =>
        if r7 = 0 then
          if (u8.1 22) = 0 then
            bM (mC_Tokens_takes 49 u8) fun r9 u10 =>
            if r9 = 0 then
              bM (mC_Tokens_takes 50 u10) fun r11 u12 =>
              if r11 = 0 then
                bM (mC_Parser_otherDeed u12) fun r13 u14 =>
                gd (zb r13) <| some (r13, u14)
              else
                bM (mC_Parser_create u12) fun r15 u16 =>
                gd (zb r15) <| some (r15, u16)
            else
              bM (mC_Parser_execute u10) fun r17 u18 =>
              gd (zb r17) <| some (r17, u18)
          else
            some (0, u8)
        else
          bM (mC_Parser_delete u8) fun r19 u20 =>
          gd (zb r19) <| some (r19, u20)
      else
        bM (mC_Parser_update u6) fun r21 u22 =>
        gd (zb r21) <| some (r21, u22)
    else
      bM (mC_Tokens_takes 45 u4) fun r23 u24 =>
      if r23 = 0 then
        some (0, u24)
      else
        bM (mC_Parser_target u24) fun r25 u26 =>
        if r25 = 0 then
          some (0, u26)
        else
          bM (mC_Tokens_takes 3 u26) fun r27 u28 =>
          if r27 = 0 then
            bM (mC_Parser_rows u28) fun r29 u30 =>
            gd (zb r29) <| some (r29, u30)
          else
            bM (mC_Parser_query 5 u28) fun r31 u32 =>
            gd (zb r31) <| some (r31, u32)
  else
    bM (mC_Parser_query 8 u2) fun r33 u34 =>
    gd (zb r33) <| some (r33, u34)
def mC_Tokens_ended (u : St) : Option (Int32) :=
  if (u.1 4) < (u.1 3) then
    some 0
  else
    some 1
def mC_Parser_ends (u : St) : Option (Int32 × St) :=
  bM (mC_Tokens_takes 75 u) fun r1 u2 =>
  if (u2.1 22) = 0 then
    seq (ss u2 9 (u2.1 10)) fun u3 =>
    bP (mC_Tokens_ended u3) fun r4 =>
    gd (zb r4) <| some (r4, u3)
  else
    seq (ss u2 9 16) fun u5 =>
    bP (mC_Tokens_ended u5) fun r6 =>
    gd (zb r6) <| some (r6, u5)
def mC_Nodes_isOver (u : St) : Option (Int32) :=
  gd (zb (u.1 7)) <| some (u.1 7)
def mC_Lists_isOver (u : St) : Option (Int32) :=
  gd (zb (u.1 8)) <| some (u.1 8)
def mC_Text_same_4_11_L20 : Nat → Int32 → Int32 → Int32 → Int32 → St → Option (Int32)
  | 0, _, _, _, _, _ => none
  | n + 1, x1, x3, x4, x5, u =>
    if x4 ≤ x5 then
      some 1
    else
      bP (mC_Text_startOf x1 u) fun r3 =>
      bP (mC_Text_at_4 (r3 + x5) u) fun r4 =>
      bP (mC_Text_startOf x3 u) fun r5 =>
      bP (mC_Text_at_11 (r5 + x5) u) fun r6 =>
      if r4 = r6 then
        seq (x5 + 1 : Int32) fun y7 =>
        (mC_Text_same_4_11_L20 n) x1 x3 x4 y7 u
      else
        some 0
def mC_Text_same_4_11 (x1 : Int32) (x3 : Int32) (u : St) : Option (Int32) :=
  bP (mC_Text_sizeOf x1 u) fun r1 =>
  bP (mC_Text_sizeOf x3 u) fun r2 =>
  if r1 = r2 then
    mC_Text_same_4_11_L20 FU x1 x3 r1 0 u
  else
    some 0
def mC_Catalog_findTable_3_11_L2 : Nat → Int32 → Int32 → St → Option (Int32)
  | 0, _, _, _ => none
  | n + 1, x2, x3, u =>
    if (u.1 1) ≤ x3 then
      some (-1)
    else
      gd (inb x3 8) <|
      bP (mC_Text_same_4_11 (ga u 2 x3) x2 u) fun r1 =>
      if r1 = 0 then
        seq (x3 + 1 : Int32) fun y2 =>
        (mC_Catalog_findTable_3_11_L2 n) x2 y2 u
      else
        some x3
def mC_Catalog_findTable_3_11 (x2 : Int32) (u : St) : Option (Int32) :=
  mC_Catalog_findTable_3_11_L2 FU x2 0 u
def mC_Lists_at_J29 (x1 : Int32) (x2 : Int32) (s0 : Int32) (u : St) : Option (Int32) :=
  if s0 = 0 then
    some (-1)
  else
    gd (inb x1 (lnT 1)) <|
    gd (inb ((gst 1 x1) + x2) 666) <|
    some (ga u 18 ((gst 1 x1) + x2))
def mC_Lists_at (x1 : Int32) (x2 : Int32) (u : St) : Option (Int32) :=
  if x1 < 0 then
    mC_Lists_at_J29 x1 x2 0 u
  else
    if 14 ≤ x1 then
      mC_Lists_at_J29 x1 x2 0 u
    else
      if x2 < 0 then
        mC_Lists_at_J29 x1 x2 0 u
      else
        gd (inb x1 14) <|
        if (ga u 17 x1) ≤ x2 then
          mC_Lists_at_J29 x1 x2 0 u
        else
          mC_Lists_at_J29 x1 x2 1 u
def mC_Meaning_nameOfTable (x1 : Int32) (u : St) : Option (Int32) :=
  bP (mC_Lists_at 11 x1 u) fun r1 =>
  if r1 < 0 then
    bP (mC_Lists_at 10 x1 u) fun r2 =>
    some r2
  else
    some r1
def mC_Text_same_11_11_L20 : Nat → Int32 → Int32 → Int32 → Int32 → St → Option (Int32)
  | 0, _, _, _, _, _ => none
  | n + 1, x1, x3, x4, x5, u =>
    if x4 ≤ x5 then
      some 1
    else
      bP (mC_Text_startOf x1 u) fun r3 =>
      bP (mC_Text_at_11 (r3 + x5) u) fun r4 =>
      bP (mC_Text_startOf x3 u) fun r5 =>
      bP (mC_Text_at_11 (r5 + x5) u) fun r6 =>
      if r4 = r6 then
        seq (x5 + 1 : Int32) fun y7 =>
        (mC_Text_same_11_11_L20 n) x1 x3 x4 y7 u
      else
        some 0
def mC_Text_same_11_11 (x1 : Int32) (x3 : Int32) (u : St) : Option (Int32) :=
  bP (mC_Text_sizeOf x1 u) fun r1 =>
  bP (mC_Text_sizeOf x3 u) fun r2 =>
  if r1 = r2 then
    mC_Text_same_11_11_L20 FU x1 x3 r1 0 u
  else
    some 0
def mC_Meaning_tableCalled_L12 : Nat → Int32 → Int32 → Int32 → St → Option (Int32)
  | 0, _, _, _, _ => none
  | n + 1, x1, x2, x3, u =>
    if x2 ≤ x3 then
      some x2
    else
      bP (mC_Meaning_nameOfTable x3 u) fun r2 =>
      bP (mC_Text_same_11_11 r2 x1 u) fun r3 =>
      if r3 = 0 then
        seq (x3 + 1 : Int32) fun y4 =>
        (mC_Meaning_tableCalled_L12 n) x1 x2 y4 u
      else
        some x3
def mC_Meaning_tableCalled (x1 : Int32) (u : St) : Option (Int32) :=
  bP (mC_Lists_size 10 u) fun r1 =>
  mC_Meaning_tableCalled_L12 FU x1 r1 0 u
def mC_Meaning_tableError_L49 : Nat → Int32 → St → Option (Int32 × St)
  | 0, _, _ => none
  | n + 1, x1, u =>
    bP (mC_Lists_size 10 u) fun r1 =>
    if r1 ≤ x1 then
      some (0, u)
    else
      bP (mC_Lists_at 10 x1 u) fun r2 =>
      bP (mC_Catalog_findTable_3_11 r2 u) fun r3 =>
      if 0 ≤ r3 then
        bP (mC_Meaning_nameOfTable x1 u) fun r4 =>
        bP (mC_Meaning_tableCalled r4 u) fun r5 =>
        if x1 ≤ r5 then
          bP (mC_Lists_add 3 r3 u) fun u6 =>
          seq (x1 + 1 : Int32) fun y7 =>
          (mC_Meaning_tableError_L49 n) y7 u6
        else
          some (5, u)
      else
        some (4, u)
def mC_Meaning_tableError (u : St) : Option (Int32 × St) :=
  if (u.1 12) < 0 then
    mC_Meaning_tableError_L49 FU 0 u
  else
    bP (mC_Catalog_findTable_3_11 (u.1 12) u) fun r8 =>
    seq (ss u 13 r8) fun u9 =>
    if 0 ≤ (u9.1 13) then
      mC_Meaning_tableError_L49 FU 0 u9
    else
      some (4, u9)
def mC_Nodes_kindOf (x1 : Int32) (u : St) : Option (Int32) :=
  if x1 < 0 then
    some (-1)
  else
    if (u.1 6) ≤ x1 then
      some (-1)
    else
      gd (inb x1 200) <|
      some (ga u 8 x1)
def mC_Nodes_qualifierOf (x1 : Int32) (u : St) : Option (Int32) :=
  if x1 < 0 then
    some (-1)
  else
    if (u.1 6) ≤ x1 then
      some (-1)
    else
      gd (inb x1 200) <|
      some (ga u 16 x1)
def mC_Nodes_spanOf (x1 : Int32) (u : St) : Option (Int32) :=
  if x1 < 0 then
    some (-1)
  else
    if (u.1 6) ≤ x1 then
      some (-1)
    else
      gd (inb x1 200) <|
      some (ga u 15 x1)
def mC_Catalog_findColumn_3_11_L3 : Nat → Int32 → Int32 → Int32 → St → Option (Int32)
  | 0, _, _, _, _ => none
  | n + 1, x1, x3, x4, u =>
    bP (mC_Catalog_columnsOf x1 u) fun r1 =>
    if r1 ≤ x4 then
      some (-1)
    else
      gd (inb ((x1 * 8) + x4) 64) <|
      bP (mC_Text_same_4_11 (ga u 4 ((x1 * 8) + x4)) x3 u) fun r2 =>
      if r2 = 0 then
        seq (x4 + 1 : Int32) fun y3 =>
        (mC_Catalog_findColumn_3_11_L3 n) x1 x3 y3 u
      else
        some x4
def mC_Catalog_findColumn_3_11 (x1 : Int32) (x3 : Int32) (u : St) : Option (Int32) :=
  mC_Catalog_findColumn_3_11_L3 FU x1 x3 0 u
def mC_Nodes_putPlace (x1 : Int32) (x2 : Int32) (x3 : Int32) (u : St) : Option (St) :=
  if x1 < 0 then
    some u
  else
    if (u.1 6) ≤ x1 then
      some u
    else
      gd (inb x1 200) <| seq (sa u 9 x1 x2) fun u1 =>
      gd (inb x1 200) <| seq (sa u1 10 x1 x3) fun u2 =>
      some u2
def mC_Catalog_typeOf_J18 (x1 : Int32) (x2 : Int32) (s0 : Int32) (u : St) : Option (Int32) :=
  if s0 = 0 then
    some 0
  else
    gd (inb ((x1 * 8) + x2) 64) <|
    some (ga u 5 ((x1 * 8) + x2))
def mC_Catalog_typeOf (x1 : Int32) (x2 : Int32) (u : St) : Option (Int32) :=
  if x2 < 0 then
    mC_Catalog_typeOf_J18 x1 x2 0 u
  else
    bP (mC_Catalog_columnsOf x1 u) fun r1 =>
    if r1 ≤ x2 then
      mC_Catalog_typeOf_J18 x1 x2 0 u
    else
      mC_Catalog_typeOf_J18 x1 x2 1 u
def mC_Nodes_putType (x1 : Int32) (x2 : Int32) (u : St) : Option (St) :=
  if x1 < 0 then
    some u
  else
    if (u.1 6) ≤ x1 then
      some u
    else
      gd (inb x1 200) <| seq (sa u 11 x1 x2) fun u1 =>
      some u1
def mC_Meaning_findPlace_J97 (q39 : Int32 → Int32 → Int32 → Int32 → Int32 → St → Option (Int32 × St)) (x1 : Int32) (x2 : Int32) (x4 : Int32) (x5 : Int32) (x6 : Int32) (x7 : Int32) (x8 : Int32) (u : St) : Option (Int32 × St) :=
  bP (mC_Nodes_putPlace x1 x6 x8 u) fun u8 =>
  bP (mC_Catalog_typeOf x7 x8 u8) fun r9 =>
  bP (mC_Nodes_putType x1 r9 u8) fun u10 =>
  seq (x5 + 1 : Int32) fun y11 =>
  seq (x6 + 1 : Int32) fun y12 =>
  q39 x1 x2 x4 y11 y12 u10
def mC_Meaning_findPlace_L39 : Nat → Int32 → Int32 → Int32 → Int32 → Int32 → St → Option (Int32 × St)
  | 0, _, _, _, _, _, _ => none
  | n + 1, x1, x2, x4, x5, x6, u =>
    if x2 ≤ x6 then
      if x4 < x2 then
        if x5 = 0 then
          some (6, u)
        else
          if x5 ≤ 1 then
            some (0, u)
          else
            some (7, u)
      else
        some (4, u)
    else
      bP (mC_Lists_at 3 x6 u) fun r4 =>
      bP (mC_Nodes_spanOf x1 u) fun r5 =>
      bP (mC_Catalog_findColumn_3_11 r4 r5 u) fun r6 =>
      if r6 < 0 then
        seq (x6 + 1 : Int32) fun y7 =>
        (mC_Meaning_findPlace_L39 n) x1 x2 x4 x5 y7 u
      else
        if x4 < 0 then
          mC_Meaning_findPlace_J97 (mC_Meaning_findPlace_L39 n) x1 x2 x4 x5 x6 r4 r6 u
        else
          if x4 = x6 then
            mC_Meaning_findPlace_J97 (mC_Meaning_findPlace_L39 n) x1 x2 x4 x5 x6 r4 r6 u
          else
            seq (x6 + 1 : Int32) fun y13 =>
            (mC_Meaning_findPlace_L39 n) x1 x2 x4 x5 y13 u
def mC_Meaning_findPlace (x1 : Int32) (u : St) : Option (Int32 × St) :=
  bP (mC_Lists_size 3 u) fun r1 =>
  bP (mC_Nodes_qualifierOf x1 u) fun r2 =>
  if 0 ≤ r2 then
    bP (mC_Meaning_tableCalled r2 u) fun r3 =>
    mC_Meaning_findPlace_L39 FU x1 r1 r3 0 0 u
  else
    mC_Meaning_findPlace_L39 FU x1 r1 (-1) 0 0 u
def mC_Nodes_putFault (x1 : Int32) (x2 : Int32) (u : St) : Option (St) :=
  if x1 < 0 then
    some u
  else
    if (u.1 6) ≤ x1 then
      some u
    else
      gd (inb x1 200) <| seq (sa u 14 x1 x2) fun u1 =>
      some u1
def mC_Meaning_findPlaces_L2 : Nat → Int32 → St → Option (St)
  | 0, _, _ => none
  | n + 1, x1, u =>
    bP (mC_Nodes_size u) fun r1 =>
    if r1 ≤ x1 then
      some u
    else
      bP (mC_Nodes_kindOf x1 u) fun r2 =>
      if r2 = 4 then
        bM (mC_Meaning_findPlace x1 u) fun r4 u5 =>
        bP (mC_Nodes_putFault x1 r4 u5) fun u6 =>
        seq (x1 + 1 : Int32) fun y7 =>
        (mC_Meaning_findPlaces_L2 n) y7 u6
      else
        seq (x1 + 1 : Int32) fun y3 =>
        (mC_Meaning_findPlaces_L2 n) y3 u
def mC_Meaning_findPlaces (u : St) : Option (St) :=
  mC_Meaning_findPlaces_L2 FU 0 u
def mC_Meaning_findColumnsSet_L2 : Nat → Int32 → St → Option (St)
  | 0, _, _ => none
  | n + 1, x1, u =>
    bP (mC_Lists_size 5 u) fun r1 =>
    if r1 ≤ x1 then
      some u
    else
      bP (mC_Lists_at 13 x1 u) fun r2 =>
      bP (mC_Catalog_findColumn_3_11 (u.1 13) r2 u) fun r3 =>
      bP (mC_Lists_add 4 r3 u) fun u4 =>
      seq (x1 + 1 : Int32) fun y5 =>
      (mC_Meaning_findColumnsSet_L2 n) y5 u4
def mC_Meaning_findColumnsSet (u : St) : Option (St) :=
  mC_Meaning_findColumnsSet_L2 FU 0 u
def mC_Nodes_putNeed (x1 : Int32) (x2 : Int32) (u : St) : Option (St) :=
  if x1 < 0 then
    some u
  else
    if (u.1 6) ≤ x1 then
      some u
    else
      gd (inb x1 200) <| seq (sa u 13 x1 x2) fun u1 =>
      some u1
def mC_Meaning_tellColumns_L3 : Nat → Int32 → Int32 → Int32 → Int32 → St → Option (St)
  | 0, _, _, _, _, _ => none
  | n + 1, x1, x2, x3, x4, u =>
    if x3 ≤ x4 then
      some u
    else
      bP (mC_Lists_at x1 x4 u) fun r1 =>
      bP (mC_Catalog_typeOf (u.1 13) (x4 - x2) u) fun r2 =>
      bP (mC_Nodes_putNeed r1 r2 u) fun u3 =>
      seq (x4 + 1 : Int32) fun y4 =>
      (mC_Meaning_tellColumns_L3 n) x1 x2 x3 y4 u3
def mC_Meaning_tellColumns (x1 : Int32) (x2 : Int32) (x3 : Int32) (u : St) : Option (St) :=
  mC_Meaning_tellColumns_L3 FU x1 x2 x3 x2 u
def mC_Meaning_tellNeeds_L105 : Nat → Int32 → Int32 → St → Option (St)
  | 0, _, _, _ => none
  | n + 1, x1, x2, u =>
    bP (mC_Lists_size 12 u) fun r3 =>
    if r3 ≤ x2 then
      some u
    else
      bP (mC_Lists_at 12 x2 u) fun r4 =>
      bP (mC_Meaning_tellColumns 6 x1 r4 u) fun u5 =>
      seq (x2 + 1 : Int32) fun y6 =>
      (mC_Meaning_tellNeeds_L105 n) r4 y6 u5
def mC_Meaning_tellNeeds_L17 : Nat → Int32 → St → Option (St)
  | 0, _, _ => none
  | n + 1, x1, u =>
    bP (mC_Lists_size 5 u) fun r2 =>
    if r2 ≤ x1 then
      if (u.1 10) = 5 then
        bP (mC_Lists_size 0 u) fun r7 =>
        bP (mC_Meaning_tellColumns 0 0 r7 u) fun u8 =>
        mC_Meaning_tellNeeds_L105 FU 0 0 u8
      else
        mC_Meaning_tellNeeds_L105 FU 0 0 u
    else
      bP (mC_Lists_at 4 x1 u) fun r9 =>
      bP (mC_Lists_at 5 x1 u) fun r10 =>
      bP (mC_Catalog_typeOf (u.1 13) r9 u) fun r11 =>
      bP (mC_Nodes_putNeed r10 r11 u) fun u12 =>
      seq (x1 + 1 : Int32) fun y13 =>
      (mC_Meaning_tellNeeds_L17 n) y13 u12
def mC_Meaning_tellNeeds (u : St) : Option (St) :=
  bP (mC_Nodes_putNeed (u.1 18) 3 u) fun u1 =>
  mC_Meaning_tellNeeds_L17 FU 0 u1
def mC_Nodes_firstOf (x1 : Int32) (u : St) : Option (Int32) :=
  if x1 < 0 then
    some (-1)
  else
    if (u.1 6) ≤ x1 then
      some (-1)
    else
      gd (inb x1 200) <|
      some (ga u 9 x1)
def mC_Nodes_parentOf (x1 : Int32) (u : St) : Option (Int32) :=
  if x1 < 0 then
    some (-1)
  else
    if (u.1 6) ≤ x1 then
      some (-1)
    else
      gd (inb x1 200) <|
      some (ga u 12 x1)
def mC_Nodes_needOf (x1 : Int32) (u : St) : Option (Int32) :=
  if x1 < 0 then
    some 0
  else
    if (u.1 6) ≤ x1 then
      some 0
    else
      gd (inb x1 200) <|
      some (ga u 13 x1)
def mC_Nodes_compares (x0 : Int32) (u : St) : Option (Int32) :=
  if x0 < 17 then
    some 0
  else
    if 22 < x0 then
      some 0
    else
      some 1
def mC_Nodes_secondOf (x1 : Int32) (u : St) : Option (Int32) :=
  if x1 < 0 then
    some (-1)
  else
    if (u.1 6) ≤ x1 then
      some (-1)
    else
      gd (inb x1 200) <|
      some (ga u 10 x1)
def mC_Nodes_typeOf (x1 : Int32) (u : St) : Option (Int32) :=
  if x1 < 0 then
    some (-1)
  else
    if (u.1 6) ≤ x1 then
      some (-1)
    else
      gd (inb x1 200) <|
      some (ga u 11 x1)
def mC_Meaning_typeByKind (x0 : Int32) (u : St) : Option (Int32) :=
  if x0 < 0 then
    some 0
  else
    if x0 < 29 then
      gd (inb x0 (lnT 3)) <|
      some (gst 3 x0)
    else
      some 0
def mC_Meaning_typeAhead_J58 (x2 : Int32) (x3 : Int32) (u : St) : Option (Int32) :=
  if x3 = 4 then
    bP (mC_Nodes_typeOf x2 u) fun r5 =>
    some r5
  else
    if x3 = 28 then
      bP (mC_Nodes_firstOf x2 u) fun r3 =>
      bP (mC_Lists_at 8 (r3 - 1) u) fun r4 =>
      some (if r4 < 0 then 0 else r4)
    else
      bP (mC_Meaning_typeByKind x3 u) fun r2 =>
      some r2
def mC_Meaning_typeAhead_J34 (q14 : Int32 → Int32 → Int32 → St → Option (Int32)) (x2 : Int32) (x4 : Int32) (u : St) : Option (Int32) :=
  bP (mC_Nodes_firstOf x2 u) fun r6 =>
  bP (mC_Nodes_kindOf r6 u) fun r7 =>
  seq (x4 + 1 : Int32) fun y8 =>
  q14 r6 r7 y8 u
def mC_Meaning_typeAhead_L14 : Nat → Int32 → Int32 → Int32 → St → Option (Int32)
  | 0, _, _, _, _ => none
  | n + 1, x2, x3, x4, u =>
    if 200 ≤ x4 then
      mC_Meaning_typeAhead_J58 x2 x3 u
    else
      if x3 = 8 then
        mC_Meaning_typeAhead_J34 (mC_Meaning_typeAhead_L14 n) x2 x4 u
      else
        if x3 = 9 then
          mC_Meaning_typeAhead_J34 (mC_Meaning_typeAhead_L14 n) x2 x4 u
        else
          mC_Meaning_typeAhead_J58 x2 x3 u
def mC_Meaning_typeAhead (x1 : Int32) (u : St) : Option (Int32) :=
  bP (mC_Nodes_kindOf x1 u) fun r1 =>
  mC_Meaning_typeAhead_L14 FU x1 r1 0 u
def mC_Meaning_neededAt (x1 : Int32) (u : St) : Option (Int32) :=
  bP (mC_Nodes_parentOf x1 u) fun r1 =>
  bP (mC_Nodes_kindOf r1 u) fun r2 =>
  if r2 < 0 then
    bP (mC_Nodes_needOf x1 u) fun r3 =>
    some r3
  else
    if r2 < 29 then
      bP (mC_Nodes_compares r2 u) fun r4 =>
      if r4 = 0 then
        gd (inb r2 (lnT 2)) <|
        some (gst 2 r2)
      else
        bP (mC_Nodes_firstOf r1 u) fun r5 =>
        if r5 = x1 then
          bP (mC_Nodes_secondOf r1 u) fun r7 =>
          bP (mC_Meaning_typeAhead r7 u) fun r8 =>
          some r8
        else
          bP (mC_Meaning_typeAhead r5 u) fun r6 =>
          some r6
    else
      bP (mC_Nodes_needOf x1 u) fun r9 =>
      some r9
def mC_Lists_put (x1 : Int32) (x2 : Int32) (x3 : Int32) (u : St) : Option (St) :=
  if x1 < 0 then
    some u
  else
    if 14 ≤ x1 then
      some u
    else
      if x2 < 0 then
        some u
      else
        gd (inb x1 14) <|
        if (ga u 17 x1) ≤ x2 then
          some u
        else
          gd (inb x1 (lnT 1)) <|
          gd (inb ((gst 1 x1) + x2) 666) <| seq (sa u 18 ((gst 1 x1) + x2) x3) fun u1 =>
          some u1
def mC_Meaning_parameterType_L19 : Nat → Int32 → Int32 → Int32 → St → Option (Int32 × St)
  | 0, _, _, _, _ => none
  | n + 1, x1, x2, x3, u =>
    if x2 ≤ x3 then
      bP (mC_Lists_at 8 (x2 - 1) u) fun r3 =>
      if r3 = 0 then
        bP (mC_Meaning_neededAt x1 u) fun r5 =>
        if r5 = 0 then
          bP (mC_Lists_put 8 (x2 - 1) 2 u) fun u8 =>
          bP (mC_Lists_at 8 (x2 - 1) u8) fun r9 =>
          some (r9, u8)
        else
          bP (mC_Lists_put 8 (x2 - 1) r5 u) fun u6 =>
          bP (mC_Lists_at 8 (x2 - 1) u6) fun r7 =>
          some (r7, u6)
      else
        bP (mC_Lists_at 8 (x2 - 1) u) fun r4 =>
        some (r4, u)
    else
      bP (mC_Lists_add 8 0 u) fun u10 =>
      seq (x3 + 1 : Int32) fun y11 =>
      (mC_Meaning_parameterType_L19 n) x1 x2 y11 u10
def mC_Meaning_parameterType (x1 : Int32) (u : St) : Option (Int32 × St) :=
  bP (mC_Nodes_firstOf x1 u) fun r1 =>
  bP (mC_Lists_size 8 u) fun r2 =>
  mC_Meaning_parameterType_L19 FU x1 r1 r2 u
def mC_Meaning_typeParameters_L2 : Nat → Int32 → St → Option (St)
  | 0, _, _ => none
  | n + 1, x1, u =>
    bP (mC_Nodes_size u) fun r1 =>
    if r1 ≤ x1 then
      some u
    else
      bP (mC_Nodes_kindOf x1 u) fun r2 =>
      if r2 = 28 then
        bM (mC_Meaning_parameterType x1 u) fun r4 u5 =>
        bP (mC_Nodes_putType x1 r4 u5) fun u6 =>
        seq (x1 + 1 : Int32) fun y7 =>
        (mC_Meaning_typeParameters_L2 n) y7 u6
      else
        seq (x1 + 1 : Int32) fun y3 =>
        (mC_Meaning_typeParameters_L2 n) y3 u
def mC_Meaning_typeParameters (u : St) : Option (St) :=
  mC_Meaning_typeParameters_L2 FU 0 u
def mC_Meaning_indexError (u : St) : Option (Int32 × St) :=
  bP (mC_Catalog_findColumn_3_11 (u.1 13) (u.1 14) u) fun r1 =>
  seq (ss u 15 r1) fun u2 =>
  if 0 ≤ (u2.1 15) then
    some (0, u2)
  else
    some (6, u2)
def mC_Nodes_faultOf (x1 : Int32) (u : St) : Option (Int32) :=
  if x1 < 0 then
    some 0
  else
    if (u.1 6) ≤ x1 then
      some 0
    else
      gd (inb x1 200) <|
      some (ga u 14 x1)
def mC_Meaning_fits (x0 : Int32) (x1 : Int32) (u : St) : Option (Int32) :=
  if x0 ≤ 0 then
    some 1
  else
    if x1 ≤ 0 then
      some 1
    else
      if x0 = x1 then
        some 1
      else
        some 0
def mC_Meaning_operandsFit (x1 : Int32) (u : St) : Option (Int32) :=
  bP (mC_Nodes_kindOf x1 u) fun r1 =>
  bP (mC_Nodes_works r1 u) fun r2 =>
  if r2 = 0 then
    some 1
  else
    bP (mC_Nodes_firstOf x1 u) fun r3 =>
    bP (mC_Nodes_typeOf r3 u) fun r4 =>
    bP (mC_Nodes_secondOf x1 u) fun r5 =>
    bP (mC_Nodes_typeOf r5 u) fun r6 =>
    if r1 = 8 then
      if r4 = 3 then
        some 0
      else
        some 1
    else
      if r1 = 9 then
        if r4 = 3 then
          some 0
        else
          some 1
      else
        bP (mC_Nodes_compares r1 u) fun r7 =>
        if r7 = 0 then
          gd (inb r1 (lnT 2)) <|
          bP (mC_Meaning_fits r4 (gst 2 r1) u) fun r8 =>
          if r8 = 0 then
            some 0
          else
            gd (inb r1 (lnT 2)) <|
            bP (mC_Meaning_fits r6 (gst 2 r1) u) fun r9 =>
            if r9 = 0 then
              some 0
            else
              some 1
        else
          bP (mC_Meaning_fits r4 r6 u) fun r10 =>
          gd (zb r10) <| some r10
def mC_Meaning_typeFor_J53 (x1 : Int32) (x2 : Int32) (s0 : Int32) (u : St) : Option (Int32) :=
  if s0 = 0 then
    bP (mC_Meaning_typeByKind x2 u) fun r4 =>
    some r4
  else
    bP (mC_Nodes_typeOf x1 u) fun r5 =>
    some r5
def mC_Meaning_typeFor (x1 : Int32) (u : St) : Option (Int32) :=
  bP (mC_Nodes_kindOf x1 u) fun r1 =>
  if r1 = 8 then
    bP (mC_Nodes_firstOf x1 u) fun r2 =>
    bP (mC_Nodes_typeOf r2 u) fun r3 =>
    some r3
  else
    if r1 = 9 then
      bP (mC_Nodes_firstOf x1 u) fun r6 =>
      bP (mC_Nodes_typeOf r6 u) fun r7 =>
      some r7
    else
      if r1 = 4 then
        mC_Meaning_typeFor_J53 x1 r1 1 u
      else
        if r1 = 28 then
          mC_Meaning_typeFor_J53 x1 r1 1 u
        else
          mC_Meaning_typeFor_J53 x1 r1 0 u
def mC_Meaning_judge (x1 : Int32) (u : St) : Option (Int32 × St) :=
  bP (mC_Nodes_faultOf x1 u) fun r1 =>
  if r1 = 0 then
    bP (mC_Meaning_operandsFit x1 u) fun r2 =>
    if r2 = 0 then
      some (8, u)
    else
      bP (mC_Meaning_typeFor x1 u) fun r3 =>
      bP (mC_Nodes_putType x1 r3 u) fun u4 =>
      bP (mC_Nodes_needOf x1 u4) fun r5 =>
      bP (mC_Meaning_fits r3 r5 u4) fun r6 =>
      if r6 = 0 then
        some (8, u4)
      else
        some (0, u4)
  else
    some (r1, u)
def mC_Meaning_judgeTo_L7 : Nat → Int32 → Int32 → Int32 → St → Option (Int32 × St)
  | 0, _, _, _, _ => none
  | n + 1, x1, x2, x3, u =>
    if x1 ≤ x3 then
      seq (ss u 24 x1) fun u2 =>
      some (x2, u2)
    else
      if x2 = 0 then
        bM (mC_Meaning_judge x3 u) fun r4 u5 =>
        seq (x3 + 1 : Int32) fun y6 =>
        (mC_Meaning_judgeTo_L7 n) x1 r4 y6 u5
      else
        seq (ss u 24 x1) fun u3 =>
        some (x2, u3)
def mC_Meaning_judgeTo (x1 : Int32) (u : St) : Option (Int32 × St) :=
  seq ((u.1 24) : Int32) fun y1 =>
  mC_Meaning_judgeTo_L7 FU x1 0 y1 u
def mC_Meaning_starError_L29 (q4 : Int32 → Int32 → St → Option (Int32)) : Nat → Int32 → Int32 → Int32 → Int32 → St → Option (Int32)
  | 0, _, _, _, _, _ => none
  | n + 1, x1, x2, x3, x4, u =>
    bP (mC_Catalog_columnsOf x3 u) fun r3 =>
    if r3 ≤ x4 then
      seq (x2 + 1 : Int32) fun y4 =>
      q4 x1 y4 u
    else
      bP (mC_Catalog_typeOf (u.1 13) x1 u) fun r5 =>
      bP (mC_Catalog_typeOf x3 x4 u) fun r6 =>
      bP (mC_Meaning_fits r6 r5 u) fun r7 =>
      if r7 = 0 then
        some 8
      else
        seq (x1 + 1 : Int32) fun y8 =>
        seq (x4 + 1 : Int32) fun y9 =>
        (mC_Meaning_starError_L29 q4 n) y8 x2 x3 y9 u
def mC_Meaning_starError_L4 : Nat → Int32 → Int32 → St → Option (Int32)
  | 0, _, _, _ => none
  | n + 1, x1, x2, u =>
    bP (mC_Lists_size 3 u) fun r1 =>
    if r1 ≤ x2 then
      some 0
    else
      bP (mC_Lists_at 3 x2 u) fun r2 =>
      mC_Meaning_starError_L29 (mC_Meaning_starError_L4 n) FU x1 x2 r2 0 u
def mC_Meaning_starError (u : St) : Option (Int32) :=
  mC_Meaning_starError_L4 FU 0 0 u
def mC_Meaning_settingsError_J37 (q4 : Int32 → Int32 → St → Option (Int32 × St)) (x2 : Int32) (s0 : Int32) (u : St) : Option (Int32 × St) :=
  if s0 = 0 then
    seq (x2 + 1 : Int32) fun y3 =>
    q4 6 y3 u
  else
    bP (mC_Lists_at 5 x2 u) fun r4 =>
    bM (mC_Meaning_judgeTo (r4 + 1) u) fun r5 u6 =>
    seq (x2 + 1 : Int32) fun y7 =>
    q4 r5 y7 u6
def mC_Meaning_settingsError_L4 : Nat → Int32 → Int32 → St → Option (Int32 × St)
  | 0, _, _, _ => none
  | n + 1, x1, x2, u =>
    bP (mC_Lists_size 5 u) fun r1 =>
    if r1 ≤ x2 then
      some (x1, u)
    else
      if x1 = 0 then
        bP (mC_Lists_at 4 x2 u) fun r2 =>
        if r2 < 0 then
          mC_Meaning_settingsError_J37 (mC_Meaning_settingsError_L4 n) x2 0 u
        else
          mC_Meaning_settingsError_J37 (mC_Meaning_settingsError_L4 n) x2 1 u
      else
        some (x1, u)
def mC_Meaning_settingsError (u : St) : Option (Int32 × St) :=
  mC_Meaning_settingsError_L4 FU 0 0 u
def mC_Meaning_typeError_J88 (x1 : Int32) (u : St) : Option (Int32 × St) :=
  if x1 = 0 then
    bP (mC_Nodes_size u) fun r6 =>
    bM (mC_Meaning_judgeTo r6 u) fun r7 u8 =>
    some (r7, u8)
  else
    some (x1, u)
def mC_Meaning_typeError_J71 (x1 : Int32) (u : St) : Option (Int32 × St) :=
  if (u.1 10) = 6 then
    bM (mC_Meaning_settingsError u) fun r9 u10 =>
    mC_Meaning_typeError_J88 r9 u10
  else
    mC_Meaning_typeError_J88 x1 u
def mC_Meaning_typeError (u : St) : Option (Int32 × St) :=
  bP (mC_Meaning_findPlaces u) fun u1 =>
  bP (mC_Meaning_findColumnsSet u1) fun u2 =>
  bP (mC_Meaning_tellNeeds u2) fun u3 =>
  bP (mC_Meaning_typeParameters u3) fun u4 =>
  seq (ss u4 24 0) fun u5 =>
  if (u5.1 10) = 2 then
    bM (mC_Meaning_indexError u5) fun r12 u13 =>
    mC_Meaning_typeError_J88 r12 u13
  else
    if (u5.1 10) = 5 then
      if (u5.1 21) = 0 then
        mC_Meaning_typeError_J71 0 u5
      else
        bP (mC_Meaning_starError u5) fun r11 =>
        mC_Meaning_typeError_J88 r11 u5
    else
      mC_Meaning_typeError_J71 0 u5
def mC_Meaning_columnsOfStar_L4 : Nat → Int32 → Int32 → St → Option (Int32)
  | 0, _, _, _ => none
  | n + 1, x1, x2, u =>
    bP (mC_Lists_size 3 u) fun r1 =>
    if r1 ≤ x2 then
      some x1
    else
      bP (mC_Lists_at 3 x2 u) fun r2 =>
      bP (mC_Catalog_columnsOf r2 u) fun r3 =>
      seq ((x1 + r3) : Int32) fun y4 =>
      seq (x2 + 1 : Int32) fun y5 =>
      (mC_Meaning_columnsOfStar_L4 n) y4 y5 u
def mC_Meaning_columnsOfStar (u : St) : Option (Int32) :=
  mC_Meaning_columnsOfStar_L4 FU 0 0 u
def mC_Meaning_spreadStar_L26 (q2 : Int32 → St → Option (St)) : Nat → Int32 → Int32 → Int32 → St → Option (St)
  | 0, _, _, _, _ => none
  | n + 1, x1, x2, x3, u =>
    bP (mC_Catalog_columnsOf x2 u) fun r3 =>
    if r3 ≤ x3 then
      seq (x1 + 1 : Int32) fun y4 =>
      q2 y4 u
    else
      bM (mC_Nodes_leaf 4 (-1) (-1) (-1) u) fun r5 u6 =>
      bP (mC_Nodes_putPlace r5 x1 x3 u6) fun u7 =>
      bP (mC_Catalog_typeOf x2 x3 u7) fun r8 =>
      bP (mC_Nodes_putType r5 r8 u7) fun u9 =>
      bP (mC_Lists_add 0 r5 u9) fun u10 =>
      seq (x3 + 1 : Int32) fun y11 =>
      (mC_Meaning_spreadStar_L26 q2 n) x1 x2 y11 u10
def mC_Meaning_spreadStar_L2 : Nat → Int32 → St → Option (St)
  | 0, _, _ => none
  | n + 1, x1, u =>
    bP (mC_Lists_size 3 u) fun r1 =>
    if r1 ≤ x1 then
      some u
    else
      bP (mC_Lists_at 3 x1 u) fun r2 =>
      mC_Meaning_spreadStar_L26 (mC_Meaning_spreadStar_L2 n) FU x1 r2 0 u
def mC_Meaning_spreadStar (u : St) : Option (St) :=
  mC_Meaning_spreadStar_L2 FU 0 u
def mC_Meaning_valuesMatch_L44 : Nat → Int32 → Int32 → Int32 → St → Option (Int32)
  | 0, _, _, _, _ => none
  | n + 1, x1, x2, x3, u =>
    bP (mC_Lists_size 12 u) fun r2 =>
    if r2 ≤ x3 then
      some 1
    else
      bP (mC_Lists_at 12 x3 u) fun r3 =>
      if (r3 - x2) = x1 then
        seq (x3 + 1 : Int32) fun y4 =>
        (mC_Meaning_valuesMatch_L44 n) x1 r3 y4 u
      else
        some 0
def mC_Meaning_valuesMatch (u : St) : Option (Int32) :=
  bP (mC_Catalog_columnsOf (u.1 13) u) fun r1 =>
  if (u.1 10) = 5 then
    bP (mC_Lists_size 0 u) fun r5 =>
    if r5 = r1 then
      mC_Meaning_valuesMatch_L44 FU r1 0 0 u
    else
      some 0
  else
    mC_Meaning_valuesMatch_L44 FU r1 0 0 u
def mC_Meaning_namesDiffer_L28 (q2 : Int32 → St → Option (Int32)) : Nat → Int32 → Int32 → Int32 → St → Option (Int32)
  | 0, _, _, _, _ => none
  | n + 1, x1, x2, x3, u =>
    if x1 ≤ x3 then
      seq (x1 + 1 : Int32) fun y3 =>
      q2 y3 u
    else
      bP (mC_Lists_at 13 x3 u) fun r4 =>
      bP (mC_Text_same_11_11 x2 r4 u) fun r5 =>
      if r5 = 0 then
        seq (x3 + 1 : Int32) fun y6 =>
        (mC_Meaning_namesDiffer_L28 q2 n) x1 x2 y6 u
      else
        some 0
def mC_Meaning_namesDiffer_L2 : Nat → Int32 → St → Option (Int32)
  | 0, _, _ => none
  | n + 1, x1, u =>
    bP (mC_Lists_size 13 u) fun r1 =>
    if r1 ≤ x1 then
      some 1
    else
      bP (mC_Lists_at 13 x1 u) fun r2 =>
      mC_Meaning_namesDiffer_L28 (mC_Meaning_namesDiffer_L2 n) FU x1 r2 0 u
def mC_Meaning_namesDiffer (u : St) : Option (Int32) :=
  mC_Meaning_namesDiffer_L2 FU 0 u
def mC_Meaning_ordersMatch_J35 (q2 : Int32 → St → Option (Int32)) (x1 : Int32) (s0 : Int32) (u : St) : Option (Int32) :=
  bP (mC_Lists_size 0 u) fun r3 =>
  if s0 < r3 then
    seq (x1 + 1 : Int32) fun y4 =>
    q2 y4 u
  else
    some 0
def mC_Meaning_ordersMatch_L2 : Nat → Int32 → St → Option (Int32)
  | 0, _, _ => none
  | n + 1, x1, u =>
    bP (mC_Lists_size 2 u) fun r1 =>
    if r1 ≤ x1 then
      some 1
    else
      bP (mC_Lists_at 2 x1 u) fun r2 =>
      if 0 ≤ r2 then
        mC_Meaning_ordersMatch_J35 (mC_Meaning_ordersMatch_L2 n) x1 r2 u
      else
        mC_Meaning_ordersMatch_J35 (mC_Meaning_ordersMatch_L2 n) x1 ((-1) - r2) u
def mC_Meaning_ordersMatch (u : St) : Option (Int32) :=
  mC_Meaning_ordersMatch_L2 FU 0 u
def mC_Meaning_measureError_J75 (s0 : Int32) (u : St) : Option (Int32 × St) :=
  bP (mC_Meaning_valuesMatch u) fun r2 =>
  if r2 = 0 then
    some (1, u)
  else
    bP (mC_Meaning_namesDiffer u) fun r3 =>
    if r3 = 0 then
      some (1, u)
    else
      bP (mC_Meaning_ordersMatch u) fun r4 =>
      if r4 = 0 then
        some (1, u)
      else
        if s0 = 0 then
          bP (mC_Lists_size 8 u) fun r5 =>
          if r5 = 0 then
            some (0, u)
          else
            some (1, u)
        else
          some (0, u)
def mC_Meaning_measureError_J58 (u : St) : Option (Int32 × St) :=
  if (u.1 9) = 16 then
    mC_Meaning_measureError_J75 1 u
  else
    mC_Meaning_measureError_J75 0 u
def mC_Meaning_measureError_J18 (s0 : Int32) (u : St) : Option (Int32 × St) :=
  if s0 ≤ 8 then
    bP (mC_Nodes_size u) fun r1 =>
    if (r1 + s0) ≤ 200 then
      if (u.1 21) = 0 then
        mC_Meaning_measureError_J58 u
      else
        bP (mC_Meaning_spreadStar u) fun u6 =>
        mC_Meaning_measureError_J58 u6
    else
      some (2, u)
  else
    some (3, u)
def mC_Meaning_measureError (u : St) : Option (Int32 × St) :=
  if (u.1 21) = 0 then
    mC_Meaning_measureError_J18 0 u
  else
    bP (mC_Meaning_columnsOfStar u) fun r7 =>
    mC_Meaning_measureError_J18 r7 u
def mC_Nodes_aggregates (x0 : Int32) (u : St) : Option (Int32) :=
  if x0 < 5 then
    some 0
  else
    if 9 < x0 then
      some 0
    else
      some 1
def mC_Meaning_isAggregated_L11 : Nat → Int32 → Int32 → St → Option (Int32)
  | 0, _, _, _ => none
  | n + 1, x2, x3, u =>
    if 200 ≤ x3 then
      some 0
    else
      if x2 < 0 then
        some 0
      else
        bP (mC_Nodes_kindOf x2 u) fun r2 =>
        bP (mC_Nodes_aggregates r2 u) fun r3 =>
        if r3 = 0 then
          bP (mC_Nodes_parentOf x2 u) fun r4 =>
          seq (x3 + 1 : Int32) fun y5 =>
          (mC_Meaning_isAggregated_L11 n) r4 y5 u
        else
          some 1
def mC_Meaning_isAggregated (x1 : Int32) (u : St) : Option (Int32) :=
  bP (mC_Nodes_parentOf x1 u) fun r1 =>
  mC_Meaning_isAggregated_L11 FU r1 0 u
def mC_Meaning_isGrouped_J48 (q2 : Int32 → Int32 → St → Option (Int32)) (x1 : Int32) (x2 : Int32) (x3 : Int32) (s0 : Int32) (u : St) : Option (Int32) :=
  if s0 = 0 then
    seq (x2 + 1 : Int32) fun y5 =>
    q2 x1 y5 u
  else
    bP (mC_Nodes_secondOf x3 u) fun r6 =>
    bP (mC_Nodes_secondOf x1 u) fun r7 =>
    if r6 = r7 then
      some 1
    else
      seq (x2 + 1 : Int32) fun y8 =>
      q2 x1 y8 u
def mC_Meaning_isGrouped_L2 : Nat → Int32 → Int32 → St → Option (Int32)
  | 0, _, _, _ => none
  | n + 1, x1, x2, u =>
    bP (mC_Lists_size 1 u) fun r1 =>
    if r1 ≤ x2 then
      some 0
    else
      bP (mC_Lists_at 1 x2 u) fun r2 =>
      bP (mC_Nodes_firstOf r2 u) fun r3 =>
      bP (mC_Nodes_firstOf x1 u) fun r4 =>
      if r3 = r4 then
        mC_Meaning_isGrouped_J48 (mC_Meaning_isGrouped_L2 n) x1 x2 r2 1 u
      else
        mC_Meaning_isGrouped_J48 (mC_Meaning_isGrouped_L2 n) x1 x2 r2 0 u
def mC_Meaning_isGrouped (x1 : Int32) (u : St) : Option (Int32) :=
  mC_Meaning_isGrouped_L2 FU x1 0 u
def mC_Meaning_itemsAreGrouped_J85 (q52 : Int32 → Int32 → St → Option (Int32)) (x3 : Int32) (x4 : Int32) (s0 : Int32) (u : St) : Option (Int32) :=
  if s0 = 0 then
    seq (x4 + 1 : Int32) fun y5 =>
    q52 x3 y5 u
  else
    bP (mC_Meaning_isGrouped x4 u) fun r6 =>
    if r6 = 0 then
      some 0
    else
      seq (x4 + 1 : Int32) fun y7 =>
      q52 x3 y7 u
def mC_Meaning_itemsAreGrouped_L52 : Nat → Int32 → Int32 → St → Option (Int32)
  | 0, _, _, _ => none
  | n + 1, x3, x4, u =>
    if x3 < x4 then
      some 1
    else
      bP (mC_Nodes_kindOf x4 u) fun r4 =>
      if r4 = 4 then
        bP (mC_Meaning_isAggregated x4 u) fun r8 =>
        if r8 = 0 then
          mC_Meaning_itemsAreGrouped_J85 (mC_Meaning_itemsAreGrouped_L52 n) x3 x4 1 u
        else
          mC_Meaning_itemsAreGrouped_J85 (mC_Meaning_itemsAreGrouped_L52 n) x3 x4 0 u
      else
        mC_Meaning_itemsAreGrouped_J85 (mC_Meaning_itemsAreGrouped_L52 n) x3 x4 0 u
def mC_Meaning_itemsAreGrouped_J32 (x1 : Int32) (s0 : Int32) (u : St) : Option (Int32) :=
  bP (mC_Lists_at 0 (x1 - 1) u) fun r2 =>
  seq ((if s0 < 0 then 0 else s0) : Int32) fun y3 =>
  mC_Meaning_itemsAreGrouped_L52 FU r2 y3 u
def mC_Meaning_itemsAreGrouped (u : St) : Option (Int32) :=
  bP (mC_Lists_size 0 u) fun r1 =>
  if (u.1 21) = 0 then
    mC_Meaning_itemsAreGrouped_J32 r1 0 u
  else
    bP (mC_Lists_at 0 0 u) fun r9 =>
    mC_Meaning_itemsAreGrouped_J32 r1 r9 u
def mC_Meaning_groupError_J173 (x3 : Int32) (s0 : Int32) (u : St) : Option (Int32) :=
  if x3 = 0 then
    some 0
  else
    if (u.1 16) ≤ 0 then
      some 0
    else
      if s0 = 0 then
        some 10
      else
        some 0
def mC_Meaning_groupError_J125 (x1 : Int32) (x2 : Int32) (s0 : Int32) (u : St) : Option (Int32) :=
  bP (mC_Lists_size 3 u) fun r4 =>
  if r4 = 1 then
    if (u.1 20) = 0 then
      if x2 = 0 then
        if x1 = 0 then
          if (u.1 10) = 8 then
            mC_Meaning_groupError_J173 s0 1 u
          else
            mC_Meaning_groupError_J173 s0 0 u
        else
          mC_Meaning_groupError_J173 s0 0 u
      else
        mC_Meaning_groupError_J173 s0 0 u
    else
      mC_Meaning_groupError_J173 s0 0 u
  else
    mC_Meaning_groupError_J173 s0 0 u
def mC_Meaning_groupError_J97 (x1 : Int32) (x2 : Int32) (u : St) : Option (Int32) :=
  if (u.1 10) = 8 then
    mC_Meaning_groupError_J125 x1 x2 1 u
  else
    if (u.1 10) = 5 then
      mC_Meaning_groupError_J125 x1 x2 1 u
    else
      mC_Meaning_groupError_J125 x1 x2 0 u
def mC_Meaning_groupError_J78 (x1 : Int32) (s0 : Int32) (u : St) : Option (Int32) :=
  if x1 = 0 then
    if s0 = 0 then
      mC_Meaning_groupError_J97 x1 s0 u
    else
      bP (mC_Meaning_itemsAreGrouped u) fun r5 =>
      if r5 = 0 then
        some 9
      else
        mC_Meaning_groupError_J97 x1 s0 u
  else
    bP (mC_Meaning_itemsAreGrouped u) fun r3 =>
    if r3 = 0 then
      some 9
    else
      mC_Meaning_groupError_J97 x1 s0 u
def mC_Meaning_groupError_J42 (q4 : Int32 → Int32 → St → Option (Int32)) (x1 : Int32) (x2 : Int32) (x3 : Int32) (u : St) : Option (Int32) :=
  if x1 = 0 then
    if x3 = 0 then
      seq (x2 + 1 : Int32) fun y9 =>
      q4 0 y9 u
    else
      seq (x2 + 1 : Int32) fun y10 =>
      q4 1 y10 u
  else
    seq (x2 + 1 : Int32) fun y8 =>
    q4 1 y8 u
def mC_Meaning_groupError_L4 : Nat → Int32 → Int32 → St → Option (Int32)
  | 0, _, _, _ => none
  | n + 1, x1, x2, u =>
    bP (mC_Nodes_size u) fun r1 =>
    if r1 ≤ x2 then
      bP (mC_Lists_size 1 u) fun r2 =>
      if r2 ≤ 0 then
        mC_Meaning_groupError_J78 x1 0 u
      else
        mC_Meaning_groupError_J78 x1 1 u
    else
      bP (mC_Nodes_kindOf x2 u) fun r6 =>
      bP (mC_Nodes_aggregates r6 u) fun r7 =>
      if r7 = 0 then
        mC_Meaning_groupError_J42 (mC_Meaning_groupError_L4 n) x1 x2 r7 u
      else
        bP (mC_Meaning_isAggregated x2 u) fun r11 =>
        if r11 = 0 then
          mC_Meaning_groupError_J42 (mC_Meaning_groupError_L4 n) x1 x2 r7 u
        else
          some 9
def mC_Meaning_groupError (u : St) : Option (Int32) :=
  mC_Meaning_groupError_L4 FU 0 0 u
def mC_Meaning_firstError_J14 (x1 : Int32) (u : St) : Option (Int32 × St) :=
  if x1 = 0 then
    bM (mC_Meaning_measureError u) fun r4 u5 =>
    if r4 = 0 then
      bP (mC_Meaning_groupError u5) fun r6 =>
      some (r6, u5)
    else
      some (r4, u5)
  else
    if x1 = 0 then
      bP (mC_Meaning_groupError u) fun r3 =>
      some (r3, u)
    else
      some (x1, u)
def mC_Meaning_firstError (u : St) : Option (Int32 × St) :=
  bM (mC_Meaning_tableError u) fun r1 u2 =>
  if r1 = 0 then
    bM (mC_Meaning_typeError u2) fun r7 u8 =>
    mC_Meaning_firstError_J14 r7 u8
  else
    mC_Meaning_firstError_J14 r1 u2
def mC_SqlReader_read_J106 (s0 : Int32) (u : St) : Option (Int32 × St) :=
  if s0 ≤ 0 then
    some ((u.1 9), u)
  else
    bP (mC_SqlReader_forget u) fun u9 =>
    some ((-s0), u9)
def mC_SqlReader_read_J62 (s0 : Int32) (u : St) : Option (Int32 × St) :=
  if s0 = 0 then
    mC_SqlReader_read_J106 1 u
  else
    bP (mC_Nodes_isOver u) fun r5 =>
    if r5 = 0 then
      bP (mC_Lists_isOver u) fun r6 =>
      if r6 = 0 then
        bM (mC_Meaning_firstError u) fun r7 u8 =>
        mC_SqlReader_read_J106 r7 u8
      else
        mC_SqlReader_read_J106 3 u
    else
      mC_SqlReader_read_J106 2 u
def mC_SqlReader_read (u : St) : Option (Int32 × St) :=
  bP (mC_SqlReader_forget u) fun u1 =>
  bM (mC_Tokens_cut u1) fun r2 u3 =>
  bP (mC_Text_clear u3) fun u4 =>
  if r2 = 0 then
    mC_SqlReader_read_J62 0 u4
  else
    bM (mC_Parser_begins u4) fun r10 u11 =>
    if r10 = 0 then
      mC_SqlReader_read_J62 0 u11
    else
      bM (mC_Parser_deed u11) fun r12 u13 =>
      if r12 = 0 then
        mC_SqlReader_read_J62 0 u13
      else
        bM (mC_Parser_ends u13) fun r14 u15 =>
        if r14 = 0 then
          mC_SqlReader_read_J62 0 u15
        else
          mC_SqlReader_read_J62 1 u15
def mC_SqlReader_node (x1 : Int32) (x2 : Int32) (u : St) : Option (Int32) :=
  if x2 = 0 then
    bP (mC_Nodes_kindOf x1 u) fun r1 =>
    some r1
  else
    if x2 = 1 then
      bP (mC_Nodes_firstOf x1 u) fun r2 =>
      some r2
    else
      if x2 = 2 then
        bP (mC_Nodes_secondOf x1 u) fun r3 =>
        some r3
      else
        if x2 = 3 then
          bP (mC_Nodes_typeOf x1 u) fun r4 =>
          some r4
        else
          some (-1)
def mC_SqlReader_value (x1 : Int32) (u : St) : Option (Int64) :=
  bP (mC_Nodes_kindOf x1 u) fun r1 =>
  if r1 = 1 then
    bP (mC_Nodes_spanOf x1 u) fun r4 =>
    bP (mC_Tokens_numberOf r4 u) fun r5 =>
    some r5
  else
    if r1 = 2 then
      bP (mC_Nodes_spanOf x1 u) fun r2 =>
      bP (mC_Text_sizeOf r2 u) fun r3 =>
      some (Int32.toInt64 r3)
    else
      some 0
def mC_Tokens_text (u : St) : Option (Unit) :=
  some ()
def mC_Text_letterAt (x1 : Int32) (x2 : Int32) (u : St) : Option (Int32) :=
  if x2 < 0 then
    some (-1)
  else
    bP (mC_Text_sizeOf x1 u) fun r1 =>
    if x2 < r1 then
      bP (mC_Text_startOf x1 u) fun r2 =>
      bP (mC_Text_at_11 (r2 + x2) u) fun r3 =>
      some r3
    else
      some (-1)
def mC_SqlReader_letter (x1 : Int32) (x2 : Int32) (u : St) : Option (Int32) :=
  bP (mC_Nodes_kindOf x1 u) fun r1 =>
  if r1 = 2 then
    bP (mC_Tokens_text u) fun _ =>
    bP (mC_Nodes_spanOf x1 u) fun r2 =>
    bP (mC_Text_letterAt r2 x2 u) fun r3 =>
    some r3
  else
    some (-1)
def mC_SqlReader_count (x1 : Int32) (u : St) : Option (Int32) :=
  if x1 = 0 then
    bP (mC_Nodes_size u) fun r1 =>
    some r1
  else
    if x1 = 1 then
      bP (mC_Lists_size 0 u) fun r2 =>
      some r2
    else
      if x1 = 2 then
        bP (mC_Lists_size 1 u) fun r3 =>
        some r3
      else
        if x1 = 3 then
          bP (mC_Lists_size 2 u) fun r4 =>
          some r4
        else
          if x1 = 4 then
            bP (mC_Lists_size 3 u) fun r5 =>
            some r5
          else
            if x1 = 5 then
              bP (mC_Lists_size 5 u) fun r6 =>
              some r6
            else
              if x1 = 6 then
                bP (mC_Lists_size 12 u) fun r7 =>
                some r7
              else
                if x1 = 7 then
                  bP (mC_Lists_size 7 u) fun r8 =>
                  some r8
                else
                  if x1 = 8 then
                    bP (mC_Lists_size 8 u) fun r9 =>
                    some r9
                  else
                    if x1 = 9 then
                      bP (mC_Lists_size 9 u) fun r10 =>
                      some r10
                    else
                      if x1 = 10 then
                        some (u.1 16)
                      else
                        if x1 = 11 then
                          if (u.1 20) = 0 then
                            some 0
                          else
                            some 1
                        else
                          if x1 = 12 then
                            some (u.1 17)
                          else
                            if x1 = 13 then
                              some (u.1 18)
                            else
                              if x1 = 14 then
                                if (u.1 9) = 16 then
                                  some (u.1 10)
                                else
                                  some 0
                              else
                                if x1 = 15 then
                                  some (u.1 13)
                                else
                                  if x1 = 16 then
                                    some (u.1 15)
                                  else
                                    if x1 = 17 then
                                      if (u.1 19) = 0 then
                                        some 0
                                      else
                                        some 1
                                    else
                                      some (-1)
def mC_SqlReader_list (x1 : Int32) (x2 : Int32) (u : St) : Option (Int32) :=
  if 9 < x1 then
    some (-1)
  else
    bP (mC_Lists_at x1 x2 u) fun r1 =>
    some r1
def mC_SqlReader_name_J40 (x1 : Int32) (x2 : Int32) (s0 : Int32) (u : St) : Option (Int32) :=
  if s0 = 0 then
    some (-1)
  else
    bP (mC_Tokens_text u) fun _ =>
    bP (mC_Lists_at 13 x1 u) fun r1 =>
    bP (mC_Text_letterAt r1 x2 u) fun r2 =>
    some r2
def mC_SqlReader_name (x1 : Int32) (x2 : Int32) (u : St) : Option (Int32) :=
  if x1 = (-1) then
    bP (mC_Tokens_text u) fun _ =>
    bP (mC_Text_letterAt (u.1 11) x2 u) fun r3 =>
    some r3
  else
    if (u.1 9) = 1 then
      mC_SqlReader_name_J40 x1 x2 1 u
    else
      mC_SqlReader_name_J40 x1 x2 0 u
