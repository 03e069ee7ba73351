def mM_SqlReaderModel_type_L30 : Nat → Int64 → Int32 → St → Option (Int32 × St)
  | 0, _, _, _ => none
  | n + 1, x1, x4, u =>
    if x4 < 0 then
      some (1, u)
    else
      gd (inb (u.1 0) 2000) <| seq (sa u 0 (u.1 0) (i2b (i2b (Int64.toInt32 (shrL x1 (8 * x4)))))) fun u2 =>
      seq (ss u2 0 ((u2.1 0) + 1)) fun u3 =>
      seq (x4 + (-1) : Int32) fun y4 =>
      (mM_SqlReaderModel_type_L30 n) x1 y4 u3
def mM_SqlReaderModel_type (x1 : Int64) (x3 : Int32) (u : St) : Option (Int32 × St) :=
  if x3 < 1 then
    some (0, u)
  else
    if 8 < x3 then
      some (0, u)
    else
      if ((u.1 0) + x3) ≤ 2000 then
        seq ((x3 - 1) : Int32) fun y1 =>
        mM_SqlReaderModel_type_L30 FU x1 y1 u
      else
        some (0, u)
def mM_SqlReaderModel_at (x1 : Int32) (u : St) : Option (Int32) :=
  if (u.1 0) ≤ x1 then
    some 0
  else
    gd (inb x1 2000) <|
    some (ga u 0 x1)
def mM_SqlReaderModel_token (x1 : Int32) (x2 : Int32) (x3 : Int32) (u : St) : Option (St) :=
  gd (inb (u.1 1) 2001) <| seq (sa u 1 (u.1 1) x1) fun u1 =>
  gd (inb (u1.1 1) 2001) <| seq (sa u1 2 (u1.1 1) x2) fun u2 =>
  gd (inb (u2.1 1) 2001) <| seq (sa u2 3 (u2.1 1) x3) fun u3 =>
  seq (ss u3 1 ((u3.1 1) + 1)) fun u4 =>
  some u4
def mM_SqlReaderModel_cutText_J135 (x1 : Int32) (x2 : Int32) (x3 : Int32) (u : St) : Option (Int32 × St) :=
  if (u.1 2) = 0 then
    if x2 ≤ 31 then
      seq (ss u 2 0) fun u4 =>
      bP (mM_SqlReaderModel_token 4 x1 x3 u4) fun u5 =>
      some (x3, u5)
    else
      seq (ss u 2 1) fun u6 =>
      bP (mM_SqlReaderModel_token 4 x1 x3 u6) fun u7 =>
      some (x3, u7)
  else
    seq (ss u 2 1) fun u2 =>
    bP (mM_SqlReaderModel_token 4 x1 x3 u2) fun u3 =>
    some (x3, u3)
def mM_SqlReaderModel_cutText_J111 (q9 : Int32 → Int32 → Int32 → Int32 → St → Option (Int32 × St)) (x1 : Int32) (x3 : Int32) (x4 : Int32) (x5 : Int32) (s0 : Int32) (u : St) : Option (Int32 × St) :=
  if x5 = 0 then
    seq ((x3 + 1) : Int32) fun y10 =>
    q9 x1 s0 y10 x4 u
  else
    if x4 = 0 then
      seq ((x3 + 1) : Int32) fun y11 =>
      q9 x1 s0 y11 x4 u
    else
      seq ((x3 + 2) : Int32) fun y12 =>
      q9 x1 s0 y12 x4 u
def mM_SqlReaderModel_cutText_J96 (q9 : Int32 → Int32 → Int32 → Int32 → St → Option (Int32 × St)) (x1 : Int32) (x2 : Int32) (x3 : Int32) (x4 : Int32) (x5 : Int32) (s1 : Int32) (u : St) : Option (Int32 × St) :=
  gd (zb s1) <| seq (ss u 2 s1) fun u9 =>
  if x4 = 0 then
    mM_SqlReaderModel_cutText_J111 q9 x1 x3 x4 x5 x2 u9
  else
    mM_SqlReaderModel_cutText_J111 q9 x1 x3 x4 x5 (x2 + 1) u9
def mM_SqlReaderModel_cutText_J60 (q9 : Int32 → Int32 → Int32 → Int32 → St → Option (Int32 × St)) (x1 : Int32) (x2 : Int32) (x3 : Int32) (x5 : Int32) (s0 : Int32) (u : St) : Option (Int32 × St) :=
  if (u.1 0) ≤ x3 then
    mM_SqlReaderModel_cutText_J96 q9 x1 x2 x3 s0 x5 1 u
  else
    bP (mM_SqlReaderModel_at x3 u) fun r13 =>
    if r13 < 32 then
      mM_SqlReaderModel_cutText_J96 q9 x1 x2 x3 s0 x5 1 u
    else
      bP (mM_SqlReaderModel_at x3 u) fun r14 =>
      if r14 ≤ 126 then
        mM_SqlReaderModel_cutText_J96 q9 x1 x2 x3 s0 x5 0 u
      else
        mM_SqlReaderModel_cutText_J96 q9 x1 x2 x3 s0 x5 1 u
def mM_SqlReaderModel_cutText_J36 (q9 : Int32 → Int32 → Int32 → Int32 → St → Option (Int32 × St)) (x1 : Int32) (x2 : Int32) (x3 : Int32) (s0 : Int32) (u : St) : Option (Int32 × St) :=
  if s0 = 0 then
    mM_SqlReaderModel_cutText_J60 q9 x1 x2 x3 s0 1 u
  else
    bP (mM_SqlReaderModel_at (x3 + 1) u) fun r15 =>
    if r15 = 39 then
      mM_SqlReaderModel_cutText_J60 q9 x1 x2 x3 s0 1 u
    else
      mM_SqlReaderModel_cutText_J60 q9 x1 x2 x3 s0 0 u
def mM_SqlReaderModel_cutText_L9 : Nat → Int32 → Int32 → Int32 → Int32 → St → Option (Int32 × St)
  | 0, _, _, _, _, _ => none
  | n + 1, x1, x2, x3, x4, u =>
    if x4 = 0 then
      mM_SqlReaderModel_cutText_J135 x1 x2 x3 u
    else
      if (u.1 2) = 0 then
        bP (mM_SqlReaderModel_at x3 u) fun r8 =>
        if r8 = 39 then
          mM_SqlReaderModel_cutText_J36 (mM_SqlReaderModel_cutText_L9 n) x1 x2 x3 1 u
        else
          mM_SqlReaderModel_cutText_J36 (mM_SqlReaderModel_cutText_L9 n) x1 x2 x3 0 u
      else
        mM_SqlReaderModel_cutText_J135 x1 x2 x3 u
def mM_SqlReaderModel_cutText (x1 : Int32) (u : St) : Option (Int32 × St) :=
  seq ((x1 + 1) : Int32) fun y1 =>
  mM_SqlReaderModel_cutText_L9 FU x1 0 y1 1 u
def mM_SqlReaderModel_isCapital (x0 : Int32) (u : St) : Option (Int32) :=
  if x0 < 65 then
    some 0
  else
    if 90 < x0 then
      some 0
    else
      some 1
def mM_SqlReaderModel_isSmall (x0 : Int32) (u : St) : Option (Int32) :=
  if x0 < 97 then
    some 0
  else
    if 122 < x0 then
      some 0
    else
      some 1
def mM_SqlReaderModel_isDigit (x0 : Int32) (u : St) : Option (Int32) :=
  if x0 < 48 then
    some 0
  else
    if 57 < x0 then
      some 0
    else
      some 1
def mM_SqlReaderModel_isInName (x0 : Int32) (u : St) : Option (Int32) :=
  bP (mM_SqlReaderModel_isSmall x0 u) fun r1 =>
  if r1 = 0 then
    bP (mM_SqlReaderModel_isDigit x0 u) fun r2 =>
    if r2 = 0 then
      if x0 = 95 then
        some 1
      else
        some 0
    else
      some 1
  else
    some 1
def mM_SqlReaderModel_signEnd_J139 (x1 : Int32) (u : St) : Option (Int32) :=
  some (x1 + 1)
def mM_SqlReaderModel_signEnd_J61 (x1 : Int32) (x2 : Int32) (u : St) : Option (Int32) :=
  if x2 = 40 then
    mM_SqlReaderModel_signEnd_J139 x1 u
  else
    if x2 = 41 then
      mM_SqlReaderModel_signEnd_J139 x1 u
    else
      if x2 = 44 then
        mM_SqlReaderModel_signEnd_J139 x1 u
      else
        if x2 = 46 then
          mM_SqlReaderModel_signEnd_J139 x1 u
        else
          if x2 = 59 then
            mM_SqlReaderModel_signEnd_J139 x1 u
          else
            if x2 = 42 then
              mM_SqlReaderModel_signEnd_J139 x1 u
            else
              if x2 = 61 then
                mM_SqlReaderModel_signEnd_J139 x1 u
              else
                if x2 = 60 then
                  mM_SqlReaderModel_signEnd_J139 x1 u
                else
                  if x2 = 62 then
                    mM_SqlReaderModel_signEnd_J139 x1 u
                  else
                    if x2 = 43 then
                      mM_SqlReaderModel_signEnd_J139 x1 u
                    else
                      if x2 = 45 then
                        mM_SqlReaderModel_signEnd_J139 x1 u
                      else
                        if x2 = 47 then
                          mM_SqlReaderModel_signEnd_J139 x1 u
                        else
                          if x2 = 37 then
                            mM_SqlReaderModel_signEnd_J139 x1 u
                          else
                            some (-1)
def mM_SqlReaderModel_signEnd_J45 (x1 : Int32) (x2 : Int32) (x3 : Int32) (u : St) : Option (Int32) :=
  if x2 = 124 then
    if x3 = 124 then
      some (x1 + 2)
    else
      mM_SqlReaderModel_signEnd_J61 x1 x2 u
  else
    mM_SqlReaderModel_signEnd_J61 x1 x2 u
def mM_SqlReaderModel_signEnd_J33 (x1 : Int32) (x2 : Int32) (x3 : Int32) (u : St) : Option (Int32) :=
  if x2 = 62 then
    if x3 = 61 then
      some (x1 + 2)
    else
      mM_SqlReaderModel_signEnd_J45 x1 x2 x3 u
  else
    mM_SqlReaderModel_signEnd_J45 x1 x2 x3 u
def mM_SqlReaderModel_signEnd (x1 : Int32) (u : St) : Option (Int32) :=
  gd (inb x1 2000) <|
  seq ((ga u 0 x1) : Int32) fun y1 =>
  bP (mM_SqlReaderModel_at (x1 + 1) u) fun r2 =>
  if y1 = 60 then
    if r2 = 62 then
      some (x1 + 2)
    else
      if r2 = 61 then
        some (x1 + 2)
      else
        mM_SqlReaderModel_signEnd_J33 x1 y1 r2 u
  else
    mM_SqlReaderModel_signEnd_J33 x1 y1 r2 u
def mM_SqlReaderModel_cut_J261 (q12 : Int32 → St → Option (St)) (x1 : Int32) (x3 : Int32) (x4 : Int32) (s1 : Int32) (u : St) : Option (St) :=
  gd (zb s1) <| seq (ss u 2 s1) fun u8 =>
  bP (mM_SqlReaderModel_token x4 x1 x3 u8) fun u9 =>
  q12 x3 u9
def mM_SqlReaderModel_cut_J242 (q12 : Int32 → St → Option (St)) (x1 : Int32) (x3 : Int32) (x4 : Int32) (u : St) : Option (St) :=
  if x4 = 3 then
    if (x3 - x1) ≤ 18 then
      mM_SqlReaderModel_cut_J261 q12 x1 x3 x4 0 u
    else
      mM_SqlReaderModel_cut_J261 q12 x1 x3 x4 1 u
  else
    mM_SqlReaderModel_cut_J261 q12 x1 x3 x4 0 u
def mM_SqlReaderModel_cut_J216 (q12 : Int32 → St → Option (St)) (x1 : Int32) (x3 : Int32) (x4 : Int32) (u : St) : Option (St) :=
  if (u.1 2) = 0 then
    if x3 < 0 then
      mM_SqlReaderModel_cut_J261 q12 x1 x3 x4 1 u
    else
      if x4 = 2 then
        if 16 < (x3 - x1) then
          mM_SqlReaderModel_cut_J261 q12 x1 x3 x4 1 u
        else
          mM_SqlReaderModel_cut_J242 q12 x1 x3 x4 u
      else
        mM_SqlReaderModel_cut_J242 q12 x1 x3 x4 u
  else
    mM_SqlReaderModel_cut_J261 q12 x1 x3 x4 1 u
def mM_SqlReaderModel_cut_J159 (q12 : Int32 → St → Option (St)) (x1 : Int32) (x2 : Int32) (x3 : Int32) (x4 : Int32) (u : St) : Option (St) :=
  if x2 = 36 then
    bP (mM_SqlReaderModel_at x3 u) fun r11 =>
    if r11 < 49 then
      seq (ss u 2 1) fun u12 =>
      seq (x3 + 1 : Int32) fun y13 =>
      mM_SqlReaderModel_cut_J216 q12 x1 y13 5 u12
    else
      bP (mM_SqlReaderModel_at x3 u) fun r14 =>
      if r14 ≤ 57 then
        seq (ss u 2 0) fun u15 =>
        seq (x3 + 1 : Int32) fun y16 =>
        mM_SqlReaderModel_cut_J216 q12 x1 y16 5 u15
      else
        seq (ss u 2 1) fun u17 =>
        seq (x3 + 1 : Int32) fun y18 =>
        mM_SqlReaderModel_cut_J216 q12 x1 y18 5 u17
  else
    if x4 = 6 then
      bP (mM_SqlReaderModel_signEnd x1 u) fun r10 =>
      mM_SqlReaderModel_cut_J216 q12 x1 r10 x4 u
    else
      mM_SqlReaderModel_cut_J216 q12 x1 x3 x4 u
def mM_SqlReaderModel_cut_J136 (q12 : Int32 → St → Option (St)) (q102 : Int32 → Int32 → Int32 → Int32 → St → Option (St)) (x1 : Int32) (x2 : Int32) (x3 : Int32) (x4 : Int32) (u : St) : Option (St) :=
  if x4 = 3 then
    bP (mM_SqlReaderModel_at x3 u) fun r19 =>
    bP (mM_SqlReaderModel_isDigit r19 u) fun r20 =>
    if r20 = 0 then
      mM_SqlReaderModel_cut_J159 q12 x1 x2 x3 x4 u
    else
      seq (x3 + 1 : Int32) fun y21 =>
      q102 x1 x2 y21 x4 u
  else
    mM_SqlReaderModel_cut_J159 q12 x1 x2 x3 x4 u
def mM_SqlReaderModel_cut_J119 (q12 : Int32 → St → Option (St)) (q102 : Int32 → Int32 → Int32 → Int32 → St → Option (St)) (x1 : Int32) (x2 : Int32) (x3 : Int32) (x4 : Int32) (u : St) : Option (St) :=
  if x4 = 2 then
    bP (mM_SqlReaderModel_at x3 u) fun r22 =>
    bP (mM_SqlReaderModel_isInName r22 u) fun r23 =>
    if r23 = 0 then
      mM_SqlReaderModel_cut_J136 q12 q102 x1 x2 x3 x4 u
    else
      seq (x3 + 1 : Int32) fun y24 =>
      q102 x1 x2 y24 x4 u
  else
    mM_SqlReaderModel_cut_J136 q12 q102 x1 x2 x3 x4 u
def mM_SqlReaderModel_cut_L102 (q12 : Int32 → St → Option (St)) : Nat → Int32 → Int32 → Int32 → Int32 → St → Option (St)
  | 0, _, _, _, _, _ => none
  | n + 1, x1, x2, x3, x4, u =>
    if x4 = 1 then
      bP (mM_SqlReaderModel_at x3 u) fun r25 =>
      bP (mM_SqlReaderModel_isCapital r25 u) fun r26 =>
      if r26 = 0 then
        mM_SqlReaderModel_cut_J119 q12 (mM_SqlReaderModel_cut_L102 q12 n) x1 x2 x3 x4 u
      else
        seq (x3 + 1 : Int32) fun y27 =>
        (mM_SqlReaderModel_cut_L102 q12 n) x1 x2 y27 x4 u
    else
      mM_SqlReaderModel_cut_J119 q12 (mM_SqlReaderModel_cut_L102 q12 n) x1 x2 x3 x4 u
def mM_SqlReaderModel_cut_L12 : Nat → Int32 → St → Option (St)
  | 0, _, _ => none
  | n + 1, x1, u =>
    if (u.1 0) ≤ x1 then
      some u
    else
      if (u.1 2) = 0 then
        gd (inb x1 2000) <|
        seq ((ga u 0 x1) : Int32) fun y3 =>
        seq ((x1 + 1) : Int32) fun y4 =>
        if y3 = 32 then
          seq (x1 + 1 : Int32) fun y30 =>
          (mM_SqlReaderModel_cut_L12 n) y30 u
        else
          if y3 = 39 then
            bM (mM_SqlReaderModel_cutText x1 u) fun r28 u29 =>
            (mM_SqlReaderModel_cut_L12 n) r28 u29
          else
            bP (mM_SqlReaderModel_isCapital y3 u) fun r5 =>
            if r5 = 0 then
              bP (mM_SqlReaderModel_isSmall y3 u) fun r6 =>
              if r6 = 0 then
                bP (mM_SqlReaderModel_isDigit y3 u) fun r7 =>
                if r7 = 0 then
                  mM_SqlReaderModel_cut_L102 (mM_SqlReaderModel_cut_L12 n) FU x1 y3 y4 6 u
                else
                  mM_SqlReaderModel_cut_L102 (mM_SqlReaderModel_cut_L12 n) FU x1 y3 y4 3 u
              else
                mM_SqlReaderModel_cut_L102 (mM_SqlReaderModel_cut_L12 n) FU x1 y3 y4 2 u
            else
              mM_SqlReaderModel_cut_L102 (mM_SqlReaderModel_cut_L12 n) FU x1 y3 y4 1 u
      else
        some u
def mM_SqlReaderModel_cut (u : St) : Option (St) :=
  seq (ss u 1 0) fun u1 =>
  seq (ss u1 2 0) fun u2 =>
  mM_SqlReaderModel_cut_L12 FU 0 u2
def mM_SqlReaderModel_takesName (u : St) : Option (Int32 × St) :=
  bP (mM_SqlReaderModel_cut u) fun u1 =>
  if (u1.1 2) = 0 then
    if (u1.1 1) = 1 then
      gd (inb 0 2001) <|
      if (ga u1 1 0) = 2 then
        gd (inb 0 2001) <|
        if (ga u1 2 0) = 0 then
          gd (inb 0 2001) <|
          if (ga u1 3 0) = (u1.1 0) then
            seq (ss u1 0 0) fun u7 =>
            some (1, u7)
          else
            seq (ss u1 0 0) fun u6 =>
            some (0, u6)
        else
          seq (ss u1 0 0) fun u5 =>
          some (0, u5)
      else
        seq (ss u1 0 0) fun u4 =>
        some (0, u4)
    else
      seq (ss u1 0 0) fun u3 =>
      some (0, u3)
  else
    seq (ss u1 0 0) fun u2 =>
    some (0, u2)
def mM_SqlReaderModel_isName_0_5_L28 : Nat → Int32 → Int32 → Int32 → Int32 → Int32 → St → Option (Int32)
  | 0, _, _, _, _, _, _ => none
  | n + 1, x1, x3, x4, x5, x6, u =>
    if x5 = 0 then
      gd (zb x5) <| some x5
    else
      if x4 ≤ x6 then
        gd (zb x5) <| some x5
      else
        gd (inb x1 2001) <|
        gd (inb ((ga u 2 x1) + x6) 2000) <|
        gd (inb (x3 + x6) 128) <|
        if (ga u 0 ((ga u 2 x1) + x6)) = (ga u 4 (x3 + x6)) then
          seq (x6 + 1 : Int32) fun y2 =>
          (mM_SqlReaderModel_isName_0_5_L28 n) x1 x3 x4 1 y2 u
        else
          seq (x6 + 1 : Int32) fun y1 =>
          (mM_SqlReaderModel_isName_0_5_L28 n) x1 x3 x4 0 y1 u
def mM_SqlReaderModel_isName_0_5 (x1 : Int32) (x3 : Int32) (x4 : Int32) (u : St) : Option (Int32) :=
  gd (inb x1 2001) <|
  gd (inb x1 2001) <|
  if ((ga u 3 x1) - (ga u 2 x1)) = x4 then
    mM_SqlReaderModel_isName_0_5_L28 FU x1 x3 x4 1 0 u
  else
    mM_SqlReaderModel_isName_0_5_L28 FU x1 x3 x4 0 0 u
def mM_SqlReaderModel_tableOf_L4 : Nat → Int32 → Int32 → Int32 → St → Option (Int32)
  | 0, _, _, _, _ => none
  | n + 1, x1, x2, x3, u =>
    if (u.1 3) ≤ x3 then
      some x2
    else
      gd (inb x3 8) <|
      bP (mM_SqlReaderModel_isName_0_5 x1 (16 * x3) (ga u 5 x3) u) fun r1 =>
      if r1 = 0 then
        seq (x3 + 1 : Int32) fun y2 =>
        (mM_SqlReaderModel_tableOf_L4 n) x1 x2 y2 u
      else
        seq (x3 + 1 : Int32) fun y3 =>
        (mM_SqlReaderModel_tableOf_L4 n) x1 x3 y3 u
def mM_SqlReaderModel_tableOf (x1 : Int32) (u : St) : Option (Int32) :=
  mM_SqlReaderModel_tableOf_L4 FU x1 (-1) 0 u
def mM_SqlReaderModel_table_L31 : Nat → Int32 → St → Option (Int32 × St)
  | 0, _, _ => none
  | n + 1, x1, u =>
    gd (inb 0 2001) <|
    if (ga u 3 0) ≤ x1 then
      gd (inb 0 2001) <|
      gd (inb (u.1 3) 8) <| seq (sa u 5 (u.1 3) (ga u 3 0)) fun u4 =>
      gd (inb (u4.1 3) 8) <| seq (sa u4 6 (u4.1 3) 0) fun u5 =>
      seq (ss u5 3 ((u5.1 3) + 1)) fun u6 =>
      some (((u6.1 3) - 1), u6)
    else
      gd (inb x1 2000) <|
      gd (inb ((16 * (u.1 3)) + x1) 128) <| seq (sa u 4 ((16 * (u.1 3)) + x1) (i2b (ga u 0 x1))) fun u7 =>
      seq (x1 + 1 : Int32) fun y8 =>
      (mM_SqlReaderModel_table_L31 n) y8 u7
def mM_SqlReaderModel_table (u : St) : Option (Int32 × St) :=
  bM (mM_SqlReaderModel_takesName u) fun r1 u2 =>
  if r1 = 0 then
    some ((-1), u2)
  else
    if (u2.1 3) = 8 then
      some ((-1), u2)
    else
      bP (mM_SqlReaderModel_tableOf 0 u2) fun r3 =>
      if r3 < 0 then
        mM_SqlReaderModel_table_L31 FU 0 u2
      else
        some ((-2), u2)
def mM_SqlReaderModel_isName_0_8_L28 : Nat → Int32 → Int32 → Int32 → Int32 → Int32 → St → Option (Int32)
  | 0, _, _, _, _, _, _ => none
  | n + 1, x1, x3, x4, x5, x6, u =>
    if x5 = 0 then
      gd (zb x5) <| some x5
    else
      if x4 ≤ x6 then
        gd (zb x5) <| some x5
      else
        gd (inb x1 2001) <|
        gd (inb ((ga u 2 x1) + x6) 2000) <|
        gd (inb (x3 + x6) 1024) <|
        if (ga u 0 ((ga u 2 x1) + x6)) = (ga u 7 (x3 + x6)) then
          seq (x6 + 1 : Int32) fun y2 =>
          (mM_SqlReaderModel_isName_0_8_L28 n) x1 x3 x4 1 y2 u
        else
          seq (x6 + 1 : Int32) fun y1 =>
          (mM_SqlReaderModel_isName_0_8_L28 n) x1 x3 x4 0 y1 u
def mM_SqlReaderModel_isName_0_8 (x1 : Int32) (x3 : Int32) (x4 : Int32) (u : St) : Option (Int32) :=
  gd (inb x1 2001) <|
  gd (inb x1 2001) <|
  if ((ga u 3 x1) - (ga u 2 x1)) = x4 then
    mM_SqlReaderModel_isName_0_8_L28 FU x1 x3 x4 1 0 u
  else
    mM_SqlReaderModel_isName_0_8_L28 FU x1 x3 x4 0 0 u
def mM_SqlReaderModel_columnOf_L5 : Nat → Int32 → Int32 → Int32 → Int32 → St → Option (Int32)
  | 0, _, _, _, _, _ => none
  | n + 1, x1, x2, x3, x4, u =>
    gd (inb x1 8) <|
    if (ga u 6 x1) ≤ x4 then
      some x3
    else
      gd (inb ((8 * x1) + x4) 64) <|
      bP (mM_SqlReaderModel_isName_0_8 x2 (16 * ((8 * x1) + x4)) (ga u 8 ((8 * x1) + x4)) u) fun r1 =>
      if r1 = 0 then
        seq (x4 + 1 : Int32) fun y2 =>
        (mM_SqlReaderModel_columnOf_L5 n) x1 x2 x3 y2 u
      else
        seq (x4 + 1 : Int32) fun y3 =>
        (mM_SqlReaderModel_columnOf_L5 n) x1 x2 x4 y3 u
def mM_SqlReaderModel_columnOf (x1 : Int32) (x2 : Int32) (u : St) : Option (Int32) :=
  mM_SqlReaderModel_columnOf_L5 FU x1 x2 (-1) 0 u
def mM_SqlReaderModel_column_L72 : Nat → Int32 → Int32 → Int32 → Int32 → St → Option (Int32 × St)
  | 0, _, _, _, _, _ => none
  | n + 1, x1, x2, x4, x5, u =>
    gd (inb 0 2001) <|
    if (ga u 3 0) ≤ x5 then
      gd (inb 0 2001) <|
      gd (inb x4 64) <| seq (sa u 8 x4 (ga u 3 0)) fun u5 =>
      gd (inb x4 64) <| seq (sa u5 9 x4 x2) fun u6 =>
      gd (inb x1 8) <|
      gd (inb x1 8) <| seq (sa u6 6 x1 ((ga u6 6 x1) + 1)) fun u7 =>
      gd (inb x1 8) <|
      some (((ga u7 6 x1) - 1), u7)
    else
      gd (inb x5 2000) <|
      gd (inb ((16 * x4) + x5) 1024) <| seq (sa u 7 ((16 * x4) + x5) (i2b (ga u 0 x5))) fun u8 =>
      seq (x5 + 1 : Int32) fun y9 =>
      (mM_SqlReaderModel_column_L72 n) x1 x2 x4 y9 u8
def mM_SqlReaderModel_column (x1 : Int32) (x2 : Int32) (u : St) : Option (Int32 × St) :=
  bM (mM_SqlReaderModel_takesName u) fun r1 u2 =>
  if r1 = 0 then
    some ((-1), u2)
  else
    if x1 < 0 then
      some ((-1), u2)
    else
      if (u2.1 3) ≤ x1 then
        some ((-1), u2)
      else
        gd (inb x1 8) <|
        if (ga u2 6 x1) = 8 then
          some ((-1), u2)
        else
          if x2 < 1 then
            some ((-1), u2)
          else
            if x2 ≤ 3 then
              bP (mM_SqlReaderModel_columnOf x1 0 u2) fun r3 =>
              if r3 < 0 then
                gd (inb x1 8) <|
                seq (((8 * x1) + (ga u2 6 x1)) : Int32) fun y4 =>
                mM_SqlReaderModel_column_L72 FU x1 x2 y4 0 u2
              else
                some ((-2), u2)
            else
              some ((-1), u2)
def mM_SqlReaderModel_forget_L129 : Nat → Int32 → St → Option (St)
  | 0, _, _ => none
  | n + 1, x1, u =>
    if 10 ≤ x1 then
      some u
    else
      gd (inb x1 10) <| seq (sa u 33 x1 0) fun u26 =>
      seq (x1 + 1 : Int32) fun y27 =>
      (mM_SqlReaderModel_forget_L129 n) y27 u26
def mM_SqlReaderModel_forget (u : St) : Option (St) :=
  seq (ss u 4 0) fun u1 =>
  seq (ss u1 5 0) fun u2 =>
  seq (ss u2 7 0) fun u3 =>
  seq (ss u3 8 0) fun u4 =>
  seq (ss u4 9 (-1)) fun u5 =>
  seq (ss u5 10 (-1)) fun u6 =>
  seq (ss u6 11 0) fun u7 =>
  seq (ss u7 12 (-1)) fun u8 =>
  seq (ss u8 13 0) fun u9 =>
  seq (ss u9 14 0) fun u10 =>
  seq (sL u10 0 (-1)) fun u11 =>
  seq (ss u11 15 (-1)) fun u12 =>
  seq (ss u12 16 0) fun u13 =>
  seq (ss u13 17 0) fun u14 =>
  seq (ss u14 18 0) fun u15 =>
  seq (ss u15 19 0) fun u16 =>
  seq (ss u16 20 0) fun u17 =>
  seq (ss u17 21 0) fun u18 =>
  seq (ss u18 22 0) fun u19 =>
  seq (ss u19 23 0) fun u20 =>
  seq (ss u20 24 0) fun u21 =>
  seq (ss u21 25 (-1)) fun u22 =>
  seq (ss u22 26 (-1)) fun u23 =>
  seq (ss u23 27 0) fun u24 =>
  seq (ss u24 28 0) fun u25 =>
  mM_SqlReaderModel_forget_L129 FU 0 u25
def mM_String_coder (k0 : Nat) (u : St) : Option (Int32) :=
  gd (stok k0) <|
  some 0
def mM_String_length (k0 : Nat) (u : St) : Option (Int32) :=
  gd (stok k0) <|
  gd (stok k0) <|
  gd (stok k0) <|
  bP (mM_String_coder k0 u) fun r1 =>
  some ((nI (lnK k0)) >>> (r1 &&& 31))
def mM_String_isLatin1 (k0 : Nat) (u : St) : Option (Int32) :=
  gd (stok k0) <|
  some 1
def mM_Preconditions_checkIndex (x0 : Int32) (x1 : Int32) (u : St) : Option (Int32) :=
  if x0 < 0 then
    none
  else
    if x0 < x1 then
      some x0
    else
      none
def mM_String_checkIndex (x0 : Int32) (x1 : Int32) (u : St) : Option (Unit) :=
  bP (mM_Preconditions_checkIndex x0 x1 u) fun r1 =>
  some ()
def mM_StringLatin1_charAt (k0 : Nat) (x1 : Int32) (u : St) : Option (Int32) :=
  gd (stok k0) <|
  bP (mM_String_checkIndex x1 (nI (lnK k0)) u) fun _ =>
  gd (stok k0) <| gd (inb x1 (lnK k0)) <|
  some (i2c ((byK k0 x1) &&& 255))
def mM_String_charAt (k0 : Nat) (x1 : Int32) (u : St) : Option (Int32) :=
  gd (stok k0) <|
  bP (mM_String_isLatin1 k0 u) fun r1 =>
  if r1 = 0 then
    gd (stok k0) <|
    none
  else
    gd (stok k0) <|
    bP (mM_StringLatin1_charAt k0 x1 u) fun r2 =>
    gd (cb r2) <| some r2
def mM_SqlReaderModel_is_L58 : Nat → Int32 → Nat → Int32 → Int32 → St → Option (Int32)
  | 0, _, _, _, _, _ => none
  | n + 1, x1, k2, x3, x4, u =>
    if x3 = 0 then
      gd (zb x3) <| some x3
    else
      gd (stok k2) <|
      bP (mM_String_length k2 u) fun r1 =>
      if r1 ≤ x4 then
        gd (zb x3) <| some x3
      else
        gd (inb x1 2001) <|
        gd (inb ((ga u 2 x1) + x4) 2000) <|
        gd (stok k2) <|
        bP (mM_String_charAt k2 x4 u) fun r2 =>
        if (ga u 0 ((ga u 2 x1) + x4)) = r2 then
          seq (x4 + 1 : Int32) fun y4 =>
          (mM_SqlReaderModel_is_L58 n) x1 k2 1 y4 u
        else
          seq (x4 + 1 : Int32) fun y3 =>
          (mM_SqlReaderModel_is_L58 n) x1 k2 0 y3 u
def mM_SqlReaderModel_is_J29 (x1 : Int32) (k2 : Nat) (u : St) : Option (Int32) :=
  gd (inb x1 2001) <|
  gd (inb x1 2001) <|
  gd (stok k2) <|
  bP (mM_String_length k2 u) fun r5 =>
  if ((ga u 3 x1) - (ga u 2 x1)) = r5 then
    mM_SqlReaderModel_is_L58 FU x1 k2 1 0 u
  else
    mM_SqlReaderModel_is_L58 FU x1 k2 0 0 u
def mM_SqlReaderModel_is (x1 : Int32) (k2 : Nat) (u : St) : Option (Int32) :=
  if (u.1 1) ≤ x1 then
    mM_SqlReaderModel_is_L58 FU x1 k2 0 0 u
  else
    gd (inb x1 2001) <|
    if (ga u 1 x1) = 1 then
      mM_SqlReaderModel_is_J29 x1 k2 u
    else
      gd (inb x1 2001) <|
      if (ga u 1 x1) = 6 then
        mM_SqlReaderModel_is_J29 x1 k2 u
      else
        mM_SqlReaderModel_is_L58 FU x1 k2 0 0 u
def mM_SqlReaderModel_takes (k1 : Nat) (u : St) : Option (Int32 × St) :=
  bP (mM_SqlReaderModel_is (u.1 30) k1 u) fun r1 =>
  if r1 = 0 then
    seq (ss u 30 (u.1 30)) fun u2 =>
    gd (zb r1) <| some (r1, u2)
  else
    seq (ss u 30 ((u.1 30) + 1)) fun u3 =>
    gd (zb r1) <| some (r1, u3)
def mM_SqlReaderModel_need (k1 : Nat) (u : St) : Option (St) :=
  bM (mM_SqlReaderModel_takes k1 u) fun r1 u2 =>
  if r1 = 0 then
    seq (ss u2 2 1) fun u3 =>
    some u3
  else
    if (u2.1 2) = 0 then
      seq (ss u2 2 0) fun u4 =>
      some u4
    else
      seq (ss u2 2 1) fun u5 =>
      some u5
def mM_SqlReaderModel_isKind (x1 : Int32) (x2 : Int32) (u : St) : Option (Int32) :=
  if (u.1 1) ≤ x1 then
    some 0
  else
    gd (inb x1 2001) <|
    if (ga u 1 x1) = x2 then
      some 1
    else
      some 0
def mM_SqlReaderModel_needName_J25 (s1 : Int32) (u : St) : Option (Int32 × St) :=
  gd (zb s1) <| seq (ss u 2 s1) fun u1 =>
  seq (ss u1 30 ((u1.1 30) + 1)) fun u2 =>
  some (((u2.1 30) - 1), u2)
def mM_SqlReaderModel_needName (u : St) : Option (Int32 × St) :=
  if (u.1 2) = 0 then
    bP (mM_SqlReaderModel_isKind (u.1 30) 2 u) fun r3 =>
    if r3 = 0 then
      mM_SqlReaderModel_needName_J25 1 u
    else
      mM_SqlReaderModel_needName_J25 0 u
  else
    mM_SqlReaderModel_needName_J25 1 u
def mM_SqlReaderModel_opens (x1 : Int32) (u : St) : Option (Int32) :=
  bP (mM_SqlReaderModel_is x1 79 u) fun r1 =>
  if r1 = 0 then
    bP (mM_SqlReaderModel_is x1 88 u) fun r2 =>
    if r2 = 0 then
      some 0
    else
      some (-1)
  else
    some 1
def mM_SqlReaderModel_reach_J119 (q7 : Int32 → Int32 → St → Option (Int32)) (x1 : Int32) (x2 : Int32) (s0 : Int32) (u : St) : Option (Int32) :=
  if x1 = 0 then
    if s0 = 0 then
      bP (mM_SqlReaderModel_opens x2 u) fun r6 =>
      seq ((x1 + r6) : Int32) fun y7 =>
      seq (x2 + 1 : Int32) fun y8 =>
      q7 y7 y8 u
    else
      some x2
  else
    bP (mM_SqlReaderModel_opens x2 u) fun r3 =>
    seq ((x1 + r3) : Int32) fun y4 =>
    seq (x2 + 1 : Int32) fun y5 =>
    q7 y4 y5 u
def mM_SqlReaderModel_reach_L7 : Nat → Int32 → Int32 → St → Option (Int32)
  | 0, _, _, _ => none
  | n + 1, x1, x2, u =>
    if (u.1 1) ≤ x2 then
      some (u.1 1)
    else
      bP (mM_SqlReaderModel_is x2 80 u) fun r2 =>
      if r2 = 0 then
        bP (mM_SqlReaderModel_is x2 81 u) fun r9 =>
        if r9 = 0 then
          bP (mM_SqlReaderModel_is x2 82 u) fun r10 =>
          if r10 = 0 then
            bP (mM_SqlReaderModel_is x2 83 u) fun r11 =>
            if r11 = 0 then
              bP (mM_SqlReaderModel_is x2 84 u) fun r12 =>
              if r12 = 0 then
                bP (mM_SqlReaderModel_is x2 85 u) fun r13 =>
                if r13 = 0 then
                  bP (mM_SqlReaderModel_is x2 86 u) fun r14 =>
                  if r14 = 0 then
                    bP (mM_SqlReaderModel_is x2 87 u) fun r15 =>
                    if r15 = 0 then
                      bP (mM_SqlReaderModel_is x2 88 u) fun r16 =>
                      if r16 = 0 then
                        mM_SqlReaderModel_reach_J119 (mM_SqlReaderModel_reach_L7 n) x1 x2 0 u
                      else
                        mM_SqlReaderModel_reach_J119 (mM_SqlReaderModel_reach_L7 n) x1 x2 1 u
                    else
                      mM_SqlReaderModel_reach_J119 (mM_SqlReaderModel_reach_L7 n) x1 x2 1 u
                  else
                    mM_SqlReaderModel_reach_J119 (mM_SqlReaderModel_reach_L7 n) x1 x2 1 u
                else
                  mM_SqlReaderModel_reach_J119 (mM_SqlReaderModel_reach_L7 n) x1 x2 1 u
              else
                mM_SqlReaderModel_reach_J119 (mM_SqlReaderModel_reach_L7 n) x1 x2 1 u
            else
              mM_SqlReaderModel_reach_J119 (mM_SqlReaderModel_reach_L7 n) x1 x2 1 u
          else
            mM_SqlReaderModel_reach_J119 (mM_SqlReaderModel_reach_L7 n) x1 x2 1 u
        else
          mM_SqlReaderModel_reach_J119 (mM_SqlReaderModel_reach_L7 n) x1 x2 1 u
      else
        mM_SqlReaderModel_reach_J119 (mM_SqlReaderModel_reach_L7 n) x1 x2 1 u
def mM_SqlReaderModel_reach (u : St) : Option (Int32) :=
  seq ((u.1 30) : Int32) fun y1 =>
  mM_SqlReaderModel_reach_L7 FU 0 y1 u
def mM_SqlReaderModel_note (x1 : Int32) (x2 : Int32) (x3 : Int32) (u : St) : Option (St) :=
  if 1200 ≤ (u.1 5) then
    some u
  else
    gd (inb (u.1 5) 1200) <| seq (sa u 18 (u.1 5) x1) fun u1 =>
    gd (inb (u1.1 5) 1200) <| seq (sa u1 19 (u1.1 5) x2) fun u2 =>
    gd (inb (u2.1 5) 1200) <| seq (sa u2 20 (u2.1 5) x3) fun u3 =>
    seq (ss u3 5 ((u3.1 5) + 1)) fun u4 =>
    some u4
def mM_SqlReaderModel_add_J60 (u : St) : Option (Int32 × St) :=
  seq (ss u 4 ((u.1 4) + 1)) fun u1 =>
  some (((u1.1 4) - 1), u1)
def mM_SqlReaderModel_add (x1 : Int32) (x2 : Int32) (x3 : Int32) (u : St) : Option (Int32 × St) :=
  if 200 ≤ (u.1 4) then
    mM_SqlReaderModel_add_J60 u
  else
    gd (inb (u.1 4) 200) <| seq (sa u 10 (u.1 4) x1) fun u2 =>
    gd (inb (u2.1 4) 200) <| seq (sa u2 11 (u2.1 4) x2) fun u3 =>
    gd (inb (u3.1 4) 200) <| seq (sa u3 12 (u3.1 4) x3) fun u4 =>
    gd (inb (u4.1 4) 200) <| seq (sa u4 13 (u4.1 4) 0) fun u5 =>
    bP (mM_SqlReaderModel_note 1 (u5.1 4) 0 u5) fun u6 =>
    mM_SqlReaderModel_add_J60 u6
def mM_SqlReaderModel_compares (x1 : Int32) (u : St) : Option (Int32) :=
  bP (mM_SqlReaderModel_is x1 91 u) fun r1 =>
  if r1 = 0 then
    bP (mM_SqlReaderModel_is x1 92 u) fun r2 =>
    if r2 = 0 then
      bP (mM_SqlReaderModel_is x1 93 u) fun r3 =>
      if r3 = 0 then
        bP (mM_SqlReaderModel_is x1 94 u) fun r4 =>
        if r4 = 0 then
          bP (mM_SqlReaderModel_is x1 95 u) fun r5 =>
          if r5 = 0 then
            bP (mM_SqlReaderModel_is x1 96 u) fun r6 =>
            if r6 = 0 then
              some 0
            else
              some 22
          else
            some 21
        else
          some 20
      else
        some 19
    else
      some 18
  else
    some 17
def mM_SqlReaderModel_firstComparison_J73 (q5 : Int32 → Int32 → Int32 → St → Option (Int32)) (x2 : Int32) (x3 : Int32) (x4 : Int32) (s0 : Int32) (u : St) : Option (Int32) :=
  if s0 = 0 then
    bP (mM_SqlReaderModel_opens x4 u) fun r2 =>
    seq ((x3 + r2) : Int32) fun y3 =>
    seq (x4 + 1 : Int32) fun y4 =>
    q5 x2 y3 y4 u
  else
    if x3 = 0 then
      some x4
    else
      bP (mM_SqlReaderModel_opens x4 u) fun r5 =>
      seq ((x3 + r5) : Int32) fun y6 =>
      seq (x4 + 1 : Int32) fun y7 =>
      q5 x2 y6 y7 u
def mM_SqlReaderModel_firstComparison_L5 : Nat → Int32 → Int32 → Int32 → St → Option (Int32)
  | 0, _, _, _, _ => none
  | n + 1, x2, x3, x4, u =>
    if x2 ≤ x4 then
      some x2
    else
      bP (mM_SqlReaderModel_compares x4 u) fun r1 =>
      if 0 < r1 then
        mM_SqlReaderModel_firstComparison_J73 (mM_SqlReaderModel_firstComparison_L5 n) x2 x3 x4 1 u
      else
        bP (mM_SqlReaderModel_is x4 97 u) fun r8 =>
        if r8 = 0 then
          bP (mM_SqlReaderModel_is x4 98 u) fun r9 =>
          if r9 = 0 then
            bP (mM_SqlReaderModel_is x4 99 u) fun r10 =>
            if r10 = 0 then
              bP (mM_SqlReaderModel_is x4 89 u) fun r11 =>
              if r11 = 0 then
                mM_SqlReaderModel_firstComparison_J73 (mM_SqlReaderModel_firstComparison_L5 n) x2 x3 x4 0 u
              else
                mM_SqlReaderModel_firstComparison_J73 (mM_SqlReaderModel_firstComparison_L5 n) x2 x3 x4 1 u
            else
              mM_SqlReaderModel_firstComparison_J73 (mM_SqlReaderModel_firstComparison_L5 n) x2 x3 x4 1 u
          else
            mM_SqlReaderModel_firstComparison_J73 (mM_SqlReaderModel_firstComparison_L5 n) x2 x3 x4 1 u
        else
          mM_SqlReaderModel_firstComparison_J73 (mM_SqlReaderModel_firstComparison_L5 n) x2 x3 x4 1 u
def mM_SqlReaderModel_firstComparison (x1 : Int32) (x2 : Int32) (u : St) : Option (Int32) :=
  mM_SqlReaderModel_firstComparison_L5 FU x2 0 x1 u
def mM_SqlReaderModel_find_L6 : Nat → Nat → Int32 → Int32 → Int32 → St → Option (Int32)
  | 0, _, _, _, _, _ => none
  | n + 1, k1, x3, x4, x5, u =>
    if x3 ≤ x5 then
      some x3
    else
      if x4 = 0 then
        bP (mM_SqlReaderModel_is x5 k1 u) fun r4 =>
        if r4 = 0 then
          bP (mM_SqlReaderModel_opens x5 u) fun r5 =>
          seq ((x4 + r5) : Int32) fun y6 =>
          seq (x5 + 1 : Int32) fun y7 =>
          (mM_SqlReaderModel_find_L6 n) k1 x3 y6 y7 u
        else
          some x5
      else
        bP (mM_SqlReaderModel_opens x5 u) fun r1 =>
        seq ((x4 + r1) : Int32) fun y2 =>
        seq (x5 + 1 : Int32) fun y3 =>
        (mM_SqlReaderModel_find_L6 n) k1 x3 y2 y3 u
def mM_SqlReaderModel_find (k1 : Nat) (x2 : Int32) (x3 : Int32) (u : St) : Option (Int32) :=
  mM_SqlReaderModel_find_L6 FU k1 x3 0 x2 u
def mM_SqlReaderModel_again_L230 (q62 : Int32 → Int32 → Int32 → St → Option (Int32 × St)) : Nat → Int32 → Int32 → Int32 → Int32 → Int32 → St → Option (Int32 × St)
  | 0, _, _, _, _, _, _ => none
  | n + 1, x2, x4, x5, x7, x8, u =>
    gd (inb x5 200) <|
    if (ga u 17 x5) ≤ x8 then
      seq (x5 + 1 : Int32) fun y9 =>
      q62 x2 x4 y9 u
    else
      gd (inb ((31 * x5) + x8) 6200) <|
      gd (inb ((31 * x7) + x8) 6200) <| seq (sa u 16 ((31 * x7) + x8) (i2b (ga u 16 ((31 * x5) + x8)))) fun u10 =>
      seq (x8 + 1 : Int32) fun y11 =>
      (mM_SqlReaderModel_again_L230 q62 n) x2 x4 x5 x7 y11 u10
def mM_SqlReaderModel_again_J166 (q62 : Int32 → Int32 → Int32 → St → Option (Int32 × St)) (x2 : Int32) (x4 : Int32) (x5 : Int32) (s1 : Int32) (s2 : Int32) (s3 : Int32) (u : St) : Option (Int32 × St) :=
  bM (mM_SqlReaderModel_add s1 s2 s3 u) fun r3 u4 =>
  gd (inb x5 200) <|
  gd (inb r3 200) <| seq (sa u4 14 r3 (ga u4 14 x5)) fun u5 =>
  gd (inb x5 200) <|
  gd (inb r3 200) <| seq (sa u5 15 r3 (ga u5 15 x5)) fun u6 =>
  gd (inb x5 200) <|
  gd (inb r3 200) <| seq (sl u6 0 r3 (gl u6 0 x5)) fun u7 =>
  gd (inb x5 200) <|
  gd (inb r3 200) <| seq (sa u7 17 r3 (ga u7 17 x5)) fun u8 =>
  mM_SqlReaderModel_again_L230 q62 FU x2 x4 x5 r3 0 u8
def mM_SqlReaderModel_again_J131 (q62 : Int32 → Int32 → Int32 → St → Option (Int32 × St)) (x2 : Int32) (x4 : Int32) (x5 : Int32) (x6 : Int32) (s1 : Int32) (s2 : Int32) (u : St) : Option (Int32 × St) :=
  if x6 = 0 then
    gd (inb x5 200) <|
    mM_SqlReaderModel_again_J166 q62 x2 x4 x5 s1 s2 (ga u 12 x5) u
  else
    gd (inb x5 200) <|
    if (ga u 12 x5) < 0 then
      gd (inb x5 200) <|
      mM_SqlReaderModel_again_J166 q62 x2 x4 x5 s1 s2 (ga u 12 x5) u
    else
      gd (inb x5 200) <|
      mM_SqlReaderModel_again_J166 q62 x2 x4 x5 s1 s2 ((ga u 12 x5) + x4) u
def mM_SqlReaderModel_again_J96 (q62 : Int32 → Int32 → Int32 → St → Option (Int32 × St)) (x2 : Int32) (x4 : Int32) (x5 : Int32) (s0 : Int32) (u : St) : Option (Int32 × St) :=
  gd (inb x5 200) <|
  if s0 = 0 then
    gd (inb x5 200) <|
    mM_SqlReaderModel_again_J131 q62 x2 x4 x5 s0 (ga u 10 x5) (ga u 11 x5) u
  else
    gd (inb x5 200) <|
    mM_SqlReaderModel_again_J131 q62 x2 x4 x5 s0 (ga u 10 x5) ((ga u 11 x5) + x4) u
def mM_SqlReaderModel_again_L62 : Nat → Int32 → Int32 → Int32 → St → Option (Int32 × St)
  | 0, _, _, _, _ => none
  | n + 1, x2, x4, x5, u =>
    if x2 ≤ x5 then
      some (((u.1 4) - 1), u)
    else
      gd (inb x5 200) <|
      if (ga u 10 x5) ≤ 5 then
        mM_SqlReaderModel_again_J96 (mM_SqlReaderModel_again_L62 n) x2 x4 x5 0 u
      else
        gd (inb x5 200) <|
        if 28 ≤ (ga u 10 x5) then
          mM_SqlReaderModel_again_J96 (mM_SqlReaderModel_again_L62 n) x2 x4 x5 0 u
        else
          mM_SqlReaderModel_again_J96 (mM_SqlReaderModel_again_L62 n) x2 x4 x5 1 u
def mM_SqlReaderModel_again (x1 : Int32) (x2 : Int32) (u : St) : Option (Int32 × St) :=
  seq ((x2 - x1) : Int32) fun y1 =>
  if ((u.1 4) + y1) ≤ 200 then
    seq (((u.1 4) - x1) : Int32) fun y2 =>
    mM_SqlReaderModel_again_L62 FU x2 y2 x1 u
  else
    if ((u.1 4) + y1) ≤ 100000 then
      seq (ss u 4 ((u.1 4) + y1)) fun u12 =>
      some (((u12.1 4) - 1), u12)
    else
      seq (ss u 4 100000) fun u13 =>
      some (((u13.1 4) - 1), u13)
def mM_SqlReaderModel_closing_L5 : Nat → Int32 → Int32 → Int32 → St → Option (Int32)
  | 0, _, _, _, _ => none
  | n + 1, x2, x3, x4, u =>
    if x2 ≤ x4 then
      some (-1)
    else
      bP (mM_SqlReaderModel_opens x4 u) fun r1 =>
      seq ((x3 + r1) : Int32) fun y2 =>
      if y2 = 0 then
        some x4
      else
        seq (x4 + 1 : Int32) fun y3 =>
        (mM_SqlReaderModel_closing_L5 n) x2 y2 y3 u
def mM_SqlReaderModel_closing (x1 : Int32) (x2 : Int32) (u : St) : Option (Int32) :=
  mM_SqlReaderModel_closing_L5 FU x2 0 x1 u
def mM_SqlReaderModel_gathers (x1 : Int32) (u : St) : Option (Int32) :=
  bP (mM_SqlReaderModel_is x1 102 u) fun r1 =>
  if r1 = 0 then
    bP (mM_SqlReaderModel_is x1 103 u) fun r2 =>
    if r2 = 0 then
      bP (mM_SqlReaderModel_is x1 104 u) fun r3 =>
      if r3 = 0 then
        bP (mM_SqlReaderModel_is x1 105 u) fun r4 =>
        if r4 = 0 then
          some 0
        else
          some 9
      else
        some 8
    else
      some 7
  else
    some 6
def mM_SqlReaderModel_place (x1 : Int32) (x2 : Int32) (u : St) : Option (Int32 × St) :=
  bM (mM_SqlReaderModel_add 4 (-1) (-1) u) fun r1 u2 =>
  if 200 ≤ r1 then
    some (r1, u2)
  else
    gd (inb r1 200) <| seq (sa u2 14 r1 x1) fun u3 =>
    gd (inb r1 200) <| seq (sa u3 15 r1 x2) fun u4 =>
    some (r1, u4)
def mM_SqlReaderModel_numberOf_L10 : Nat → Int32 → Int64 → Int32 → St → Option (Int64)
  | 0, _, _, _, _ => none
  | n + 1, x1, x2, x4, u =>
    gd (inb x1 2001) <|
    if (ga u 3 x1) ≤ x4 then
      some x2
    else
      gd (inb x4 2000) <|
      seq ((((10 * x2) + (Int32.toInt64 (ga u 0 x4))) - 48) : Int64) fun y2 =>
      seq (x4 + 1 : Int32) fun y3 =>
      (mM_SqlReaderModel_numberOf_L10 n) x1 y2 y3 u
def mM_SqlReaderModel_numberOf (x1 : Int32) (u : St) : Option (Int64) :=
  gd (inb x1 2001) <|
  seq ((ga u 2 x1) : Int32) fun y1 =>
  mM_SqlReaderModel_numberOf_L10 FU x1 0 y1 u
def mM_SqlReaderModel_constant_J307 (x1 : Int32) (x2 : Int32) (x4 : Int32) (u : St) : Option (Int32 × St) :=
  if x2 = 5 then
    gd (inb x1 2001) <|
    gd (inb ((ga u 2 x1) + 1) 2000) <|
    if ((ga u 0 ((ga u 2 x1) + 1)) - 48) ≤ (u.1 28) then
      seq (ss u 28 (u.1 28)) fun u7 =>
      some (x4, u7)
    else
      gd (inb x1 2001) <|
      gd (inb ((ga u 2 x1) + 1) 2000) <|
      seq (ss u 28 ((ga u 0 ((ga u 2 x1) + 1)) - 48)) fun u8 =>
      some (x4, u8)
  else
    seq (ss u 28 (u.1 28)) fun u6 =>
    some (x4, u6)
def mM_SqlReaderModel_constant_L224 : Nat → Int32 → Int32 → Int32 → Int32 → St → Option (Int32 × St)
  | 0, _, _, _, _, _ => none
  | n + 1, x1, x2, x4, x5, u =>
    if x2 = 4 then
      gd (inb x1 2001) <|
      if ((ga u 3 x1) - 1) ≤ x5 then
        mM_SqlReaderModel_constant_J307 x1 x2 x4 u
      else
        gd (inb x4 200) <|
        gd (inb x5 2000) <|
        gd (inb ((31 * x4) + (ga u 17 x4)) 6200) <| seq (sa u 16 ((31 * x4) + (ga u 17 x4)) (i2b (ga u 0 x5))) fun u12 =>
        gd (inb x4 200) <|
        gd (inb x4 200) <| seq (sa u12 17 x4 ((ga u12 17 x4) + 1)) fun u13 =>
        gd (inb x5 2000) <|
        if (ga u13 0 x5) = 39 then
          seq ((x5 + 1) : Int32) fun y15 =>
          seq (y15 + 1 : Int32) fun y16 =>
          (mM_SqlReaderModel_constant_L224 n) x1 x2 x4 y16 u13
        else
          seq (x5 + 1 : Int32) fun y14 =>
          (mM_SqlReaderModel_constant_L224 n) x1 x2 x4 y14 u13
    else
      mM_SqlReaderModel_constant_J307 x1 x2 x4 u
def mM_SqlReaderModel_constant_J205 (x1 : Int32) (x2 : Int32) (x4 : Int32) (s1 : Int32) (s2 : Int64) (u : St) : Option (Int32 × St) :=
  gd (inb s1 200) <| seq (sl u 0 s1 s2) fun u9 =>
  gd (inb x4 200) <| seq (sa u9 17 x4 0) fun u10 =>
  gd (inb x1 2001) <|
  seq (((ga u10 2 x1) + 1) : Int32) fun y11 =>
  mM_SqlReaderModel_constant_L224 FU x1 x2 x4 y11 u10
def mM_SqlReaderModel_constant_J171 (x1 : Int32) (x2 : Int32) (s1 : Int32) (s2 : Int32) (u : St) : Option (Int32 × St) :=
  bM (mM_SqlReaderModel_add s1 s2 (-1) u) fun r4 u5 =>
  if 200 ≤ r4 then
    mM_SqlReaderModel_constant_J307 x1 x2 r4 u5
  else
    if x2 = 3 then
      bP (mM_SqlReaderModel_numberOf x1 u5) fun r17 =>
      mM_SqlReaderModel_constant_J205 x1 x2 r4 r4 r17 u5
    else
      mM_SqlReaderModel_constant_J205 x1 x2 r4 r4 0 u5
def mM_SqlReaderModel_constant_J119 (x1 : Int32) (x2 : Int32) (x3 : Int32) (s1 : Int32) (u : St) : Option (Int32 × St) :=
  if x2 = 5 then
    gd (inb x1 2001) <|
    gd (inb ((ga u 2 x1) + 1) 2000) <|
    mM_SqlReaderModel_constant_J171 x1 x2 s1 ((ga u 0 ((ga u 2 x1) + 1)) - 48) u
  else
    if x3 = 0 then
      if x3 = 0 then
        mM_SqlReaderModel_constant_J171 x1 x2 s1 (-1) u
      else
        mM_SqlReaderModel_constant_J171 x1 x2 s1 0 u
    else
      bP (mM_SqlReaderModel_is x1 108 u) fun r18 =>
      if r18 = 0 then
        if x3 = 0 then
          mM_SqlReaderModel_constant_J171 x1 x2 s1 (-1) u
        else
          mM_SqlReaderModel_constant_J171 x1 x2 s1 0 u
      else
        mM_SqlReaderModel_constant_J171 x1 x2 s1 1 u
def mM_SqlReaderModel_constant_J78 (x1 : Int32) (x2 : Int32) (x3 : Int32) (s1 : Int32) (u : St) : Option (Int32 × St) :=
  gd (zb s1) <| seq (ss u 2 s1) fun u3 =>
  if x2 = 3 then
    mM_SqlReaderModel_constant_J119 x1 x2 x3 1 u3
  else
    if x2 = 4 then
      mM_SqlReaderModel_constant_J119 x1 x2 x3 2 u3
    else
      if x2 = 5 then
        mM_SqlReaderModel_constant_J119 x1 x2 x3 28 u3
      else
        if x3 = 0 then
          mM_SqlReaderModel_constant_J119 x1 x2 x3 0 u3
        else
          mM_SqlReaderModel_constant_J119 x1 x2 x3 3 u3
def mM_SqlReaderModel_constant_J34 (x1 : Int32) (x2 : Int32) (s0 : Int32) (u : St) : Option (Int32 × St) :=
  if (u.1 2) = 0 then
    if x2 = 3 then
      mM_SqlReaderModel_constant_J78 x1 x2 s0 0 u
    else
      if x2 = 4 then
        mM_SqlReaderModel_constant_J78 x1 x2 s0 0 u
      else
        if x2 = 5 then
          mM_SqlReaderModel_constant_J78 x1 x2 s0 0 u
        else
          if s0 = 0 then
            bP (mM_SqlReaderModel_is x1 100 u) fun r19 =>
            if r19 = 0 then
              mM_SqlReaderModel_constant_J78 x1 x2 s0 1 u
            else
              mM_SqlReaderModel_constant_J78 x1 x2 s0 0 u
          else
            mM_SqlReaderModel_constant_J78 x1 x2 s0 0 u
  else
    mM_SqlReaderModel_constant_J78 x1 x2 s0 1 u
def mM_SqlReaderModel_constant (x1 : Int32) (u : St) : Option (Int32 × St) :=
  gd (inb x1 2001) <|
  seq ((ga u 1 x1) : Int32) fun y1 =>
  bP (mM_SqlReaderModel_is x1 108 u) fun r2 =>
  if r2 = 0 then
    bP (mM_SqlReaderModel_is x1 109 u) fun r20 =>
    if r20 = 0 then
      mM_SqlReaderModel_constant_J34 x1 y1 0 u
    else
      mM_SqlReaderModel_constant_J34 x1 y1 1 u
  else
    mM_SqlReaderModel_constant_J34 x1 y1 1 u
def mM_SqlReaderModel_endsOperand_J18 (x1 : Int32) (u : St) : Option (Int32) :=
  bP (mM_SqlReaderModel_is x1 88 u) fun r2 =>
  if r2 = 0 then
    bP (mM_SqlReaderModel_is x1 108 u) fun r3 =>
    if r3 = 0 then
      bP (mM_SqlReaderModel_is x1 109 u) fun r4 =>
      if r4 = 0 then
        bP (mM_SqlReaderModel_is x1 100 u) fun r5 =>
        if r5 = 0 then
          some 0
        else
          some 1
      else
        some 1
    else
      some 1
  else
    some 1
def mM_SqlReaderModel_endsOperand (x1 : Int32) (u : St) : Option (Int32) :=
  gd (inb x1 2001) <|
  seq ((ga u 1 x1) : Int32) fun y1 =>
  if y1 ≤ 1 then
    mM_SqlReaderModel_endsOperand_J18 x1 u
  else
    if y1 < 6 then
      some 1
    else
      mM_SqlReaderModel_endsOperand_J18 x1 u
def mM_SqlReaderModel_joins (x1 : Int32) (x2 : Int32) (x3 : Int32) (u : St) : Option (Int32) :=
  if x1 = 0 then
    bP (mM_SqlReaderModel_is x2 110 u) fun r8 =>
    if r8 = 0 then
      some 0
    else
      some 27
  else
    if x1 = 1 then
      bP (mM_SqlReaderModel_is x2 101 u) fun r7 =>
      if r7 = 0 then
        some 0
      else
        some 26
    else
      if x1 = 4 then
        bP (mM_SqlReaderModel_is x2 111 u) fun r6 =>
        if r6 = 0 then
          some 0
        else
          some 16
      else
        if x1 = 5 then
          if x3 = 0 then
            some 0
          else
            bP (mM_SqlReaderModel_is x2 112 u) fun r4 =>
            if r4 = 0 then
              bP (mM_SqlReaderModel_is x2 90 u) fun r5 =>
              if r5 = 0 then
                some 0
              else
                some 12
            else
              some 11
        else
          bP (mM_SqlReaderModel_is x2 106 u) fun r1 =>
          if r1 = 0 then
            bP (mM_SqlReaderModel_is x2 113 u) fun r2 =>
            if r2 = 0 then
              bP (mM_SqlReaderModel_is x2 114 u) fun r3 =>
              if r3 = 0 then
                some 0
              else
                some 15
            else
              some 14
          else
            some 13
def rmGM (n : Nat) : Room := { frames := n + 7, cells := 0, slots := 0, locals := 35 * n + 155 }
def mM_SqlReaderModel_chain_J205 (rc : Nat → Int32 → Int32 → Int32 → Int32 → Int32 → Int32 → St → Option (Int32 × St)) (q32 : Int32 → Int32 → Int32 → Int32 → Int32 → Int32 → Int32 → Int32 → Int32 → Int32 → St → Option (Int32 × St)) (x1 : Int32) (x3 : Int32) (x4 : Int32) (x5 : Int32) (x6 : Int32) (x7 : Int32) (x8 : Int32) (x9 : Int32) (x10 : Int32) (x11 : Int32) (u : St) : Option (Int32 × St) :=
  if x3 ≤ x11 then
    seq (x11 + 1 : Int32) fun y7 =>
    q32 x1 x3 x4 x5 x6 x7 x8 x9 x10 y7 u
  else
    bP (mM_SqlReaderModel_opens x11 u) fun r8 =>
    seq ((x8 + r8) : Int32) fun y9 =>
    seq (x11 + 1 : Int32) fun y10 =>
    q32 x1 x3 x4 x5 x6 x7 y9 x9 x10 y10 u
def mM_SqlReaderModel_chain_J159 (rc : Nat → Int32 → Int32 → Int32 → Int32 → Int32 → Int32 → St → Option (Int32 × St)) (q32 : Int32 → Int32 → Int32 → Int32 → Int32 → Int32 → Int32 → Int32 → Int32 → Int32 → St → Option (Int32 × St)) (x1 : Int32) (x3 : Int32) (x4 : Int32) (x5 : Int32) (x6 : Int32) (x7 : Int32) (x8 : Int32) (x9 : Int32) (x10 : Int32) (x11 : Int32) (x13 : Int32) (u : St) : Option (Int32 × St) :=
  bM (rc 5 x10 x7 x11 x4 0 0 u) fun r2 u3 =>
  if 0 ≤ x5 then
    bM (mM_SqlReaderModel_add x6 x5 r2 u3) fun r4 u5 =>
    seq ((x11 + 1) : Int32) fun y6 =>
    mM_SqlReaderModel_chain_J205 rc q32 x1 x3 x4 r4 x13 y6 x8 x9 x10 x11 u5
  else
    seq ((x11 + 1) : Int32) fun y11 =>
    mM_SqlReaderModel_chain_J205 rc q32 x1 x3 x4 r2 x13 y11 x8 x9 x10 x11 u3
def mM_SqlReaderModel_chain_J148 (rc : Nat → Int32 → Int32 → Int32 → Int32 → Int32 → Int32 → St → Option (Int32 × St)) (q32 : Int32 → Int32 → Int32 → Int32 → Int32 → Int32 → Int32 → Int32 → Int32 → Int32 → St → Option (Int32 × St)) (x1 : Int32) (x3 : Int32) (x4 : Int32) (x5 : Int32) (x6 : Int32) (x7 : Int32) (x8 : Int32) (x9 : Int32) (x10 : Int32) (x11 : Int32) (x13 : Int32) (u : St) : Option (Int32 × St) :=
  if 0 < x13 then
    mM_SqlReaderModel_chain_J159 rc q32 x1 x3 x4 x5 x6 x7 x8 x9 x10 x11 x13 u
  else
    if x11 = x3 then
      mM_SqlReaderModel_chain_J159 rc q32 x1 x3 x4 x5 x6 x7 x8 x9 x10 x11 x13 u
    else
      mM_SqlReaderModel_chain_J205 rc q32 x1 x3 x4 x5 x6 x7 x8 x9 x10 x11 u
def mM_SqlReaderModel_chain_J128 (rc : Nat → Int32 → Int32 → Int32 → Int32 → Int32 → Int32 → St → Option (Int32 × St)) (q32 : Int32 → Int32 → Int32 → Int32 → Int32 → Int32 → Int32 → Int32 → Int32 → Int32 → St → Option (Int32 × St)) (x1 : Int32) (x3 : Int32) (x4 : Int32) (x5 : Int32) (x6 : Int32) (x7 : Int32) (x8 : Int32) (x10 : Int32) (x11 : Int32) (x13 : Int32) (s0 : Int32) (u : St) : Option (Int32 × St) :=
  if x13 = 26 then
    if s0 ≤ 0 then
      mM_SqlReaderModel_chain_J148 rc q32 x1 x3 x4 x5 x6 x7 x8 s0 x10 x11 x13 u
    else
      seq (s0 + (-1) : Int32) fun y12 =>
      mM_SqlReaderModel_chain_J148 rc q32 x1 x3 x4 x5 x6 x7 x8 y12 x10 x11 0 u
  else
    mM_SqlReaderModel_chain_J148 rc q32 x1 x3 x4 x5 x6 x7 x8 s0 x10 x11 x13 u
def mM_SqlReaderModel_chain_J95 (rc : Nat → Int32 → Int32 → Int32 → Int32 → Int32 → Int32 → St → Option (Int32 × St)) (q32 : Int32 → Int32 → Int32 → Int32 → Int32 → Int32 → Int32 → Int32 → Int32 → Int32 → St → Option (Int32 × St)) (x1 : Int32) (x3 : Int32) (x4 : Int32) (x5 : Int32) (x6 : Int32) (x7 : Int32) (x8 : Int32) (x9 : Int32) (x10 : Int32) (x11 : Int32) (x12 : Int32) (s0 : Int32) (u : St) : Option (Int32 × St) :=
  if x12 = 0 then
    mM_SqlReaderModel_chain_J128 rc q32 x1 x3 x4 x5 x6 x7 x8 x10 x11 s0 x9 u
  else
    if x1 = 1 then
      bP (mM_SqlReaderModel_is x11 98 u) fun r13 =>
      if r13 = 0 then
        mM_SqlReaderModel_chain_J128 rc q32 x1 x3 x4 x5 x6 x7 x8 x10 x11 s0 x9 u
      else
        mM_SqlReaderModel_chain_J128 rc q32 x1 x3 x4 x5 x6 x7 x8 x10 x11 s0 (x9 + 1) u
    else
      mM_SqlReaderModel_chain_J128 rc q32 x1 x3 x4 x5 x6 x7 x8 x10 x11 s0 x9 u
def mM_SqlReaderModel_chain_J54 (rc : Nat → Int32 → Int32 → Int32 → Int32 → Int32 → Int32 → St → Option (Int32 × St)) (q32 : Int32 → Int32 → Int32 → Int32 → Int32 → Int32 → Int32 → Int32 → Int32 → Int32 → St → Option (Int32 × St)) (x1 : Int32) (x3 : Int32) (x4 : Int32) (x5 : Int32) (x6 : Int32) (x7 : Int32) (x8 : Int32) (x9 : Int32) (x10 : Int32) (x11 : Int32) (s0 : Int32) (u : St) : Option (Int32 × St) :=
  if s0 = 0 then
    mM_SqlReaderModel_chain_J95 rc q32 x1 x3 x4 x5 x6 x7 x8 x9 x10 x11 s0 0 u
  else
    if x11 ≤ x7 then
      bP (mM_SqlReaderModel_joins x1 x11 0 u) fun r14 =>
      mM_SqlReaderModel_chain_J95 rc q32 x1 x3 x4 x5 x6 x7 x8 x9 x10 x11 s0 r14 u
    else
      bP (mM_SqlReaderModel_endsOperand (x11 - 1) u) fun r15 =>
      if r15 = 0 then
        bP (mM_SqlReaderModel_joins x1 x11 0 u) fun r16 =>
        mM_SqlReaderModel_chain_J95 rc q32 x1 x3 x4 x5 x6 x7 x8 x9 x10 x11 s0 r16 u
      else
        bP (mM_SqlReaderModel_joins x1 x11 1 u) fun r17 =>
        mM_SqlReaderModel_chain_J95 rc q32 x1 x3 x4 x5 x6 x7 x8 x9 x10 x11 s0 r17 u
def mM_SqlReaderModel_chain_L32 (rc : Nat → Int32 → Int32 → Int32 → Int32 → Int32 → Int32 → St → Option (Int32 × St)) : Nat → Int32 → Int32 → Int32 → Int32 → Int32 → Int32 → Int32 → Int32 → Int32 → Int32 → St → Option (Int32 × St)
  | 0, _, _, _, _, _, _, _, _, _, _, _ => none
  | n + 1, x1, x3, x4, x5, x6, x7, x8, x9, x10, x11, u =>
    if x3 < x11 then
      some (x5, u)
    else
      if x3 ≤ x11 then
        mM_SqlReaderModel_chain_J54 rc (mM_SqlReaderModel_chain_L32 rc n) x1 x3 x4 x5 x6 x7 x8 x9 x10 x11 0 u
      else
        if x8 = 0 then
          mM_SqlReaderModel_chain_J54 rc (mM_SqlReaderModel_chain_L32 rc n) x1 x3 x4 x5 x6 x7 x8 x9 x10 x11 1 u
        else
          mM_SqlReaderModel_chain_J54 rc (mM_SqlReaderModel_chain_L32 rc n) x1 x3 x4 x5 x6 x7 x8 x9 x10 x11 0 u
def mM_SqlReaderModel_chain_o (rc : Nat → Int32 → Int32 → Int32 → Int32 → Int32 → Int32 → St → Option (Int32 × St)) (x1 : Int32) (x2 : Int32) (x3 : Int32) (x4 : Int32) (u : St) : Option (Int32 × St) :=
  if x1 = 1 then
    mM_SqlReaderModel_chain_L32 rc FU x1 x3 x4 (-1) 0 x2 0 0 2 x2 u
  else
    seq ((x1 + 1) : Int32) fun y1 =>
    mM_SqlReaderModel_chain_L32 rc FU x1 x3 x4 (-1) 0 x2 0 0 y1 x2 u
def mM_SqlReaderModel_primary_J304 (rc : Nat → Int32 → Int32 → Int32 → Int32 → Int32 → Int32 → St → Option (Int32 × St)) (x1 : Int32) (x5 : Int32) (s1 : Int32) (u : St) : Option (Int32 × St) :=
  if x5 = 0 then
    bM (mM_SqlReaderModel_place s1 x1 u) fun r14 u15 =>
    some (r14, u15)
  else
    bM (mM_SqlReaderModel_place s1 (x1 + 2) u) fun r16 u17 =>
    some (r16, u17)
def mM_SqlReaderModel_primary_J290 (rc : Nat → Int32 → Int32 → Int32 → Int32 → Int32 → Int32 → St → Option (Int32 × St)) (x1 : Int32) (x5 : Int32) (s1 : Int32) (u : St) : Option (Int32 × St) :=
  gd (zb s1) <| seq (ss u 2 s1) fun u13 =>
  if x5 = 0 then
    mM_SqlReaderModel_primary_J304 rc x1 x5 (-1) u13
  else
    mM_SqlReaderModel_primary_J304 rc x1 x5 x1 u13
def mM_SqlReaderModel_primary_J263 (rc : Nat → Int32 → Int32 → Int32 → Int32 → Int32 → Int32 → St → Option (Int32 × St)) (x1 : Int32) (x2 : Int32) (s0 : Int32) (u : St) : Option (Int32 × St) :=
  if (u.1 2) = 0 then
    if s0 = 0 then
      if x2 = (x1 + 1) then
        mM_SqlReaderModel_primary_J290 rc x1 s0 0 u
      else
        mM_SqlReaderModel_primary_J290 rc x1 s0 1 u
    else
      mM_SqlReaderModel_primary_J290 rc x1 s0 0 u
  else
    mM_SqlReaderModel_primary_J290 rc x1 s0 1 u
def mM_SqlReaderModel_primary_J200 (rc : Nat → Int32 → Int32 → Int32 → Int32 → Int32 → Int32 → St → Option (Int32 × St)) (x1 : Int32) (x2 : Int32) (x3 : Int32) (s1 : Int32) (u : St) : Option (Int32 × St) :=
  gd (zb s1) <| seq (ss u 2 s1) fun u20 =>
  bM (rc 5 0 (x1 + 1) (x2 - 1) (x3 + 1) 0 0 u20) fun r21 u22 =>
  some (r21, u22)
def mM_SqlReaderModel_primary_J119 (rc : Nat → Int32 → Int32 → Int32 → Int32 → Int32 → Int32 → St → Option (Int32 × St)) (x1 : Int32) (x2 : Int32) (x3 : Int32) (x4 : Int32) (x5 : Int32) (s1 : Int32) (u : St) : Option (Int32 × St) :=
  gd (zb s1) <| seq (ss u 2 s1) fun u24 =>
  if x5 = 0 then
    if (u24.1 2) = 0 then
      bM (rc 5 0 (x1 + 2) (x2 - 1) (x3 + 1) 0 0 u24) fun r27 u28 =>
      bM (mM_SqlReaderModel_add x4 r27 (-1) u28) fun r29 u30 =>
      some (r29, u30)
    else
      bM (mM_SqlReaderModel_add 5 (-1) (-1) u24) fun r31 u32 =>
      some (r31, u32)
  else
    bM (mM_SqlReaderModel_add 5 (-1) (-1) u24) fun r25 u26 =>
    some (r25, u26)
def mM_SqlReaderModel_primary_J70 (rc : Nat → Int32 → Int32 → Int32 → Int32 → Int32 → Int32 → St → Option (Int32 × St)) (x1 : Int32) (x2 : Int32) (x3 : Int32) (x4 : Int32) (s0 : Int32) (u : St) : Option (Int32 × St) :=
  if (u.1 2) = 0 then
    if (u.1 29) = 0 then
      mM_SqlReaderModel_primary_J119 rc x1 x2 x3 x4 s0 1 u
    else
      bP (mM_SqlReaderModel_is (x1 + 1) 79 u) fun r33 =>
      if r33 = 0 then
        mM_SqlReaderModel_primary_J119 rc x1 x2 x3 x4 s0 1 u
      else
        bP (mM_SqlReaderModel_closing (x1 + 1) x2 u) fun r34 =>
        if r34 = (x2 - 1) then
          mM_SqlReaderModel_primary_J119 rc x1 x2 x3 x4 s0 0 u
        else
          mM_SqlReaderModel_primary_J119 rc x1 x2 x3 x4 s0 1 u
  else
    mM_SqlReaderModel_primary_J119 rc x1 x2 x3 x4 s0 1 u
def mM_SqlReaderModel_primary_o (rc : Nat → Int32 → Int32 → Int32 → Int32 → Int32 → Int32 → St → Option (Int32 × St)) (x1 : Int32) (x2 : Int32) (x3 : Int32) (u : St) : Option (Int32 × St) :=
  bP (mM_SqlReaderModel_gathers x1 u) fun r1 =>
  if r1 ≤ 0 then
    bP (mM_SqlReaderModel_is x1 79 u) fun r2 =>
    if r2 = 0 then
      bP (mM_SqlReaderModel_isKind x1 2 u) fun r3 =>
      if r3 = 0 then
        if (u.1 2) = 0 then
          if x2 = (x1 + 1) then
            seq (ss u 2 0) fun u7 =>
            bM (mM_SqlReaderModel_constant x1 u7) fun r8 u9 =>
            some (r8, u9)
          else
            seq (ss u 2 1) fun u10 =>
            bM (mM_SqlReaderModel_constant x1 u10) fun r11 u12 =>
            some (r11, u12)
        else
          seq (ss u 2 1) fun u4 =>
          bM (mM_SqlReaderModel_constant x1 u4) fun r5 u6 =>
          some (r5, u6)
      else
        if x2 = (x1 + 3) then
          bP (mM_SqlReaderModel_is (x1 + 1) 107 u) fun r18 =>
          if r18 = 0 then
            mM_SqlReaderModel_primary_J263 rc x1 x2 0 u
          else
            bP (mM_SqlReaderModel_isKind (x1 + 2) 2 u) fun r19 =>
            if r19 = 0 then
              mM_SqlReaderModel_primary_J263 rc x1 x2 0 u
            else
              mM_SqlReaderModel_primary_J263 rc x1 x2 1 u
        else
          mM_SqlReaderModel_primary_J263 rc x1 x2 0 u
    else
      if (u.1 2) = 0 then
        bP (mM_SqlReaderModel_closing x1 x2 u) fun r23 =>
        if r23 = (x2 - 1) then
          mM_SqlReaderModel_primary_J200 rc x1 x2 x3 0 u
        else
          mM_SqlReaderModel_primary_J200 rc x1 x2 x3 1 u
      else
        mM_SqlReaderModel_primary_J200 rc x1 x2 x3 1 u
  else
    if r1 = 6 then
      if x2 = (x1 + 4) then
        bP (mM_SqlReaderModel_is (x1 + 1) 79 u) fun r35 =>
        if r35 = 0 then
          mM_SqlReaderModel_primary_J70 rc x1 x2 x3 r1 0 u
        else
          bP (mM_SqlReaderModel_is (x1 + 2) 106 u) fun r36 =>
          if r36 = 0 then
            mM_SqlReaderModel_primary_J70 rc x1 x2 x3 r1 0 u
          else
            bP (mM_SqlReaderModel_is (x1 + 3) 88 u) fun r37 =>
            if r37 = 0 then
              mM_SqlReaderModel_primary_J70 rc x1 x2 x3 r1 0 u
            else
              mM_SqlReaderModel_primary_J70 rc x1 x2 x3 r1 1 u
      else
        mM_SqlReaderModel_primary_J70 rc x1 x2 x3 r1 0 u
    else
      mM_SqlReaderModel_primary_J70 rc x1 x2 x3 r1 0 u
def mM_SqlReaderModel_in_J149 (rc : Nat → Int32 → Int32 → Int32 → Int32 → Int32 → Int32 → St → Option (Int32 × St)) (q61 : Int32 → Int32 → Int32 → Int32 → Int32 → Int32 → Int32 → Int32 → St → Option (Int32 × St)) (x2 : Int32) (x3 : Int32) (x4 : Int32) (x5 : Int32) (x6 : Int32) (x10 : Int32) (s0 : Int32) (u : St) : Option (Int32 × St) :=
  if (x2 - 1) ≤ x10 then
    seq ((x10 + 1) : Int32) fun y12 =>
    q61 x2 x3 x4 x5 x6 s0 y12 0 u
  else
    seq ((x10 + 1) : Int32) fun y13 =>
    q61 x2 x3 x4 x5 x6 s0 y13 1 u
def mM_SqlReaderModel_in_J105 (rc : Nat → Int32 → Int32 → Int32 → Int32 → Int32 → Int32 → St → Option (Int32 × St)) (q61 : Int32 → Int32 → Int32 → Int32 → Int32 → Int32 → Int32 → Int32 → St → Option (Int32 × St)) (x2 : Int32) (x3 : Int32) (x4 : Int32) (x5 : Int32) (x6 : Int32) (x7 : Int32) (x8 : Int32) (x10 : Int32) (s0 : Int32) (u : St) : Option (Int32 × St) :=
  bM (rc 5 0 x8 x10 (x3 + 1) 0 0 u) fun r6 u7 =>
  bM (mM_SqlReaderModel_add 17 s0 r6 u7) fun r8 u9 =>
  if 0 ≤ x7 then
    bM (mM_SqlReaderModel_add 27 x7 r8 u9) fun r10 u11 =>
    mM_SqlReaderModel_in_J149 rc q61 x2 x3 x4 x5 x6 x10 r10 u11
  else
    mM_SqlReaderModel_in_J149 rc q61 x2 x3 x4 x5 x6 x10 r8 u9
def mM_SqlReaderModel_in_L61 (rc : Nat → Int32 → Int32 → Int32 → Int32 → Int32 → Int32 → St → Option (Int32 × St)) : Nat → Int32 → Int32 → Int32 → Int32 → Int32 → Int32 → Int32 → Int32 → St → Option (Int32 × St)
  | 0, _, _, _, _, _, _, _, _, _ => none
  | n + 1, x2, x3, x4, x5, x6, x7, x8, x9, u =>
    if x9 = 0 then
      if 0 ≤ x7 then
        some (x7, u)
      else
        some (0, u)
    else
      if (u.1 2) = 0 then
        bP (mM_SqlReaderModel_find 80 x8 (x2 - 1) u) fun r3 =>
        if 0 ≤ x7 then
          bM (mM_SqlReaderModel_again x5 x6 u) fun r4 u5 =>
          mM_SqlReaderModel_in_J105 rc (mM_SqlReaderModel_in_L61 rc n) x2 x3 x4 x5 x6 x7 x8 r3 r4 u5
        else
          mM_SqlReaderModel_in_J105 rc (mM_SqlReaderModel_in_L61 rc n) x2 x3 x4 x5 x6 x7 x8 r3 x4 u
      else
        if 0 ≤ x7 then
          some (x7, u)
        else
          some (0, u)
def mM_SqlReaderModel_in_J36 (rc : Nat → Int32 → Int32 → Int32 → Int32 → Int32 → Int32 → St → Option (Int32 × St)) (x1 : Int32) (x2 : Int32) (x3 : Int32) (x4 : Int32) (x5 : Int32) (x6 : Int32) (s1 : Int32) (u : St) : Option (Int32 × St) :=
  gd (zb s1) <| seq (ss u 2 s1) fun u1 =>
  seq ((x1 + 1) : Int32) fun y2 =>
  if (u1.1 2) = 0 then
    mM_SqlReaderModel_in_L61 rc FU x2 x3 x4 x5 x6 (-1) y2 1 u1
  else
    mM_SqlReaderModel_in_L61 rc FU x2 x3 x4 x5 x6 (-1) y2 0 u1
def mM_SqlReaderModel_in_o (rc : Nat → Int32 → Int32 → Int32 → Int32 → Int32 → Int32 → St → Option (Int32 × St)) (x1 : Int32) (x2 : Int32) (x3 : Int32) (x4 : Int32) (x5 : Int32) (x6 : Int32) (u : St) : Option (Int32 × St) :=
  if (u.1 2) = 0 then
    bP (mM_SqlReaderModel_is x1 79 u) fun r14 =>
    if r14 = 0 then
      mM_SqlReaderModel_in_J36 rc x1 x2 x3 x4 x5 x6 1 u
    else
      bP (mM_SqlReaderModel_closing x1 x2 u) fun r15 =>
      if r15 = (x2 - 1) then
        mM_SqlReaderModel_in_J36 rc x1 x2 x3 x4 x5 x6 0 u
      else
        mM_SqlReaderModel_in_J36 rc x1 x2 x3 x4 x5 x6 1 u
  else
    mM_SqlReaderModel_in_J36 rc x1 x2 x3 x4 x5 x6 1 u
def mM_SqlReaderModel_comparison_J352 (rc : Nat → Int32 → Int32 → Int32 → Int32 → Int32 → Int32 → St → Option (Int32 × St)) (x9 : Int32) (x11 : Int32) (u : St) : Option (Int32 × St) :=
  if x9 = 0 then
    some (x11, u)
  else
    bM (mM_SqlReaderModel_add 25 x11 (-1) u) fun r10 u11 =>
    some (r10, u11)
def mM_SqlReaderModel_comparison_J308 (rc : Nat → Int32 → Int32 → Int32 → Int32 → Int32 → Int32 → St → Option (Int32 × St)) (x2 : Int32) (x3 : Int32) (x5 : Int32) (x6 : Int32) (x7 : Int32) (x9 : Int32) (x10 : Int32) (x11 : Int32) (u : St) : Option (Int32 × St) :=
  if x2 ≤ x10 then
    seq (ss u 2 1) fun u9 =>
    mM_SqlReaderModel_comparison_J352 rc x9 x11 u9
  else
    bP (mM_SqlReaderModel_is x10 99 u) fun r12 =>
    if r12 = 0 then
      seq (ss u 2 1) fun u13 =>
      mM_SqlReaderModel_comparison_J352 rc x9 x11 u13
    else
      bM (rc 2 (x10 + 1) x2 x3 x6 x5 x7 u) fun r14 u15 =>
      mM_SqlReaderModel_comparison_J352 rc x9 r14 u15
def mM_SqlReaderModel_comparison_J203 (rc : Nat → Int32 → Int32 → Int32 → Int32 → Int32 → Int32 → St → Option (Int32 × St)) (x2 : Int32) (x3 : Int32) (x5 : Int32) (x6 : Int32) (x7 : Int32) (x9 : Int32) (s0 : Int32) (u : St) : Option (Int32 × St) :=
  if x2 ≤ s0 then
    mM_SqlReaderModel_comparison_J308 rc x2 x3 x5 x6 x7 x9 s0 0 u
  else
    bP (mM_SqlReaderModel_is s0 98 u) fun r16 =>
    if r16 = 0 then
      mM_SqlReaderModel_comparison_J308 rc x2 x3 x5 x6 x7 x9 s0 0 u
    else
      bP (mM_SqlReaderModel_find 101 (s0 + 1) x2 u) fun r17 =>
      bM (rc 5 4 (s0 + 1) r17 x3 0 0 u) fun r18 u19 =>
      bM (mM_SqlReaderModel_add 22 x6 r18 u19) fun r20 u21 =>
      bM (mM_SqlReaderModel_again x5 x7 u21) fun r22 u23 =>
      bM (rc 5 4 (r17 + 1) x2 x3 0 0 u23) fun r24 u25 =>
      bM (mM_SqlReaderModel_add 20 r22 r24 u25) fun r26 u27 =>
      bM (mM_SqlReaderModel_add 26 r20 r26 u27) fun r28 u29 =>
      mM_SqlReaderModel_comparison_J352 rc x9 r28 u29
def mM_SqlReaderModel_comparison_J155 (rc : Nat → Int32 → Int32 → Int32 → Int32 → Int32 → Int32 → St → Option (Int32 × St)) (x6 : Int32) (x9 : Int32) (s1 : Int32) (u : St) : Option (Int32 × St) :=
  gd (zb s1) <| seq (ss u 2 s1) fun u31 =>
  if x9 = 0 then
    bM (mM_SqlReaderModel_add 23 x6 (-1) u31) fun r32 u33 =>
    some (r32, u33)
  else
    bM (mM_SqlReaderModel_add 24 x6 (-1) u31) fun r34 u35 =>
    some (r34, u35)
def mM_SqlReaderModel_comparison_J120 (rc : Nat → Int32 → Int32 → Int32 → Int32 → Int32 → Int32 → St → Option (Int32 × St)) (x2 : Int32) (x6 : Int32) (x9 : Int32) (s0 : Int32) (u : St) : Option (Int32 × St) :=
  if (u.1 2) = 0 then
    if s0 = (x2 - 1) then
      bP (mM_SqlReaderModel_is s0 100 u) fun r36 =>
      if r36 = 0 then
        mM_SqlReaderModel_comparison_J155 rc x6 x9 1 u
      else
        mM_SqlReaderModel_comparison_J155 rc x6 x9 0 u
    else
      mM_SqlReaderModel_comparison_J155 rc x6 x9 1 u
  else
    mM_SqlReaderModel_comparison_J155 rc x6 x9 1 u
def mM_SqlReaderModel_comparison_o (rc : Nat → Int32 → Int32 → Int32 → Int32 → Int32 → Int32 → St → Option (Int32 × St)) (x1 : Int32) (x2 : Int32) (x3 : Int32) (u : St) : Option (Int32 × St) :=
  bP (mM_SqlReaderModel_firstComparison x1 x2 u) fun r1 =>
  if r1 = x2 then
    bM (rc 5 4 x1 x2 x3 0 0 u) fun r41 u42 =>
    some (r41, u42)
  else
    seq ((u.1 4) : Int32) fun y2 =>
    bM (rc 5 4 x1 r1 x3 0 0 u) fun r3 u4 =>
    seq ((u4.1 4) : Int32) fun y5 =>
    bP (mM_SqlReaderModel_compares r1 u4) fun r6 =>
    if r6 ≤ 0 then
      bP (mM_SqlReaderModel_is r1 97 u4) fun r7 =>
      if r7 = 0 then
        bP (mM_SqlReaderModel_is r1 89 u4) fun r8 =>
        if r8 = 0 then
          mM_SqlReaderModel_comparison_J203 rc x2 x3 y2 r3 y5 r8 r1 u4
        else
          mM_SqlReaderModel_comparison_J203 rc x2 x3 y2 r3 y5 r8 (r1 + 1) u4
      else
        bP (mM_SqlReaderModel_is (r1 + 1) 89 u4) fun r30 =>
        if r30 = 0 then
          mM_SqlReaderModel_comparison_J120 rc x2 r3 r30 (r1 + 1) u4
        else
          mM_SqlReaderModel_comparison_J120 rc x2 r3 r30 (r1 + 2) u4
    else
      bM (rc 5 4 (r1 + 1) x2 x3 0 0 u4) fun r37 u38 =>
      bM (mM_SqlReaderModel_add r6 r3 r37 u38) fun r39 u40 =>
      some (r39, u40)
def mM_SqlReaderModel_prefixed_L64 (rc : Nat → Int32 → Int32 → Int32 → Int32 → Int32 → Int32 → St → Option (Int32 × St)) : Nat → Int32 → Int32 → Int32 → Int32 → St → Option (Int32 × St)
  | 0, _, _, _, _, _ => none
  | n + 1, x1, x5, x6, x7, u =>
    if x5 ≤ x7 then
      some (x6, u)
    else
      if x1 = 2 then
        bM (mM_SqlReaderModel_add 25 x6 (-1) u) fun r6 u7 =>
        seq (x7 + 1 : Int32) fun y8 =>
        (mM_SqlReaderModel_prefixed_L64 rc n) x1 x5 r6 y8 u7
      else
        bM (mM_SqlReaderModel_add 10 x6 (-1) u) fun r3 u4 =>
        seq (x7 + 1 : Int32) fun y5 =>
        (mM_SqlReaderModel_prefixed_L64 rc n) x1 x5 r3 y5 u4
def mM_SqlReaderModel_prefixed_J42 (rc : Nat → Int32 → Int32 → Int32 → Int32 → Int32 → Int32 → St → Option (Int32 × St)) (x1 : Int32) (x2 : Int32) (x3 : Int32) (x4 : Int32) (x5 : Int32) (u : St) : Option (Int32 × St) :=
  bM (rc 5 (x1 + 1) (x2 + x5) x3 (x4 + x5) 0 0 u) fun r1 u2 =>
  mM_SqlReaderModel_prefixed_L64 rc FU x1 x5 r1 0 u2
def mM_SqlReaderModel_prefixed_L3 (rc : Nat → Int32 → Int32 → Int32 → Int32 → Int32 → Int32 → St → Option (Int32 × St)) : Nat → Int32 → Int32 → Int32 → Int32 → Int32 → St → Option (Int32 × St)
  | 0, _, _, _, _, _, _ => none
  | n + 1, x1, x2, x3, x4, x5, u =>
    if x3 ≤ (x2 + x5) then
      mM_SqlReaderModel_prefixed_J42 rc x1 x2 x3 x4 x5 u
    else
      if x1 = 2 then
        bP (mM_SqlReaderModel_is (x2 + x5) 89 u) fun r11 =>
        if r11 = 0 then
          mM_SqlReaderModel_prefixed_J42 rc x1 x2 x3 x4 x5 u
        else
          seq (x5 + 1 : Int32) fun y12 =>
          (mM_SqlReaderModel_prefixed_L3 rc n) x1 x2 x3 x4 y12 u
      else
        bP (mM_SqlReaderModel_is (x2 + x5) 90 u) fun r9 =>
        if r9 = 0 then
          mM_SqlReaderModel_prefixed_J42 rc x1 x2 x3 x4 x5 u
        else
          seq (x5 + 1 : Int32) fun y10 =>
          (mM_SqlReaderModel_prefixed_L3 rc n) x1 x2 x3 x4 y10 u
def mM_SqlReaderModel_prefixed_o (rc : Nat → Int32 → Int32 → Int32 → Int32 → Int32 → Int32 → St → Option (Int32 × St)) (x1 : Int32) (x2 : Int32) (x3 : Int32) (x4 : Int32) (u : St) : Option (Int32 × St) :=
  mM_SqlReaderModel_prefixed_L3 rc FU x1 x2 x3 x4 0 u
def mM_SqlReaderModel_part_o (rc : Nat → Int32 → Int32 → Int32 → Int32 → Int32 → Int32 → St → Option (Int32 × St)) (x1 : Int32) (x2 : Int32) (x3 : Int32) (x4 : Int32) (u : St) : Option (Int32 × St) :=
  if (u.1 2) = 0 then
    if x3 ≤ x2 then
      seq (ss u 2 1) fun u2 =>
      some (0, u2)
    else
      if x4 ≤ 20 then
        if x1 = 2 then
          bM (rc 4 x1 x2 x3 x4 0 0 u) fun r3 u4 =>
          some (r3, u4)
        else
          if x1 = 7 then
            bM (rc 4 x1 x2 x3 x4 0 0 u) fun r11 u12 =>
            some (r11, u12)
          else
            if x1 = 3 then
              bM (rc 3 x2 x3 x4 0 0 0 u) fun r9 u10 =>
              some (r9, u10)
            else
              if x1 = 8 then
                bM (rc 1 x2 x3 x4 0 0 0 u) fun r7 u8 =>
                some (r7, u8)
              else
                bM (rc 0 x1 x2 x3 x4 0 0 u) fun r5 u6 =>
                some (r5, u6)
      else
        seq (ss u 2 1) fun u13 =>
        some (0, u13)
  else
    seq (ss u 2 1) fun u1 =>
    some (0, u1)
def grpM : Nat → Nat → Int32 → Int32 → Int32 → Int32 → Int32 → Int32 → St → Option (Int32 × St)
  | 0, _, _, _, _, _, _, _, _ => none
  | n + 1, t, a, b, c, d, e, f, u => match t with
    | 0 => mM_SqlReaderModel_chain_o (grpM n) a b c d u
    | 1 => mM_SqlReaderModel_primary_o (grpM n) a b c u
    | 2 => mM_SqlReaderModel_in_o (grpM n) a b c d e f u
    | 3 => mM_SqlReaderModel_comparison_o (grpM n) a b c u
    | 4 => mM_SqlReaderModel_prefixed_o (grpM n) a b c d u
    | 5 => mM_SqlReaderModel_part_o (grpM n) a b c d u
    | _ => none
def mM_SqlReaderModel_chain (n : Nat) (x1 : Int32) (x2 : Int32) (x3 : Int32) (x4 : Int32) (u : St) : Option (Int32 × St) := grpM n 0 x1 x2 x3 x4 0 0 u
def mM_SqlReaderModel_primary (n : Nat) (x1 : Int32) (x2 : Int32) (x3 : Int32) (u : St) : Option (Int32 × St) := grpM n 1 x1 x2 x3 0 0 0 u
def mM_SqlReaderModel_in (n : Nat) (x1 : Int32) (x2 : Int32) (x3 : Int32) (x4 : Int32) (x5 : Int32) (x6 : Int32) (u : St) : Option (Int32 × St) := grpM n 2 x1 x2 x3 x4 x5 x6 u
def mM_SqlReaderModel_comparison (n : Nat) (x1 : Int32) (x2 : Int32) (x3 : Int32) (u : St) : Option (Int32 × St) := grpM n 3 x1 x2 x3 0 0 0 u
def mM_SqlReaderModel_prefixed (n : Nat) (x1 : Int32) (x2 : Int32) (x3 : Int32) (x4 : Int32) (u : St) : Option (Int32 × St) := grpM n 4 x1 x2 x3 x4 0 0 u
def mM_SqlReaderModel_part (n : Nat) (x1 : Int32) (x2 : Int32) (x3 : Int32) (x4 : Int32) (u : St) : Option (Int32 × St) := grpM n 5 x1 x2 x3 x4 0 0 u
def mM_SqlReaderModel_expression (u : St) : Option (Int32 × St) :=
  bP (mM_SqlReaderModel_reach u) fun r1 =>
  bM (mM_SqlReaderModel_part DP 0 (u.1 30) r1 0 u) fun r2 u3 =>
  seq (ss u3 30 r1) fun u4 =>
  some (r2, u4)
def mM_SqlReaderModel_readRows_J87 (q2 : Int32 → St → Option (St)) (x2 : Int32) (u : St) : Option (St) :=
  bP (mM_SqlReaderModel_need 88 u) fun u2 =>
  bP (mM_SqlReaderModel_note 10 x2 0 u2) fun u3 =>
  seq (ss u3 21 ((u3.1 21) + 1)) fun u4 =>
  bM (mM_SqlReaderModel_takes 80 u4) fun r5 u6 =>
  q2 r5 u6
def mM_SqlReaderModel_readRows_L24 (q2 : Int32 → St → Option (St)) : Nat → Int32 → Int32 → St → Option (St)
  | 0, _, _, _ => none
  | n + 1, x2, x3, u =>
    if x3 = 0 then
      mM_SqlReaderModel_readRows_J87 q2 x2 u
    else
      if (u.1 2) = 0 then
        bM (mM_SqlReaderModel_expression u) fun r7 u8 =>
        gd (inb (u.1 23) 1000) <| seq (sa u8 30 (u.1 23) r7) fun u9 =>
        gd (inb (u9.1 23) 1000) <|
        bP (mM_SqlReaderModel_note 2 (ga u9 30 (u9.1 23)) x2 u9) fun u10 =>
        seq (ss u10 23 ((u10.1 23) + 1)) fun u11 =>
        seq (x2 + 1 : Int32) fun y12 =>
        bM (mM_SqlReaderModel_takes 80 u11) fun r13 u14 =>
        (mM_SqlReaderModel_readRows_L24 q2 n) y12 r13 u14
      else
        mM_SqlReaderModel_readRows_J87 q2 x2 u
def mM_SqlReaderModel_readRows_L2 : Nat → Int32 → St → Option (St)
  | 0, _, _ => none
  | n + 1, x1, u =>
    if x1 = 0 then
      some u
    else
      if (u.1 2) = 0 then
        bP (mM_SqlReaderModel_need 79 u) fun u1 =>
        mM_SqlReaderModel_readRows_L24 (mM_SqlReaderModel_readRows_L2 n) FU 0 1 u1
      else
        some u
def mM_SqlReaderModel_readRows (u : St) : Option (St) :=
  mM_SqlReaderModel_readRows_L2 FU 1 u
def mM_SqlReaderModel_readItems_J91 (q44 : Int32 → St → Option (St)) (u : St) : Option (St) :=
  seq (ss u 16 ((u.1 16) + 1)) fun u9 =>
  bM (mM_SqlReaderModel_takes 80 u9) fun r10 u11 =>
  q44 r10 u11
def mM_SqlReaderModel_readItems_L44 : Nat → Int32 → St → Option (St)
  | 0, _, _ => none
  | n + 1, x1, u =>
    if x1 = 0 then
      seq (ss u 29 0) fun u5 =>
      some u5
    else
      if (u.1 2) = 0 then
        bM (mM_SqlReaderModel_expression u) fun r7 u8 =>
        if 200 ≤ (u8.1 16) then
          mM_SqlReaderModel_readItems_J91 (mM_SqlReaderModel_readItems_L44 n) u8
        else
          gd (inb (u8.1 16) 200) <| seq (sa u8 21 (u8.1 16) r7) fun u12 =>
          bP (mM_SqlReaderModel_note 6 r7 (u12.1 16) u12) fun u13 =>
          mM_SqlReaderModel_readItems_J91 (mM_SqlReaderModel_readItems_L44 n) u13
      else
        seq (ss u 29 0) fun u6 =>
        some u6
def mM_SqlReaderModel_readItems_J31 (u : St) : Option (St) :=
  if (u.1 13) = 0 then
    mM_SqlReaderModel_readItems_L44 FU 1 u
  else
    mM_SqlReaderModel_readItems_L44 FU 0 u
def mM_SqlReaderModel_readItems (u : St) : Option (St) :=
  seq (ss u 29 1) fun u1 =>
  bM (mM_SqlReaderModel_takes 106 u1) fun r2 u3 =>
  gd (zb r2) <| seq (ss u3 13 r2) fun u4 =>
  if (u4.1 13) = 0 then
    mM_SqlReaderModel_readItems_J31 u4
  else
    bP (mM_SqlReaderModel_note 7 0 0 u4) fun u14 =>
    mM_SqlReaderModel_readItems_J31 u14
def mM_SqlReaderModel_from (x1 : Int32) (x2 : Int32) (u : St) : Option (St) :=
  gd (inb (u.1 19) 1000) <| seq (sa u 25 (u.1 19) x1) fun u1 =>
  gd (inb (u1.1 19) 1000) <| seq (sa u1 26 (u1.1 19) x2) fun u2 =>
  seq (ss u2 19 ((u2.1 19) + 1)) fun u3 =>
  some u3
def mM_SqlReaderModel_readWhere (u : St) : Option (St) :=
  bM (mM_SqlReaderModel_takes 83 u) fun r1 u2 =>
  if r1 = 0 then
    some u2
  else
    bM (mM_SqlReaderModel_expression u2) fun r3 u4 =>
    seq (ss u4 15 r3) fun u5 =>
    bP (mM_SqlReaderModel_note 3 (u5.1 15) 0 u5) fun u6 =>
    some u6
def mM_SqlReaderModel_readGroups_J111 (q9 : Int32 → St → Option (St)) (u : St) : Option (St) :=
  seq (ss u 17 ((u.1 17) + 1)) fun u7 =>
  bM (mM_SqlReaderModel_takes 80 u7) fun r8 u9 =>
  q9 r8 u9
def mM_SqlReaderModel_readGroups_J70 (q9 : Int32 → St → Option (St)) (x2 : Int32) (s1 : Int32) (u : St) : Option (St) :=
  gd (zb s1) <| seq (ss u 2 s1) fun u3 =>
  bM (mM_SqlReaderModel_part DP 8 (u3.1 30) x2 0 u3) fun r4 u5 =>
  seq (ss u5 30 x2) fun u6 =>
  if 200 ≤ (u6.1 17) then
    mM_SqlReaderModel_readGroups_J111 q9 u6
  else
    gd (inb (u6.1 17) 200) <| seq (sa u6 22 (u6.1 17) r4) fun u10 =>
    mM_SqlReaderModel_readGroups_J111 q9 u10
def mM_SqlReaderModel_readGroups_L9 : Nat → Int32 → St → Option (St)
  | 0, _, _ => none
  | n + 1, x1, u =>
    if x1 = 0 then
      some u
    else
      if (u.1 2) = 0 then
        bP (mM_SqlReaderModel_reach u) fun r2 =>
        if (u.1 2) = 0 then
          bP (mM_SqlReaderModel_isKind (u.1 30) 2 u) fun r11 =>
          if r11 = 0 then
            mM_SqlReaderModel_readGroups_J70 (mM_SqlReaderModel_readGroups_L9 n) r2 1 u
          else
            if r2 = ((u.1 30) + 1) then
              mM_SqlReaderModel_readGroups_J70 (mM_SqlReaderModel_readGroups_L9 n) r2 0 u
            else
              if r2 = ((u.1 30) + 3) then
                mM_SqlReaderModel_readGroups_J70 (mM_SqlReaderModel_readGroups_L9 n) r2 0 u
              else
                mM_SqlReaderModel_readGroups_J70 (mM_SqlReaderModel_readGroups_L9 n) r2 1 u
        else
          mM_SqlReaderModel_readGroups_J70 (mM_SqlReaderModel_readGroups_L9 n) r2 1 u
      else
        some u
def mM_SqlReaderModel_readGroups (u : St) : Option (St) :=
  bP (mM_SqlReaderModel_need 117 u) fun u1 =>
  mM_SqlReaderModel_readGroups_L9 FU 1 u1
def mM_SqlReaderModel_needNumber_J25 (s1 : Int32) (u : St) : Option (Int64 × St) :=
  gd (zb s1) <| seq (ss u 2 s1) fun u1 =>
  seq (ss u1 30 ((u1.1 30) + 1)) fun u2 =>
  if (u2.1 2) = 0 then
    bP (mM_SqlReaderModel_numberOf ((u2.1 30) - 1) u2) fun r3 =>
    some (r3, u2)
  else
    some (0, u2)
def mM_SqlReaderModel_needNumber (u : St) : Option (Int64 × St) :=
  if (u.1 2) = 0 then
    bP (mM_SqlReaderModel_isKind (u.1 30) 3 u) fun r4 =>
    if r4 = 0 then
      mM_SqlReaderModel_needNumber_J25 1 u
    else
      mM_SqlReaderModel_needNumber_J25 0 u
  else
    mM_SqlReaderModel_needNumber_J25 1 u
def mM_SqlReaderModel_readOrders_L9 : Nat → Int32 → St → Option (St)
  | 0, _, _ => none
  | n + 1, x1, u =>
    if x1 = 0 then
      some u
    else
      if (u.1 2) = 0 then
        bM (mM_SqlReaderModel_needNumber u) fun r2 u3 =>
        gd (inb (u.1 18) 1000) <| seq (sl u3 1 (u.1 18) r2) fun u4 =>
        bM (mM_SqlReaderModel_takes 118 u4) fun r5 u6 =>
        gd (inb (u4.1 18) 1000) <| seq (sa u6 23 (u4.1 18) (zn r5)) fun u7 =>
        seq (ss u7 18 ((u7.1 18) + 1)) fun u8 =>
        bM (mM_SqlReaderModel_takes 80 u8) fun r9 u10 =>
        (mM_SqlReaderModel_readOrders_L9 n) r9 u10
      else
        some u
def mM_SqlReaderModel_readOrders (u : St) : Option (St) :=
  bP (mM_SqlReaderModel_need 117 u) fun u1 =>
  mM_SqlReaderModel_readOrders_L9 FU 1 u1
def mM_SqlReaderModel_readQuery_J214 (s1 : Int32) (u : St) : Option (St) :=
  seq (ss u 11 s1) fun u19 =>
  if (u19.1 2) = 0 then
    if (u19.1 11) = 0 then
      seq (ss u19 2 1) fun u22 =>
      some u22
    else
      seq (ss u19 2 0) fun u21 =>
      some u21
  else
    seq (ss u19 2 1) fun u20 =>
    some u20
def mM_SqlReaderModel_readQuery_J174 (u : St) : Option (St) :=
  bM (mM_SqlReaderModel_takes 87 u) fun r13 u14 =>
  if r13 = 0 then
    some u14
  else
    bM (mM_SqlReaderModel_takes 119 u14) fun r15 u16 =>
    if r15 = 0 then
      bM (mM_SqlReaderModel_takes 120 u16) fun r17 u18 =>
      if r17 = 0 then
        mM_SqlReaderModel_readQuery_J214 0 u18
      else
        mM_SqlReaderModel_readQuery_J214 1 u18
    else
      mM_SqlReaderModel_readQuery_J214 2 u16
def mM_SqlReaderModel_readQuery_J131 (u : St) : Option (St) :=
  bM (mM_SqlReaderModel_takes 86 u) fun r11 u12 =>
  if r11 = 0 then
    mM_SqlReaderModel_readQuery_J174 u12
  else
    bM (mM_SqlReaderModel_needNumber u12) fun r23 u24 =>
    seq (sL u24 0 r23) fun u25 =>
    if (lg_cmp (u25.2.2.1 0) 2147483647) ≤ 0 then
      seq (sL u25 0 (u25.2.2.1 0)) fun u26 =>
      mM_SqlReaderModel_readQuery_J174 u26
    else
      seq (sL u25 0 2147483647) fun u27 =>
      mM_SqlReaderModel_readQuery_J174 u27
def mM_SqlReaderModel_readQuery_J99 (u : St) : Option (St) :=
  bP (mM_SqlReaderModel_readWhere u) fun u6 =>
  bM (mM_SqlReaderModel_takes 84 u6) fun r7 u8 =>
  if r7 = 0 then
    bM (mM_SqlReaderModel_takes 85 u8) fun r9 u10 =>
    if r9 = 0 then
      mM_SqlReaderModel_readQuery_J131 u10
    else
      bP (mM_SqlReaderModel_readOrders u10) fun u28 =>
      mM_SqlReaderModel_readQuery_J131 u28
  else
    bP (mM_SqlReaderModel_readGroups u8) fun u29 =>
    bM (mM_SqlReaderModel_takes 85 u29) fun r30 u31 =>
    if r30 = 0 then
      mM_SqlReaderModel_readQuery_J131 u31
    else
      bP (mM_SqlReaderModel_readOrders u31) fun u32 =>
      mM_SqlReaderModel_readQuery_J131 u32
def mM_SqlReaderModel_readQuery_J64 (q24 : Int32 → St → Option (St)) (x3 : Int32) (s1 : Int32) (s2 : Int32) (u : St) : Option (St) :=
  bP (mM_SqlReaderModel_from s1 s2 u) fun u36 =>
  if x3 = 0 then
    seq (ss u36 30 (u36.1 30)) fun u37 =>
    bM (mM_SqlReaderModel_takes 80 u37) fun r38 u39 =>
    q24 r38 u39
  else
    seq (ss u36 30 ((u36.1 30) + 1)) fun u40 =>
    bM (mM_SqlReaderModel_takes 80 u40) fun r41 u42 =>
    q24 r41 u42
def mM_SqlReaderModel_readQuery_L24 : Nat → Int32 → St → Option (St)
  | 0, _, _ => none
  | n + 1, x1, u =>
    if x1 = 0 then
      mM_SqlReaderModel_readQuery_J99 u
    else
      if (u.1 2) = 0 then
        bM (mM_SqlReaderModel_needName u) fun r33 u34 =>
        bP (mM_SqlReaderModel_isKind (u34.1 30) 2 u34) fun r35 =>
        if r35 = 0 then
          mM_SqlReaderModel_readQuery_J64 (mM_SqlReaderModel_readQuery_L24 n) r35 r33 r33 u34
        else
          mM_SqlReaderModel_readQuery_J64 (mM_SqlReaderModel_readQuery_L24 n) r35 r33 (u34.1 30) u34
      else
        mM_SqlReaderModel_readQuery_J99 u
def mM_SqlReaderModel_readQuery (u : St) : Option (St) :=
  bM (mM_SqlReaderModel_takes 116 u) fun r1 u2 =>
  gd (zb r1) <| seq (ss u2 14 r1) fun u3 =>
  bP (mM_SqlReaderModel_readItems u3) fun u4 =>
  bP (mM_SqlReaderModel_need 82 u4) fun u5 =>
  mM_SqlReaderModel_readQuery_L24 FU 1 u5
def mM_SqlReaderModel_readInsert (u : St) : Option (St) :=
  bP (mM_SqlReaderModel_need 77 u) fun u1 =>
  bM (mM_SqlReaderModel_needName u1) fun r2 u3 =>
  seq (ss u3 10 r2) fun u4 =>
  bM (mM_SqlReaderModel_takes 78 u4) fun r5 u6 =>
  if r5 = 0 then
    bP (mM_SqlReaderModel_need 115 u6) fun u7 =>
    seq (ss u7 7 5) fun u8 =>
    bP (mM_SqlReaderModel_readQuery u8) fun u9 =>
    some u9
  else
    seq (ss u6 7 4) fun u10 =>
    bP (mM_SqlReaderModel_readRows u10) fun u11 =>
    some u11
def mM_SqlReaderModel_readUpdate_L35 : Nat → Int32 → St → Option (St)
  | 0, _, _ => none
  | n + 1, x1, u =>
    if x1 = 0 then
      bP (mM_SqlReaderModel_readWhere u) fun u7 =>
      some u7
    else
      if (u.1 2) = 0 then
        bM (mM_SqlReaderModel_needName u) fun r9 u10 =>
        gd (inb (u.1 20) 1000) <| seq (sa u10 27 (u.1 20) r9) fun u11 =>
        bP (mM_SqlReaderModel_note 4 (u11.1 20) 0 u11) fun u12 =>
        bP (mM_SqlReaderModel_need 91 u12) fun u13 =>
        bM (mM_SqlReaderModel_expression u13) fun r14 u15 =>
        gd (inb (u13.1 20) 1000) <| seq (sa u15 29 (u13.1 20) r14) fun u16 =>
        bP (mM_SqlReaderModel_note 5 (u16.1 20) 0 u16) fun u17 =>
        seq (ss u17 20 ((u17.1 20) + 1)) fun u18 =>
        bM (mM_SqlReaderModel_takes 80 u18) fun r19 u20 =>
        (mM_SqlReaderModel_readUpdate_L35 n) r19 u20
      else
        bP (mM_SqlReaderModel_readWhere u) fun u8 =>
        some u8
def mM_SqlReaderModel_readUpdate (u : St) : Option (St) :=
  seq (ss u 7 6) fun u1 =>
  bM (mM_SqlReaderModel_needName u1) fun r2 u3 =>
  seq (ss u3 10 r2) fun u4 =>
  bP (mM_SqlReaderModel_from (u4.1 10) (u4.1 10) u4) fun u5 =>
  bP (mM_SqlReaderModel_need 121 u5) fun u6 =>
  mM_SqlReaderModel_readUpdate_L35 FU 1 u6
def mM_SqlReaderModel_readDeed (u : St) : Option (Int32 × St) :=
  bM (mM_SqlReaderModel_takes 76 u) fun r1 u2 =>
  if r1 = 0 then
    bM (mM_SqlReaderModel_takes 119 u2) fun r3 u4 =>
    if r3 = 0 then
      bM (mM_SqlReaderModel_takes 122 u4) fun r5 u6 =>
      if r5 = 0 then
        bM (mM_SqlReaderModel_takes 115 u6) fun r7 u8 =>
        if r7 = 0 then
          some (0, u8)
        else
          seq (ss u8 7 8) fun u9 =>
          bP (mM_SqlReaderModel_readQuery u9) fun u10 =>
          some (1, u10)
      else
        seq (ss u6 7 7) fun u11 =>
        bP (mM_SqlReaderModel_need 82 u11) fun u12 =>
        bM (mM_SqlReaderModel_needName u12) fun r13 u14 =>
        seq (ss u14 10 r13) fun u15 =>
        bP (mM_SqlReaderModel_from (u15.1 10) (u15.1 10) u15) fun u16 =>
        bP (mM_SqlReaderModel_readWhere u16) fun u17 =>
        some (1, u17)
    else
      bP (mM_SqlReaderModel_readUpdate u4) fun u18 =>
      some (1, u18)
  else
    bP (mM_SqlReaderModel_readInsert u2) fun u19 =>
    some (1, u19)
def mM_SqlReaderModel_readCreate_J168 (q32 : Int32 → St → Option (St)) (s1 : Int32) (s2 : Int32) (u : St) : Option (St) :=
  gd (inb s1 1000) <| seq (sa u 32 s1 s2) fun u39 =>
  seq (ss u39 24 ((u39.1 24) + 1)) fun u40 =>
  bM (mM_SqlReaderModel_takes 80 u40) fun r41 u42 =>
  q32 r41 u42
def mM_SqlReaderModel_readCreate_J142 (q32 : Int32 → St → Option (St)) (x2 : Int32) (u : St) : Option (St) :=
  bM (mM_SqlReaderModel_takes 128 u) fun r37 u38 =>
  if r37 = 0 then
    mM_SqlReaderModel_readCreate_J168 q32 (u.1 24) x2 u38
  else
    mM_SqlReaderModel_readCreate_J168 q32 (u.1 24) (x2 + 20) u38
def mM_SqlReaderModel_readCreate_J117 (q32 : Int32 → St → Option (St)) (x2 : Int32) (s1 : Int32) (u : St) : Option (St) :=
  gd (zb s1) <| seq (ss u 2 s1) fun u34 =>
  bM (mM_SqlReaderModel_takes 89 u34) fun r35 u36 =>
  if r35 = 0 then
    mM_SqlReaderModel_readCreate_J142 q32 x2 u36
  else
    bP (mM_SqlReaderModel_need 100 u36) fun u43 =>
    seq ((x2 + 10) : Int32) fun y44 =>
    mM_SqlReaderModel_readCreate_J142 q32 y44 u43
def mM_SqlReaderModel_readCreate_J99 (q32 : Int32 → St → Option (St)) (s0 : Int32) (u : St) : Option (St) :=
  if (u.1 2) = 0 then
    if s0 = 0 then
      mM_SqlReaderModel_readCreate_J117 q32 s0 1 u
    else
      mM_SqlReaderModel_readCreate_J117 q32 s0 0 u
  else
    mM_SqlReaderModel_readCreate_J117 q32 s0 1 u
def mM_SqlReaderModel_readCreate_L32 : Nat → Int32 → St → Option (St)
  | 0, _, _ => none
  | n + 1, x1, u =>
    if x1 = 0 then
      bP (mM_SqlReaderModel_need 88 u) fun u23 =>
      some u23
    else
      if (u.1 2) = 0 then
        bM (mM_SqlReaderModel_needName u) fun r25 u26 =>
        gd (inb (u.1 24) 1000) <| seq (sa u26 31 (u.1 24) r25) fun u27 =>
        bM (mM_SqlReaderModel_takes 125 u27) fun r28 u29 =>
        if r28 = 0 then
          bM (mM_SqlReaderModel_takes 126 u29) fun r30 u31 =>
          if r30 = 0 then
            bM (mM_SqlReaderModel_takes 127 u31) fun r32 u33 =>
            if r32 = 0 then
              mM_SqlReaderModel_readCreate_J99 (mM_SqlReaderModel_readCreate_L32 n) 0 u33
            else
              mM_SqlReaderModel_readCreate_J99 (mM_SqlReaderModel_readCreate_L32 n) 3 u33
          else
            mM_SqlReaderModel_readCreate_J99 (mM_SqlReaderModel_readCreate_L32 n) 2 u31
        else
          mM_SqlReaderModel_readCreate_J99 (mM_SqlReaderModel_readCreate_L32 n) 1 u29
      else
        bP (mM_SqlReaderModel_need 88 u) fun u24 =>
        some u24
def mM_SqlReaderModel_readCreate (u : St) : Option (St) :=
  bM (mM_SqlReaderModel_takes 124 u) fun r1 u2 =>
  if r1 = 0 then
    seq (ss u2 7 2) fun u3 =>
    bM (mM_SqlReaderModel_takes 128 u3) fun r4 u5 =>
    gd (zb r4) <| seq (ss u5 27 r4) fun u6 =>
    bP (mM_SqlReaderModel_need 129 u6) fun u7 =>
    bP (mM_SqlReaderModel_need 130 u7) fun u8 =>
    bM (mM_SqlReaderModel_needName u8) fun r9 u10 =>
    seq (ss u10 10 r9) fun u11 =>
    bP (mM_SqlReaderModel_need 79 u11) fun u12 =>
    bM (mM_SqlReaderModel_needName u12) fun r13 u14 =>
    seq (ss u14 26 r13) fun u15 =>
    bP (mM_SqlReaderModel_note 9 0 0 u15) fun u16 =>
    bP (mM_SqlReaderModel_need 88 u16) fun u17 =>
    some u17
  else
    seq (ss u2 7 1) fun u18 =>
    bM (mM_SqlReaderModel_needName u18) fun r19 u20 =>
    seq (ss u20 12 r19) fun u21 =>
    bP (mM_SqlReaderModel_need 79 u21) fun u22 =>
    mM_SqlReaderModel_readCreate_L32 FU 1 u22
def mM_SqlReaderModel_readBegin (u : St) : Option (St) :=
  seq (ss u 7 9) fun u1 =>
  bM (mM_SqlReaderModel_takes 133 u1) fun r2 u3 =>
  if r2 = 0 then
    bM (mM_SqlReaderModel_takes 135 u3) fun r4 u5 =>
    if r4 = 0 then
      bM (mM_SqlReaderModel_takes 136 u5) fun r6 u7 =>
      if r6 = 0 then
        some u7
      else
        seq (ss u7 11 2) fun u8 =>
        some u8
    else
      bP (mM_SqlReaderModel_need 133 u5) fun u9 =>
      seq (ss u9 11 1) fun u10 =>
      some u10
  else
    bP (mM_SqlReaderModel_need 134 u3) fun u11 =>
    some u11
def mM_SqlReaderModel_readNamed (x1 : Int32) (u : St) : Option (St) :=
  seq (ss u 7 x1) fun u1 =>
  bM (mM_SqlReaderModel_needName u1) fun r2 u3 =>
  seq (ss u3 12 r2) fun u4 =>
  some u4
def mM_SqlReaderModel_readMode_J118 (u : St) : Option (St) :=
  if (u.1 11) = 1 then
    some u
  else
    if (u.1 11) = 2 then
      some u
    else
      if (u.1 11) = 5 then
        some u
      else
        bP (mM_SqlReaderModel_need 145 u) fun u8 =>
        some u8
def mM_SqlReaderModel_readMode (u : St) : Option (St) :=
  bM (mM_SqlReaderModel_takes 143 u) fun r1 u2 =>
  if r1 = 0 then
    bM (mM_SqlReaderModel_takes 144 u2) fun r3 u4 =>
    if r3 = 0 then
      bM (mM_SqlReaderModel_takes 120 u4) fun r5 u6 =>
      if r5 = 0 then
        seq (ss u6 11 7) fun u7 =>
        mM_SqlReaderModel_readMode_J118 u7
      else
        bM (mM_SqlReaderModel_takes 119 u6) fun r9 u10 =>
        if r9 = 0 then
          bM (mM_SqlReaderModel_takes 144 u10) fun r11 u12 =>
          if r11 = 0 then
            seq (ss u12 11 5) fun u13 =>
            mM_SqlReaderModel_readMode_J118 u13
          else
            seq (ss u12 11 6) fun u14 =>
            mM_SqlReaderModel_readMode_J118 u14
        else
          seq (ss u10 11 4) fun u15 =>
          mM_SqlReaderModel_readMode_J118 u15
    else
      bM (mM_SqlReaderModel_takes 120 u4) fun r16 u17 =>
      if r16 = 0 then
        seq (ss u17 11 3) fun u18 =>
        mM_SqlReaderModel_readMode_J118 u18
      else
        seq (ss u17 11 2) fun u19 =>
        mM_SqlReaderModel_readMode_J118 u19
  else
    bM (mM_SqlReaderModel_takes 120 u2) fun r20 u21 =>
    if r20 = 0 then
      seq (ss u21 11 8) fun u22 =>
      mM_SqlReaderModel_readMode_J118 u22
    else
      seq (ss u21 11 1) fun u23 =>
      mM_SqlReaderModel_readMode_J118 u23
def mM_SqlReaderModel_readValues_L18 : Nat → Int32 → St → Option (St)
  | 0, _, _ => none
  | n + 1, x1, u =>
    if x1 = 0 then
      bP (mM_SqlReaderModel_need 88 u) fun u4 =>
      some u4
    else
      if (u.1 2) = 0 then
        bM (mM_SqlReaderModel_expression u) fun r6 u7 =>
        gd (inb (u.1 23) 1000) <| seq (sa u7 30 (u.1 23) r6) fun u8 =>
        seq (ss u8 23 ((u8.1 23) + 1)) fun u9 =>
        bM (mM_SqlReaderModel_takes 80 u9) fun r10 u11 =>
        (mM_SqlReaderModel_readValues_L18 n) r10 u11
      else
        bP (mM_SqlReaderModel_need 88 u) fun u5 =>
        some u5
def mM_SqlReaderModel_readValues (u : St) : Option (St) :=
  bP (mM_SqlReaderModel_readNamed 17 u) fun u1 =>
  bM (mM_SqlReaderModel_takes 79 u1) fun r2 u3 =>
  if r2 = 0 then
    some u3
  else
    mM_SqlReaderModel_readValues_L18 FU 1 u3
def mM_SqlReaderModel_readOther_J232 (x1 : Int32) (s1 : Int32) (u : St) : Option (St) :=
  gd (zb s1) <| seq (ss u 2 s1) fun u35 =>
  seq (ss u35 8 (u35.1 7)) fun u36 =>
  seq (ss u36 7 16) fun u37 =>
  seq (ss u37 12 x1) fun u38 =>
  some u38
def mM_SqlReaderModel_readOther (u : St) : Option (St) :=
  bM (mM_SqlReaderModel_takes 123 u) fun r1 u2 =>
  if r1 = 0 then
    bM (mM_SqlReaderModel_takes 131 u2) fun r3 u4 =>
    if r3 = 0 then
      bM (mM_SqlReaderModel_takes 132 u4) fun r5 u6 =>
      if r5 = 0 then
        bM (mM_SqlReaderModel_takes 137 u6) fun r7 u8 =>
        if r7 = 0 then
          bM (mM_SqlReaderModel_takes 138 u8) fun r9 u10 =>
          if r9 = 0 then
            bM (mM_SqlReaderModel_takes 140 u10) fun r11 u12 =>
            if r11 = 0 then
              bM (mM_SqlReaderModel_takes 141 u12) fun r13 u14 =>
              if r13 = 0 then
                bM (mM_SqlReaderModel_takes 142 u14) fun r15 u16 =>
                if r15 = 0 then
                  bM (mM_SqlReaderModel_takes 146 u16) fun r17 u18 =>
                  if r17 = 0 then
                    bM (mM_SqlReaderModel_takes 148 u18) fun r19 u20 =>
                    if r19 = 0 then
                      bM (mM_SqlReaderModel_takes 149 u20) fun r21 u22 =>
                      if r21 = 0 then
                        bP (mM_SqlReaderModel_need 150 u22) fun u23 =>
                        seq (ss u23 7 19) fun u24 =>
                        some u24
                      else
                        seq (ss u22 7 18) fun u25 =>
                        bM (mM_SqlReaderModel_needName u25) fun r26 u27 =>
                        seq (ss u27 10 r26) fun u28 =>
                        some u28
                    else
                      bP (mM_SqlReaderModel_readValues u20) fun u29 =>
                      some u29
                  else
                    bM (mM_SqlReaderModel_needName u18) fun r30 u31 =>
                    bP (mM_SqlReaderModel_need 147 u31) fun u32 =>
                    bM (mM_SqlReaderModel_readDeed u32) fun r33 u34 =>
                    if r33 = 0 then
                      mM_SqlReaderModel_readOther_J232 r30 1 u34
                    else
                      if (u34.1 2) = 0 then
                        mM_SqlReaderModel_readOther_J232 r30 0 u34
                      else
                        mM_SqlReaderModel_readOther_J232 r30 1 u34
                else
                  seq (ss u16 7 15) fun u39 =>
                  bM (mM_SqlReaderModel_needName u39) fun r40 u41 =>
                  seq (ss u41 10 r40) fun u42 =>
                  bP (mM_SqlReaderModel_readMode u42) fun u43 =>
                  some u43
              else
                bP (mM_SqlReaderModel_readNamed 14 u14) fun u44 =>
                some u44
            else
              bP (mM_SqlReaderModel_readNamed 12 u12) fun u45 =>
              some u45
          else
            seq (ss u10 7 11) fun u46 =>
            bM (mM_SqlReaderModel_takes 139 u46) fun r47 u48 =>
            if r47 = 0 then
              some u48
            else
              bP (mM_SqlReaderModel_readNamed 13 u48) fun u49 =>
              some u49
        else
          seq (ss u8 7 10) fun u50 =>
          some u50
      else
        bP (mM_SqlReaderModel_readBegin u6) fun u51 =>
        some u51
    else
      seq (ss u4 7 3) fun u52 =>
      bP (mM_SqlReaderModel_need 124 u52) fun u53 =>
      bM (mM_SqlReaderModel_needName u53) fun r54 u55 =>
      seq (ss u55 10 r54) fun u56 =>
      some u56
  else
    bP (mM_SqlReaderModel_readCreate u2) fun u57 =>
    some u57
def mM_SqlReaderModel_sameToken_L38 : Nat → Int32 → Int32 → Int32 → Int32 → St → Option (Int32)
  | 0, _, _, _, _, _ => none
  | n + 1, x1, x2, x3, x4, u =>
    if x3 = 0 then
      gd (zb x3) <| some x3
    else
      gd (inb x1 2001) <|
      gd (inb x1 2001) <|
      if ((ga u 3 x1) - (ga u 2 x1)) ≤ x4 then
        gd (zb x3) <| some x3
      else
        gd (inb x1 2001) <|
        gd (inb ((ga u 2 x1) + x4) 2000) <|
        gd (inb x2 2001) <|
        gd (inb ((ga u 2 x2) + x4) 2000) <|
        if (ga u 0 ((ga u 2 x1) + x4)) = (ga u 0 ((ga u 2 x2) + x4)) then
          seq (x4 + 1 : Int32) fun y2 =>
          (mM_SqlReaderModel_sameToken_L38 n) x1 x2 1 y2 u
        else
          seq (x4 + 1 : Int32) fun y1 =>
          (mM_SqlReaderModel_sameToken_L38 n) x1 x2 0 y1 u
def mM_SqlReaderModel_sameToken (x1 : Int32) (x2 : Int32) (u : St) : Option (Int32) :=
  gd (inb x1 2001) <|
  gd (inb x1 2001) <|
  gd (inb x2 2001) <|
  gd (inb x2 2001) <|
  if ((ga u 3 x1) - (ga u 2 x1)) = ((ga u 3 x2) - (ga u 2 x2)) then
    mM_SqlReaderModel_sameToken_L38 FU x1 x2 1 0 u
  else
    mM_SqlReaderModel_sameToken_L38 FU x1 x2 0 0 u
def mM_SqlReaderModel_checkTables_L67 (q30 : Int32 → St → Option (Int32 × St)) : Nat → Int32 → Int32 → St → Option (Int32 × St)
  | 0, _, _, _ => none
  | n + 1, x1, x2, u =>
    if x1 ≤ x2 then
      seq (x1 + 1 : Int32) fun y3 =>
      q30 y3 u
    else
      gd (inb x2 1000) <|
      gd (inb x1 1000) <|
      bP (mM_SqlReaderModel_sameToken (ga u 26 x2) (ga u 26 x1) u) fun r4 =>
      if r4 = 0 then
        seq (x2 + 1 : Int32) fun y5 =>
        (mM_SqlReaderModel_checkTables_L67 q30 n) x1 y5 u
      else
        some (5, u)
def mM_SqlReaderModel_checkTables_L30 : Nat → Int32 → St → Option (Int32 × St)
  | 0, _, _ => none
  | n + 1, x1, u =>
    if (u.1 19) ≤ x1 then
      some (0, u)
    else
      gd (inb x1 1000) <|
      bP (mM_SqlReaderModel_tableOf (ga u 25 x1) u) fun r1 =>
      gd (inb x1 1000) <| seq (sa u 24 x1 r1) fun u2 =>
      gd (inb x1 1000) <|
      if 0 ≤ (ga u2 24 x1) then
        mM_SqlReaderModel_checkTables_L67 (mM_SqlReaderModel_checkTables_L30 n) FU x1 0 u2
      else
        some (4, u2)
def mM_SqlReaderModel_checkTables (u : St) : Option (Int32 × St) :=
  if (u.1 10) < 0 then
    mM_SqlReaderModel_checkTables_L30 FU 0 u
  else
    bP (mM_SqlReaderModel_tableOf (u.1 10) u) fun r6 =>
    seq (ss u 9 r6) fun u7 =>
    if 0 ≤ (u7.1 9) then
      mM_SqlReaderModel_checkTables_L30 FU 0 u7
    else
      some (4, u7)
def mM_SqlReaderModel_resolve_J136 (x3 : Int32) (u : St) : Option (Int32 × St) :=
  if x3 = 0 then
    some (6, u)
  else
    if x3 ≤ 1 then
      some (0, u)
    else
      some (7, u)
def mM_SqlReaderModel_resolve_J45 (q7 : Int32 → Int32 → Int32 → Int32 → St → Option (Int32 × St)) (x1 : Int32) (x2 : Int32) (x3 : Int32) (x4 : Int32) (u : St) : Option (Int32 × St) :=
  gd (inb x4 1000) <|
  gd (inb x1 200) <|
  bP (mM_SqlReaderModel_columnOf (ga u 24 x4) (ga u 15 x1) u) fun r1 =>
  seq (x2 + 1 : Int32) fun y2 =>
  if r1 < 0 then
    seq (x4 + 1 : Int32) fun y3 =>
    q7 x1 y2 x3 y3 u
  else
    seq (x3 + 1 : Int32) fun y4 =>
    gd (inb x1 200) <| seq (sa u 11 x1 x4) fun u5 =>
    gd (inb x1 200) <| seq (sa u5 12 x1 r1) fun u6 =>
    gd (inb x4 1000) <|
    gd (inb ((8 * (ga u6 24 x4)) + r1) 64) <|
    gd (inb x1 200) <| seq (sa u6 13 x1 (ga u6 9 ((8 * (ga u6 24 x4)) + r1))) fun u7 =>
    seq (x4 + 1 : Int32) fun y8 =>
    q7 x1 y2 y4 y8 u7
def mM_SqlReaderModel_resolve_L7 : Nat → Int32 → Int32 → Int32 → Int32 → St → Option (Int32 × St)
  | 0, _, _, _, _, _ => none
  | n + 1, x1, x2, x3, x4, u =>
    if (u.1 19) ≤ x4 then
      gd (inb x1 200) <|
      if (ga u 14 x1) < 0 then
        mM_SqlReaderModel_resolve_J136 x3 u
      else
        if x2 = 0 then
          some (4, u)
        else
          mM_SqlReaderModel_resolve_J136 x3 u
    else
      gd (inb x1 200) <|
      if (ga u 14 x1) < 0 then
        mM_SqlReaderModel_resolve_J45 (mM_SqlReaderModel_resolve_L7 n) x1 x2 x3 x4 u
      else
        gd (inb x1 200) <|
        gd (inb x4 1000) <|
        bP (mM_SqlReaderModel_sameToken (ga u 14 x1) (ga u 26 x4) u) fun r9 =>
        if r9 = 0 then
          seq (x4 + 1 : Int32) fun y10 =>
          (mM_SqlReaderModel_resolve_L7 n) x1 x2 x3 y10 u
        else
          mM_SqlReaderModel_resolve_J45 (mM_SqlReaderModel_resolve_L7 n) x1 x2 x3 x4 u
def mM_SqlReaderModel_resolve (x1 : Int32) (u : St) : Option (Int32 × St) :=
  mM_SqlReaderModel_resolve_L7 FU x1 0 0 0 u
def mM_SqlReaderModel_gives (x1 : Int32) (x2 : Int32) (u : St) : Option (St) :=
  gd (inb x1 200) <|
  if (ga u 10 x1) = 28 then
    gd (inb x1 200) <|
    gd (inb (ga u 11 x1) 10) <|
    if (ga u 33 (ga u 11 x1)) = 0 then
      gd (inb x1 200) <|
      gd (inb (ga u 11 x1) 10) <| seq (sa u 33 (ga u 11 x1) x2) fun u1 =>
      some u1
    else
      some u
  else
    some u
def mM_SqlReaderModel_typeOf (x1 : Int32) (u : St) : Option (Int32) :=
  gd (inb x1 200) <|
  if (ga u 10 x1) = 28 then
    gd (inb x1 200) <|
    gd (inb (ga u 11 x1) 10) <|
    some (ga u 33 (ga u 11 x1))
  else
    gd (inb x1 200) <|
    some (ga u 13 x1)
def mM_SqlReaderModel_error (x1 : Int32) (u : St) : Option (Int32) :=
  if x1 = 0 then
    some 8
  else
    some 0
def mM_SqlReaderModel_compared_J41 (x1 : Int32) (x2 : Int32) (s1 : Int32) (s2 : Int32) (u : St) : Option (Int32 × St) :=
  bP (mM_SqlReaderModel_gives s1 s2 u) fun u6 =>
  bP (mM_SqlReaderModel_typeOf x1 u6) fun r7 =>
  if r7 = 0 then
    bP (mM_SqlReaderModel_error 1 u6) fun r8 =>
    some (r8, u6)
  else
    bP (mM_SqlReaderModel_typeOf x2 u6) fun r9 =>
    if r9 = 0 then
      bP (mM_SqlReaderModel_error 1 u6) fun r10 =>
      some (r10, u6)
    else
      bP (mM_SqlReaderModel_typeOf x1 u6) fun r11 =>
      bP (mM_SqlReaderModel_typeOf x2 u6) fun r12 =>
      if r11 = r12 then
        bP (mM_SqlReaderModel_error 1 u6) fun r14 =>
        some (r14, u6)
      else
        bP (mM_SqlReaderModel_error 0 u6) fun r13 =>
        some (r13, u6)
def mM_SqlReaderModel_compared_J19 (x1 : Int32) (x2 : Int32) (s1 : Int32) (s2 : Int32) (u : St) : Option (Int32 × St) :=
  bP (mM_SqlReaderModel_gives s1 s2 u) fun u3 =>
  bP (mM_SqlReaderModel_typeOf x1 u3) fun r4 =>
  if r4 = 0 then
    mM_SqlReaderModel_compared_J41 x1 x2 x2 2 u3
  else
    bP (mM_SqlReaderModel_typeOf x1 u3) fun r5 =>
    mM_SqlReaderModel_compared_J41 x1 x2 x2 r5 u3
def mM_SqlReaderModel_compared (x1 : Int32) (x2 : Int32) (u : St) : Option (Int32 × St) :=
  bP (mM_SqlReaderModel_typeOf x2 u) fun r1 =>
  if r1 = 0 then
    mM_SqlReaderModel_compared_J19 x1 x2 x1 2 u
  else
    bP (mM_SqlReaderModel_typeOf x2 u) fun r2 =>
    mM_SqlReaderModel_compared_J19 x1 x2 x1 r2 u
def mM_SqlReaderModel_fits_J37 (x1 : Int32) (x2 : Int32) (u : St) : Option (Int32 × St) :=
  bP (mM_SqlReaderModel_typeOf x1 u) fun r1 =>
  if r1 = 0 then
    some (1, u)
  else
    bP (mM_SqlReaderModel_typeOf x1 u) fun r2 =>
    if r2 = x2 then
      some (1, u)
    else
      some (0, u)
def mM_SqlReaderModel_fits (x1 : Int32) (x2 : Int32) (u : St) : Option (Int32 × St) :=
  gd (inb x1 200) <|
  if (ga u 10 x1) = 28 then
    gd (inb x1 200) <|
    gd (inb (ga u 11 x1) 10) <|
    if (ga u 33 (ga u 11 x1)) = 0 then
      gd (inb x1 200) <|
      gd (inb (ga u 11 x1) 10) <| seq (sa u 33 (ga u 11 x1) x2) fun u3 =>
      mM_SqlReaderModel_fits_J37 x1 x2 u3
    else
      mM_SqlReaderModel_fits_J37 x1 x2 u
  else
    mM_SqlReaderModel_fits_J37 x1 x2 u
def mM_SqlReaderModel_checkNode_J146 (x1 : Int32) (x3 : Int32) (u : St) : Option (Int32 × St) :=
  bP (mM_SqlReaderModel_gives x3 2 u) fun u7 =>
  bP (mM_SqlReaderModel_typeOf x3 u7) fun r8 =>
  gd (inb x1 200) <| seq (sa u7 13 x1 r8) fun u9 =>
  bP (mM_SqlReaderModel_typeOf x3 u9) fun r10 =>
  if r10 = 3 then
    bP (mM_SqlReaderModel_error 0 u9) fun r11 =>
    some (r11, u9)
  else
    bP (mM_SqlReaderModel_error 1 u9) fun r12 =>
    some (r12, u9)
def mM_SqlReaderModel_checkNode_J237 (x3 : Int32) (x4 : Int32) (s0 : Int32) (u : St) : Option (Int32 × St) :=
  bM (mM_SqlReaderModel_fits x3 s0 u) fun r13 u14 =>
  if r13 = 0 then
    bP (mM_SqlReaderModel_error 0 u14) fun r15 =>
    some (r15, u14)
  else
    if x4 < 0 then
      bP (mM_SqlReaderModel_error 1 u14) fun r16 =>
      some (r16, u14)
    else
      bM (mM_SqlReaderModel_fits x4 s0 u14) fun r17 u18 =>
      if r17 = 0 then
        bP (mM_SqlReaderModel_error 0 u18) fun r19 =>
        some (r19, u18)
      else
        bP (mM_SqlReaderModel_error 1 u18) fun r20 =>
        some (r20, u18)
def mM_SqlReaderModel_checkNode_J202 (x2 : Int32) (x3 : Int32) (x4 : Int32) (u : St) : Option (Int32 × St) :=
  if x2 < 6 then
    some (0, u)
  else
    if x2 = 28 then
      some (0, u)
    else
      if 16 ≤ x2 then
        if x2 = 16 then
          mM_SqlReaderModel_checkNode_J237 x3 x4 2 u
        else
          mM_SqlReaderModel_checkNode_J237 x3 x4 3 u
      else
        mM_SqlReaderModel_checkNode_J237 x3 x4 1 u
def mM_SqlReaderModel_checkNode_J96 (x1 : Int32) (x2 : Int32) (x3 : Int32) (x4 : Int32) (s1 : Int32) (s2 : Int32) (u : St) : Option (Int32 × St) :=
  gd (inb s1 200) <| seq (sa u 13 s1 s2) fun u4 =>
  if x2 = 4 then
    bM (mM_SqlReaderModel_resolve x1 u4) fun r24 u25 =>
    some (r24, u25)
  else
    if x2 = 6 then
      bP (mM_SqlReaderModel_gives x3 2 u4) fun u5 =>
      some (0, u5)
    else
      if x2 = 23 then
        bP (mM_SqlReaderModel_gives x3 2 u4) fun u6 =>
        some (0, u6)
      else
        if x2 = 24 then
          bP (mM_SqlReaderModel_gives x3 2 u4) fun u23 =>
          some (0, u23)
        else
          if x2 = 8 then
            mM_SqlReaderModel_checkNode_J146 x1 x3 u4
          else
            if x2 = 9 then
              mM_SqlReaderModel_checkNode_J146 x1 x3 u4
            else
              if x2 ≤ 16 then
                mM_SqlReaderModel_checkNode_J202 x2 x3 x4 u4
              else
                if 23 ≤ x2 then
                  mM_SqlReaderModel_checkNode_J202 x2 x3 x4 u4
                else
                  bM (mM_SqlReaderModel_compared x3 x4 u4) fun r21 u22 =>
                  some (r21, u22)
def mM_SqlReaderModel_checkNode_J59 (x1 : Int32) (x2 : Int32) (x3 : Int32) (x4 : Int32) (s1 : Int32) (u : St) : Option (Int32 × St) :=
  if x2 = 2 then
    mM_SqlReaderModel_checkNode_J96 x1 x2 x3 x4 s1 2 u
  else
    if x2 = 16 then
      mM_SqlReaderModel_checkNode_J96 x1 x2 x3 x4 s1 2 u
    else
      if x2 = 3 then
        mM_SqlReaderModel_checkNode_J96 x1 x2 x3 x4 s1 3 u
      else
        if x2 ≤ 16 then
          mM_SqlReaderModel_checkNode_J96 x1 x2 x3 x4 s1 0 u
        else
          if 28 ≤ x2 then
            mM_SqlReaderModel_checkNode_J96 x1 x2 x3 x4 s1 0 u
          else
            mM_SqlReaderModel_checkNode_J96 x1 x2 x3 x4 s1 3 u
def mM_SqlReaderModel_checkNode_J43 (x1 : Int32) (x2 : Int32) (x3 : Int32) (x4 : Int32) (s1 : Int32) (u : St) : Option (Int32 × St) :=
  if x2 ≤ 9 then
    mM_SqlReaderModel_checkNode_J59 x1 x2 x3 x4 s1 u
  else
    if 16 ≤ x2 then
      mM_SqlReaderModel_checkNode_J59 x1 x2 x3 x4 s1 u
    else
      mM_SqlReaderModel_checkNode_J96 x1 x2 x3 x4 s1 1 u
def mM_SqlReaderModel_checkNode (x1 : Int32) (u : St) : Option (Int32 × St) :=
  gd (inb x1 200) <|
  seq ((ga u 10 x1) : Int32) fun y1 =>
  gd (inb x1 200) <|
  seq ((ga u 11 x1) : Int32) fun y2 =>
  gd (inb x1 200) <|
  seq ((ga u 12 x1) : Int32) fun y3 =>
  if y1 = 1 then
    mM_SqlReaderModel_checkNode_J96 x1 y1 y2 y3 x1 1 u
  else
    if y1 ≤ 4 then
      mM_SqlReaderModel_checkNode_J43 x1 y1 y2 y3 x1 u
    else
      if y1 < 8 then
        mM_SqlReaderModel_checkNode_J96 x1 y1 y2 y3 x1 1 u
      else
        mM_SqlReaderModel_checkNode_J43 x1 y1 y2 y3 x1 u
def mM_SqlReaderModel_targetType (x1 : Int32) (u : St) : Option (Int32) :=
  gd (inb (u.1 9) 8) <|
  if (ga u 6 (u.1 9)) ≤ x1 then
    some 0
  else
    gd (inb ((8 * (u.1 9)) + x1) 64) <|
    some (ga u 9 ((8 * (u.1 9)) + x1))
def mM_SqlReaderModel_checkValue (x1 : Int32) (x2 : Int32) (u : St) : Option (Int32 × St) :=
  gd (inb (u.1 9) 8) <|
  if x2 < (ga u 6 (u.1 9)) then
    bP (mM_SqlReaderModel_targetType x2 u) fun r1 =>
    bM (mM_SqlReaderModel_fits x1 r1 u) fun r2 u3 =>
    bP (mM_SqlReaderModel_error r2 u3) fun r4 =>
    some (r4, u3)
  else
    bP (mM_SqlReaderModel_gives x1 2 u) fun u5 =>
    some (0, u5)
def mM_SqlReaderModel_deed (u : St) : Option (Int32) :=
  if (u.1 7) = 16 then
    some (u.1 8)
  else
    some (u.1 7)
def mM_SqlReaderModel_checkStar_L22 (q4 : Int32 → Int32 → St → Option (Int32)) : Nat → Int32 → Int32 → Int32 → St → Option (Int32)
  | 0, _, _, _, _ => none
  | n + 1, x1, x2, x3, u =>
    gd (inb x2 1000) <|
    gd (inb (ga u 24 x2) 8) <|
    if (ga u 6 (ga u 24 x2)) ≤ x3 then
      seq (x2 + 1 : Int32) fun y2 =>
      q4 x1 y2 u
    else
      gd (inb (u.1 9) 8) <|
      if (ga u 6 (u.1 9)) ≤ x1 then
        seq (x1 + 1 : Int32) fun y3 =>
        seq (x3 + 1 : Int32) fun y4 =>
        (mM_SqlReaderModel_checkStar_L22 q4 n) y3 x2 y4 u
      else
        gd (inb x2 1000) <|
        gd (inb ((8 * (ga u 24 x2)) + x3) 64) <|
        bP (mM_SqlReaderModel_targetType x1 u) fun r5 =>
        if (ga u 9 ((8 * (ga u 24 x2)) + x3)) = r5 then
          seq (x1 + 1 : Int32) fun y6 =>
          seq (x3 + 1 : Int32) fun y7 =>
          (mM_SqlReaderModel_checkStar_L22 q4 n) y6 x2 y7 u
        else
          some 8
def mM_SqlReaderModel_checkStar_L4 : Nat → Int32 → Int32 → St → Option (Int32)
  | 0, _, _, _ => none
  | n + 1, x1, x2, u =>
    if (u.1 19) ≤ x2 then
      some 0
    else
      bP (mM_SqlReaderModel_deed u) fun r1 =>
      if r1 = 5 then
        mM_SqlReaderModel_checkStar_L22 (mM_SqlReaderModel_checkStar_L4 n) FU x1 x2 0 u
      else
        some 0
def mM_SqlReaderModel_checkStar (u : St) : Option (Int32) :=
  mM_SqlReaderModel_checkStar_L4 FU 0 0 u
def mM_SqlReaderModel_checkOne (x1 : Int32) (u : St) : Option (Int32 × St) :=
  gd (inb x1 1200) <|
  seq ((ga u 19 x1) : Int32) fun y1 =>
  gd (inb x1 1200) <|
  if (ga u 18 x1) = 1 then
    bM (mM_SqlReaderModel_checkNode y1 u) fun r23 u24 =>
    some (r23, u24)
  else
    gd (inb x1 1200) <|
    if (ga u 18 x1) = 2 then
      gd (inb x1 1200) <|
      bM (mM_SqlReaderModel_checkValue y1 (ga u 20 x1) u) fun r21 u22 =>
      some (r21, u22)
    else
      gd (inb x1 1200) <|
      if (ga u 18 x1) = 3 then
        bM (mM_SqlReaderModel_fits y1 3 u) fun r18 u19 =>
        bP (mM_SqlReaderModel_error r18 u19) fun r20 =>
        some (r20, u19)
      else
        gd (inb x1 1200) <|
        if (ga u 18 x1) = 4 then
          gd (inb y1 1000) <|
          bP (mM_SqlReaderModel_columnOf (u.1 9) (ga u 27 y1) u) fun r16 =>
          gd (inb y1 1000) <| seq (sa u 28 y1 r16) fun u17 =>
          gd (inb y1 1000) <|
          if 0 ≤ (ga u17 28 y1) then
            some (0, u17)
          else
            some (6, u17)
        else
          gd (inb x1 1200) <|
          if (ga u 18 x1) = 5 then
            gd (inb y1 1000) <|
            gd (inb y1 1000) <|
            bP (mM_SqlReaderModel_targetType (ga u 28 y1) u) fun r12 =>
            bM (mM_SqlReaderModel_fits (ga u 29 y1) r12 u) fun r13 u14 =>
            bP (mM_SqlReaderModel_error r13 u14) fun r15 =>
            some (r15, u14)
          else
            gd (inb x1 1200) <|
            if (ga u 18 x1) = 6 then
              bP (mM_SqlReaderModel_deed u) fun r8 =>
              if r8 = 5 then
                gd (inb x1 1200) <|
                bM (mM_SqlReaderModel_checkValue y1 (ga u 20 x1) u) fun r10 u11 =>
                some (r10, u11)
              else
                bP (mM_SqlReaderModel_gives y1 2 u) fun u9 =>
                some (0, u9)
            else
              gd (inb x1 1200) <|
              if (ga u 18 x1) = 7 then
                bP (mM_SqlReaderModel_checkStar u) fun r7 =>
                some (r7, u)
              else
                gd (inb x1 1200) <|
                if (ga u 18 x1) = 9 then
                  bP (mM_SqlReaderModel_columnOf (u.1 9) (u.1 26) u) fun r5 =>
                  seq (ss u 25 r5) fun u6 =>
                  if 0 ≤ (u6.1 25) then
                    some (0, u6)
                  else
                    some (6, u6)
                else
                  if (u.1 22) = 0 then
                    gd (inb (u.1 9) 8) <|
                    if y1 = (ga u 6 (u.1 9)) then
                      seq (ss u 22 0) fun u3 =>
                      some (0, u3)
                    else
                      seq (ss u 22 1) fun u4 =>
                      some (0, u4)
                  else
                    seq (ss u 22 1) fun u2 =>
                    some (0, u2)
def mM_SqlReaderModel_spread_L66 (q56 : Int32 → St → Option (Int32 × St)) : Nat → Int32 → Int32 → St → Option (Int32 × St)
  | 0, _, _, _ => none
  | n + 1, x2, x3, u =>
    gd (inb x2 1000) <|
    gd (inb (ga u 24 x2) 8) <|
    if (ga u 6 (ga u 24 x2)) ≤ x3 then
      seq (x2 + 1 : Int32) fun y1 =>
      q56 y1 u
    else
      bM (mM_SqlReaderModel_add 4 x2 x3 u) fun r2 u3 =>
      gd (inb x2 1000) <|
      gd (inb ((8 * (ga u3 24 x2)) + x3) 64) <|
      gd (inb r2 200) <| seq (sa u3 13 r2 (ga u3 9 ((8 * (ga u3 24 x2)) + x3))) fun u4 =>
      gd (inb (u4.1 16) 200) <| seq (sa u4 21 (u4.1 16) r2) fun u5 =>
      seq (ss u5 16 ((u5.1 16) + 1)) fun u6 =>
      seq (x3 + 1 : Int32) fun y7 =>
      (mM_SqlReaderModel_spread_L66 q56 n) x2 y7 u6
def mM_SqlReaderModel_spread_L56 : Nat → Int32 → St → Option (Int32 × St)
  | 0, _, _ => none
  | n + 1, x2, u =>
    if (u.1 19) ≤ x2 then
      some (0, u)
    else
      mM_SqlReaderModel_spread_L66 (mM_SqlReaderModel_spread_L56 n) FU x2 0 u
def mM_SqlReaderModel_spread_L4 : Nat → Int32 → Int32 → St → Option (Int32 × St)
  | 0, _, _, _ => none
  | n + 1, x1, x2, u =>
    if (u.1 19) ≤ x2 then
      if x1 ≤ 8 then
        if ((u.1 4) + x1) ≤ 200 then
          mM_SqlReaderModel_spread_L56 FU 0 u
        else
          some (2, u)
      else
        some (3, u)
    else
      gd (inb x2 1000) <|
      gd (inb (ga u 24 x2) 8) <|
      seq ((x1 + (ga u 6 (ga u 24 x2))) : Int32) fun y8 =>
      seq (x2 + 1 : Int32) fun y9 =>
      (mM_SqlReaderModel_spread_L4 n) y8 y9 u
def mM_SqlReaderModel_spread (u : St) : Option (Int32 × St) :=
  mM_SqlReaderModel_spread_L4 FU 0 0 u
def mM_SqlReaderModel_counts_L171 (q161 : Int32 → Int32 → St → Option (Int32)) : Nat → Int32 → Int32 → Int32 → St → Option (Int32)
  | 0, _, _, _, _ => none
  | n + 1, x1, x2, x3, u =>
    if x2 ≤ x3 then
      seq (x2 + 1 : Int32) fun y1 =>
      q161 x1 y1 u
    else
      if x1 = 0 then
        seq (x3 + 1 : Int32) fun y2 =>
        (mM_SqlReaderModel_counts_L171 q161 n) 0 x2 y2 u
      else
        gd (inb x2 1000) <|
        gd (inb x3 1000) <|
        bP (mM_SqlReaderModel_sameToken (ga u 31 x2) (ga u 31 x3) u) fun r3 =>
        if r3 = 0 then
          seq (x3 + 1 : Int32) fun y5 =>
          (mM_SqlReaderModel_counts_L171 q161 n) 1 x2 y5 u
        else
          seq (x3 + 1 : Int32) fun y4 =>
          (mM_SqlReaderModel_counts_L171 q161 n) 0 x2 y4 u
def mM_SqlReaderModel_counts_L161 : Nat → Int32 → Int32 → St → Option (Int32)
  | 0, _, _, _ => none
  | n + 1, x1, x2, u =>
    if (u.1 24) ≤ x2 then
      gd (zb x1) <| some x1
    else
      mM_SqlReaderModel_counts_L171 (mM_SqlReaderModel_counts_L161 n) FU x1 x2 0 u
def mM_SqlReaderModel_counts_L109 : Nat → Int32 → Int32 → St → Option (Int32)
  | 0, _, _, _ => none
  | n + 1, x1, x2, u =>
    if (u.1 18) ≤ x2 then
      mM_SqlReaderModel_counts_L161 FU x1 0 u
    else
      if x1 = 0 then
        seq (x2 + 1 : Int32) fun y6 =>
        (mM_SqlReaderModel_counts_L109 n) 0 y6 u
      else
        gd (inb x2 1000) <|
        if (lg_cmp (gl u 1 x2) 1) < 0 then
          seq (x2 + 1 : Int32) fun y7 =>
          (mM_SqlReaderModel_counts_L109 n) 0 y7 u
        else
          gd (inb x2 1000) <|
          if 0 < (lg_cmp (gl u 1 x2) (Int32.toInt64 (u.1 16))) then
            seq (x2 + 1 : Int32) fun y8 =>
            (mM_SqlReaderModel_counts_L109 n) 0 y8 u
          else
            seq (x2 + 1 : Int32) fun y9 =>
            (mM_SqlReaderModel_counts_L109 n) 1 y9 u
def mM_SqlReaderModel_counts_L65 (q55 : Int32 → Int32 → St → Option (Int32)) : Nat → Int32 → Int32 → Int32 → St → Option (Int32)
  | 0, _, _, _, _ => none
  | n + 1, x1, x2, x3, u =>
    if x2 ≤ x3 then
      seq (x2 + 1 : Int32) fun y10 =>
      q55 x1 y10 u
    else
      if x1 = 0 then
        seq (x3 + 1 : Int32) fun y11 =>
        (mM_SqlReaderModel_counts_L65 q55 n) 0 x2 y11 u
      else
        gd (inb x2 1000) <|
        gd (inb x3 1000) <|
        if (ga u 28 x2) = (ga u 28 x3) then
          seq (x3 + 1 : Int32) fun y12 =>
          (mM_SqlReaderModel_counts_L65 q55 n) 0 x2 y12 u
        else
          seq (x3 + 1 : Int32) fun y13 =>
          (mM_SqlReaderModel_counts_L65 q55 n) 1 x2 y13 u
def mM_SqlReaderModel_counts_L55 : Nat → Int32 → Int32 → St → Option (Int32)
  | 0, _, _, _ => none
  | n + 1, x1, x2, u =>
    if (u.1 20) ≤ x2 then
      mM_SqlReaderModel_counts_L109 FU x1 0 u
    else
      mM_SqlReaderModel_counts_L65 (mM_SqlReaderModel_counts_L55 n) FU x1 x2 0 u
def mM_SqlReaderModel_counts_J31 (u : St) : Option (Int32) :=
  if (u.1 28) = 0 then
    mM_SqlReaderModel_counts_L55 FU 1 0 u
  else
    if (u.1 7) = 16 then
      mM_SqlReaderModel_counts_L55 FU 1 0 u
    else
      mM_SqlReaderModel_counts_L55 FU 0 0 u
def mM_SqlReaderModel_counts (u : St) : Option (Int32) :=
  if (u.1 22) = 0 then
    bP (mM_SqlReaderModel_deed u) fun r14 =>
    if r14 = 5 then
      gd (inb (u.1 9) 8) <|
      if (u.1 16) = (ga u 6 (u.1 9)) then
        mM_SqlReaderModel_counts_J31 u
      else
        mM_SqlReaderModel_counts_L55 FU 0 0 u
    else
      mM_SqlReaderModel_counts_J31 u
  else
    mM_SqlReaderModel_counts_L55 FU 0 0 u
def mM_SqlReaderModel_hasAggregate_J116 (q31 : Int32 → Int32 → St → Option (Int32 × St)) (x2 : Int32) (x3 : Int32) (u : St) : Option (Int32 × St) :=
  if x2 = 0 then
    gd (inb x3 201) <|
    if (ga u 34 x3) = 0 then
      seq (x3 + (-1) : Int32) fun y3 =>
      q31 0 y3 u
    else
      gd (inb x3 200) <|
      if (ga u 10 x3) ≤ 4 then
        seq (x3 + (-1) : Int32) fun y4 =>
        q31 0 y4 u
      else
        gd (inb x3 200) <|
        if 10 ≤ (ga u 10 x3) then
          seq (x3 + (-1) : Int32) fun y5 =>
          q31 0 y5 u
        else
          seq (x3 + (-1) : Int32) fun y6 =>
          q31 1 y6 u
  else
    seq (x3 + (-1) : Int32) fun y2 =>
    q31 1 y2 u
def mM_SqlReaderModel_hasAggregate_J70 (q31 : Int32 → Int32 → St → Option (Int32 × St)) (x2 : Int32) (x3 : Int32) (s0 : Int32) (u : St) : Option (Int32 × St) :=
  if s0 = 0 then
    mM_SqlReaderModel_hasAggregate_J116 q31 x2 x3 u
  else
    gd (inb x3 200) <|
    gd (inb (ga u 11 x3) 201) <| seq (sa u 34 (ga u 11 x3) (zn 1)) fun u7 =>
    gd (inb x3 200) <|
    if 0 ≤ (ga u7 12 x3) then
      gd (inb x3 200) <|
      gd (inb (ga u7 12 x3) 201) <| seq (sa u7 34 (ga u7 12 x3) (zn 1)) fun u8 =>
      mM_SqlReaderModel_hasAggregate_J116 q31 x2 x3 u8
    else
      gd (inb 200 201) <| seq (sa u7 34 200 (zn 1)) fun u9 =>
      mM_SqlReaderModel_hasAggregate_J116 q31 x2 x3 u9
def mM_SqlReaderModel_hasAggregate_L31 : Nat → Int32 → Int32 → St → Option (Int32 × St)
  | 0, _, _, _ => none
  | n + 1, x2, x3, u =>
    if x3 < 0 then
      gd (zb x2) <| some (x2, u)
    else
      gd (inb x3 201) <|
      if (ga u 34 x3) = 0 then
        mM_SqlReaderModel_hasAggregate_J70 (mM_SqlReaderModel_hasAggregate_L31 n) x2 x3 0 u
      else
        gd (inb x3 200) <|
        if (ga u 10 x3) ≤ 5 then
          mM_SqlReaderModel_hasAggregate_J70 (mM_SqlReaderModel_hasAggregate_L31 n) x2 x3 0 u
        else
          gd (inb x3 200) <|
          if 28 ≤ (ga u 10 x3) then
            mM_SqlReaderModel_hasAggregate_J70 (mM_SqlReaderModel_hasAggregate_L31 n) x2 x3 0 u
          else
            mM_SqlReaderModel_hasAggregate_J70 (mM_SqlReaderModel_hasAggregate_L31 n) x2 x3 1 u
def mM_SqlReaderModel_hasAggregate_L4 : Nat → Int32 → Int32 → Int32 → St → Option (Int32 × St)
  | 0, _, _, _, _ => none
  | n + 1, x1, x2, x3, u =>
    if x1 ≤ x3 then
      gd (inb x1 201) <| seq (sa u 34 x1 (zn 1)) fun u1 =>
      mM_SqlReaderModel_hasAggregate_L31 FU x2 x1 u1
    else
      gd (inb x3 201) <| seq (sa u 34 x3 (zn 0)) fun u10 =>
      seq (x3 + 1 : Int32) fun y11 =>
      (mM_SqlReaderModel_hasAggregate_L4 n) x1 x2 y11 u10
def mM_SqlReaderModel_hasAggregate (x1 : Int32) (u : St) : Option (Int32 × St) :=
  mM_SqlReaderModel_hasAggregate_L4 FU x1 0 0 u
def mM_SqlReaderModel_gathered_L15 : Nat → Int32 → Int32 → St → Option (Int32 × St)
  | 0, _, _, _ => none
  | n + 1, x1, x2, u =>
    if (u.1 16) ≤ x2 then
      gd (zb x1) <| some (x1, u)
    else
      if x1 = 0 then
        gd (inb x2 200) <|
        bM (mM_SqlReaderModel_hasAggregate (ga u 21 x2) u) fun r2 u3 =>
        if r2 = 0 then
          seq (x2 + 1 : Int32) fun y4 =>
          (mM_SqlReaderModel_gathered_L15 n) 0 y4 u3
        else
          seq (x2 + 1 : Int32) fun y5 =>
          (mM_SqlReaderModel_gathered_L15 n) 1 y5 u3
      else
        seq (x2 + 1 : Int32) fun y1 =>
        (mM_SqlReaderModel_gathered_L15 n) 1 y1 u
def mM_SqlReaderModel_gathered (u : St) : Option (Int32 × St) :=
  if (u.1 17) ≤ 0 then
    mM_SqlReaderModel_gathered_L15 FU 0 0 u
  else
    mM_SqlReaderModel_gathered_L15 FU 1 0 u
def mM_SqlReaderModel_isGrouped_L4 : Nat → Int32 → Int32 → Int32 → St → Option (Int32)
  | 0, _, _, _, _ => none
  | n + 1, x1, x2, x3, u =>
    if (u.1 17) ≤ x3 then
      gd (zb x2) <| some x2
    else
      if x2 = 0 then
        gd (inb x3 200) <|
        gd (inb (ga u 22 x3) 200) <|
        gd (inb x1 200) <|
        if (ga u 11 (ga u 22 x3)) = (ga u 11 x1) then
          gd (inb x3 200) <|
          gd (inb (ga u 22 x3) 200) <|
          gd (inb x1 200) <|
          if (ga u 12 (ga u 22 x3)) = (ga u 12 x1) then
            seq (x3 + 1 : Int32) fun y4 =>
            (mM_SqlReaderModel_isGrouped_L4 n) x1 1 y4 u
          else
            seq (x3 + 1 : Int32) fun y3 =>
            (mM_SqlReaderModel_isGrouped_L4 n) x1 0 y3 u
        else
          seq (x3 + 1 : Int32) fun y2 =>
          (mM_SqlReaderModel_isGrouped_L4 n) x1 0 y2 u
      else
        seq (x3 + 1 : Int32) fun y1 =>
        (mM_SqlReaderModel_isGrouped_L4 n) x1 1 y1 u
def mM_SqlReaderModel_isGrouped (x1 : Int32) (u : St) : Option (Int32) :=
  mM_SqlReaderModel_isGrouped_L4 FU x1 0 0 u
def mM_SqlReaderModel_isLoose_J117 (q31 : Int32 → Int32 → St → Option (Int32 × St)) (x2 : Int32) (x3 : Int32) (u : St) : Option (Int32 × St) :=
  if x2 = 0 then
    gd (inb x3 201) <|
    if (ga u 34 x3) = 0 then
      seq (x3 + (-1) : Int32) fun y3 =>
      q31 0 y3 u
    else
      gd (inb x3 200) <|
      if (ga u 10 x3) = 4 then
        bP (mM_SqlReaderModel_isGrouped x3 u) fun r5 =>
        if r5 = 0 then
          seq (x3 + (-1) : Int32) fun y7 =>
          q31 1 y7 u
        else
          seq (x3 + (-1) : Int32) fun y6 =>
          q31 0 y6 u
      else
        seq (x3 + (-1) : Int32) fun y4 =>
        q31 0 y4 u
  else
    seq (x3 + (-1) : Int32) fun y2 =>
    q31 1 y2 u
def mM_SqlReaderModel_isLoose_J71 (q31 : Int32 → Int32 → St → Option (Int32 × St)) (x2 : Int32) (x3 : Int32) (s0 : Int32) (u : St) : Option (Int32 × St) :=
  if s0 = 0 then
    mM_SqlReaderModel_isLoose_J117 q31 x2 x3 u
  else
    gd (inb x3 200) <|
    gd (inb (ga u 11 x3) 201) <| seq (sa u 34 (ga u 11 x3) (zn 1)) fun u8 =>
    gd (inb x3 200) <|
    if 0 ≤ (ga u8 12 x3) then
      gd (inb x3 200) <|
      gd (inb (ga u8 12 x3) 201) <| seq (sa u8 34 (ga u8 12 x3) (zn 1)) fun u9 =>
      mM_SqlReaderModel_isLoose_J117 q31 x2 x3 u9
    else
      gd (inb 200 201) <| seq (sa u8 34 200 (zn 1)) fun u10 =>
      mM_SqlReaderModel_isLoose_J117 q31 x2 x3 u10
def mM_SqlReaderModel_isLoose_L31 : Nat → Int32 → Int32 → St → Option (Int32 × St)
  | 0, _, _, _ => none
  | n + 1, x2, x3, u =>
    if x3 < 0 then
      gd (zb x2) <| some (x2, u)
    else
      gd (inb x3 201) <|
      if (ga u 34 x3) = 0 then
        mM_SqlReaderModel_isLoose_J71 (mM_SqlReaderModel_isLoose_L31 n) x2 x3 0 u
      else
        gd (inb x3 200) <|
        if (ga u 10 x3) ≤ 9 then
          mM_SqlReaderModel_isLoose_J71 (mM_SqlReaderModel_isLoose_L31 n) x2 x3 0 u
        else
          gd (inb x3 200) <|
          if 28 ≤ (ga u 10 x3) then
            mM_SqlReaderModel_isLoose_J71 (mM_SqlReaderModel_isLoose_L31 n) x2 x3 0 u
          else
            mM_SqlReaderModel_isLoose_J71 (mM_SqlReaderModel_isLoose_L31 n) x2 x3 1 u
def mM_SqlReaderModel_isLoose_L4 : Nat → Int32 → Int32 → Int32 → St → Option (Int32 × St)
  | 0, _, _, _, _ => none
  | n + 1, x1, x2, x3, u =>
    if x1 ≤ x3 then
      gd (inb x1 201) <| seq (sa u 34 x1 (zn 1)) fun u1 =>
      mM_SqlReaderModel_isLoose_L31 FU x2 x1 u1
    else
      gd (inb x3 201) <| seq (sa u 34 x3 (zn 0)) fun u11 =>
      seq (x3 + 1 : Int32) fun y12 =>
      (mM_SqlReaderModel_isLoose_L4 n) x1 x2 y12 u11
def mM_SqlReaderModel_isLoose (x1 : Int32) (u : St) : Option (Int32 × St) :=
  mM_SqlReaderModel_isLoose_L4 FU x1 0 0 u
def mM_SqlReaderModel_checkGroups_J127 (s0 : Int32) (u : St) : Option (Int32 × St) :=
  if (u.1 11) ≤ 0 then
    some (0, u)
  else
    bP (mM_SqlReaderModel_deed u) fun r3 =>
    if r3 = 9 then
      some (0, u)
    else
      bP (mM_SqlReaderModel_deed u) fun r4 =>
      if r4 = 15 then
        some (0, u)
      else
        if s0 = 0 then
          some (10, u)
        else
          some (0, u)
def mM_SqlReaderModel_checkGroups_L60 : Nat → Int32 → Int32 → St → Option (Int32 × St)
  | 0, _, _, _ => none
  | n + 1, x1, x2, u =>
    if (u.1 16) ≤ x2 then
      if 2 ≤ (u.1 19) then
        mM_SqlReaderModel_checkGroups_J127 0 u
      else
        if (u.1 14) = 0 then
          if x1 = 0 then
            bP (mM_SqlReaderModel_deed u) fun r5 =>
            if r5 = 8 then
              mM_SqlReaderModel_checkGroups_J127 1 u
            else
              mM_SqlReaderModel_checkGroups_J127 0 u
          else
            mM_SqlReaderModel_checkGroups_J127 0 u
        else
          mM_SqlReaderModel_checkGroups_J127 0 u
    else
      if x1 = 0 then
        seq (x2 + 1 : Int32) fun y6 =>
        (mM_SqlReaderModel_checkGroups_L60 n) x1 y6 u
      else
        gd (inb x2 200) <|
        bM (mM_SqlReaderModel_isLoose (ga u 21 x2) u) fun r7 u8 =>
        if r7 = 0 then
          seq (x2 + 1 : Int32) fun y9 =>
          (mM_SqlReaderModel_checkGroups_L60 n) x1 y9 u8
        else
          some (9, u8)
def mM_SqlReaderModel_checkGroups_L2 : Nat → Int32 → St → Option (Int32 × St)
  | 0, _, _ => none
  | n + 1, x1, u =>
    if (u.1 4) ≤ x1 then
      bM (mM_SqlReaderModel_gathered u) fun r1 u2 =>
      mM_SqlReaderModel_checkGroups_L60 FU r1 0 u2
    else
      gd (inb x1 200) <|
      if (ga u 10 x1) ≤ 5 then
        seq (x1 + 1 : Int32) fun y10 =>
        (mM_SqlReaderModel_checkGroups_L2 n) y10 u
      else
        gd (inb x1 200) <|
        if 10 ≤ (ga u 10 x1) then
          seq (x1 + 1 : Int32) fun y11 =>
          (mM_SqlReaderModel_checkGroups_L2 n) y11 u
        else
          gd (inb x1 200) <|
          bM (mM_SqlReaderModel_hasAggregate (ga u 11 x1) u) fun r12 u13 =>
          if r12 = 0 then
            seq (x1 + 1 : Int32) fun y14 =>
            (mM_SqlReaderModel_checkGroups_L2 n) y14 u13
          else
            some (9, u13)
def mM_SqlReaderModel_checkGroups (u : St) : Option (Int32 × St) :=
  mM_SqlReaderModel_checkGroups_L2 FU 0 u
def mM_SqlReaderModel_fault_J170 (s0 : Int32) (u : St) : Option (Int32 × St) :=
  if s0 = 0 then
    bP (mM_SqlReaderModel_counts u) fun r7 =>
    if r7 = 0 then
      some (1, u)
    else
      bM (mM_SqlReaderModel_checkGroups u) fun r8 u9 =>
      some (r8, u9)
  else
    some (s0, u)
def mM_SqlReaderModel_fault_J151 (x2 : Int32) (u : St) : Option (Int32 × St) :=
  if x2 = 0 then
    if (u.1 13) = 0 then
      mM_SqlReaderModel_fault_J170 x2 u
    else
      bM (mM_SqlReaderModel_spread u) fun r10 u11 =>
      mM_SqlReaderModel_fault_J170 r10 u11
  else
    mM_SqlReaderModel_fault_J170 x2 u
def mM_SqlReaderModel_fault_L127 : Nat → Int32 → Int32 → St → Option (Int32 × St)
  | 0, _, _, _ => none
  | n + 1, x2, x3, u =>
    if (u.1 5) ≤ x3 then
      mM_SqlReaderModel_fault_J151 x2 u
    else
      if x2 = 0 then
        bM (mM_SqlReaderModel_checkOne x3 u) fun r12 u13 =>
        seq (x3 + 1 : Int32) fun y14 =>
        (mM_SqlReaderModel_fault_L127 n) r12 y14 u13
      else
        mM_SqlReaderModel_fault_J151 x2 u
def mM_SqlReaderModel_fault_J27 (u : St) : Option (Int32 × St) :=
  bM (mM_SqlReaderModel_takes 81 u) fun r3 u4 =>
  if (u4.1 2) = 0 then
    if (u4.1 30) = (u4.1 1) then
      if (u4.1 4) ≤ 200 then
        if 3 < (u4.1 19) then
          some (3, u4)
        else
          if 8 < (u4.1 16) then
            some (3, u4)
          else
            if 4 < (u4.1 17) then
              some (3, u4)
            else
              if 4 < (u4.1 18) then
                some (3, u4)
              else
                if 8 < (u4.1 24) then
                  some (3, u4)
                else
                  if (u4.1 20) ≤ 8 then
                    bM (mM_SqlReaderModel_checkTables u4) fun r5 u6 =>
                    mM_SqlReaderModel_fault_L127 FU r5 0 u6
                  else
                    some (3, u4)
      else
        some (2, u4)
    else
      some (1, u4)
  else
    some (1, u4)
def mM_SqlReaderModel_fault (u : St) : Option (Int32 × St) :=
  bP (mM_SqlReaderModel_cut u) fun u1 =>
  seq (ss u1 30 0) fun u2 =>
  if (u2.1 2) = 0 then
    bM (mM_SqlReaderModel_readDeed u2) fun r15 u16 =>
    if r15 = 0 then
      bP (mM_SqlReaderModel_readOther u16) fun u17 =>
      mM_SqlReaderModel_fault_J27 u17
    else
      mM_SqlReaderModel_fault_J27 u16
  else
    mM_SqlReaderModel_fault_J27 u2
def mM_SqlReaderModel_keep_L29 : Nat → Int32 → Int32 → Int32 → St → Option (St)
  | 0, _, _, _, _ => none
  | n + 1, x1, x2, x3, u =>
    gd (inb x1 9) <|
    if (ga u 36 x1) ≤ x3 then
      some u
    else
      gd (inb x2 2001) <|
      gd (inb ((ga u 2 x2) + x3) 2000) <|
      gd (inb ((16 * x1) + x3) 144) <| seq (sa u 35 ((16 * x1) + x3) (i2b (ga u 0 ((ga u 2 x2) + x3)))) fun u2 =>
      seq (x3 + 1 : Int32) fun y3 =>
      (mM_SqlReaderModel_keep_L29 n) x1 x2 y3 u2
def mM_SqlReaderModel_keep (x1 : Int32) (x2 : Int32) (u : St) : Option (St) :=
  if 0 ≤ x2 then
    gd (inb x2 2001) <|
    gd (inb x2 2001) <|
    gd (inb x1 9) <| seq (sa u 36 x1 ((ga u 3 x2) - (ga u 2 x2))) fun u1 =>
    mM_SqlReaderModel_keep_L29 FU x1 x2 0 u1
  else
    gd (inb x1 9) <| seq (sa u 36 x1 0) fun u4 =>
    mM_SqlReaderModel_keep_L29 FU x1 x2 0 u4
def mM_SqlReaderModel_read_L39 : Nat → Int32 → St → Option (Int32 × St)
  | 0, _, _ => none
  | n + 1, x1, u =>
    if 8 ≤ x1 then
      if (u.1 6) ≤ 0 then
        some ((u.1 7), u)
      else
        some ((-(u.1 6)), u)
    else
      if (u.1 24) ≤ x1 then
        bP (mM_SqlReaderModel_keep (x1 + 1) (-1) u) fun u7 =>
        seq (x1 + 1 : Int32) fun y8 =>
        (mM_SqlReaderModel_read_L39 n) y8 u7
      else
        gd (inb x1 1000) <|
        bP (mM_SqlReaderModel_keep (x1 + 1) (ga u 31 x1) u) fun u9 =>
        seq (x1 + 1 : Int32) fun y10 =>
        (mM_SqlReaderModel_read_L39 n) y10 u9
def mM_SqlReaderModel_read (u : St) : Option (Int32 × St) :=
  bP (mM_SqlReaderModel_forget u) fun u1 =>
  bM (mM_SqlReaderModel_fault u1) fun r2 u3 =>
  seq (ss u3 6 r2) fun u4 =>
  seq (ss u4 0 0) fun u5 =>
  if (u5.1 6) ≤ 0 then
    bP (mM_SqlReaderModel_keep 0 (u5.1 12) u5) fun u6 =>
    mM_SqlReaderModel_read_L39 FU 0 u6
  else
    bP (mM_SqlReaderModel_forget u5) fun u11 =>
    bP (mM_SqlReaderModel_keep 0 (u11.1 12) u11) fun u12 =>
    mM_SqlReaderModel_read_L39 FU 0 u12
def mM_SqlReaderModel_node (x1 : Int32) (x2 : Int32) (u : St) : Option (Int32) :=
  if x1 < 0 then
    some (-1)
  else
    if x1 < (u.1 4) then
      if x2 = 0 then
        gd (inb x1 200) <|
        some (ga u 10 x1)
      else
        if x2 = 1 then
          gd (inb x1 200) <|
          some (ga u 11 x1)
        else
          if x2 = 2 then
            gd (inb x1 200) <|
            some (ga u 12 x1)
          else
            if x2 = 3 then
              bP (mM_SqlReaderModel_typeOf x1 u) fun r1 =>
              some r1
            else
              some (-1)
    else
      some (-1)
def mM_SqlReaderModel_value (x1 : Int32) (u : St) : Option (Int64) :=
  if x1 < 0 then
    some 0
  else
    if x1 < (u.1 4) then
      gd (inb x1 200) <|
      if (ga u 10 x1) = 1 then
        gd (inb x1 200) <|
        some (gl u 0 x1)
      else
        gd (inb x1 200) <|
        if (ga u 10 x1) = 2 then
          gd (inb x1 200) <|
          some (Int32.toInt64 (ga u 17 x1))
        else
          some 0
    else
      some 0
def mM_SqlReaderModel_letter (x1 : Int32) (x2 : Int32) (u : St) : Option (Int32) :=
  if x1 < 0 then
    some (-1)
  else
    if (u.1 4) ≤ x1 then
      some (-1)
    else
      gd (inb x1 200) <|
      if (ga u 10 x1) = 2 then
        if x2 < 0 then
          some (-1)
        else
          gd (inb x1 200) <|
          if x2 < (ga u 17 x1) then
            gd (inb ((31 * x1) + x2) 6200) <|
            some (ga u 16 ((31 * x1) + x2))
          else
            some (-1)
      else
        some (-1)
def mM_SqlReaderModel_sizeOf_J26 (x1 : Int32) (s0 : Int32) (u : St) : Option (Int32) :=
  if x1 = 9 then
    if s0 = 1 then
      some (u.1 23)
    else
      some 0
  else
    if s0 = 0 then
      some (u.1 23)
    else
      some 0
def mM_SqlReaderModel_sizeOf_J12 (x1 : Int32) (u : St) : Option (Int32) :=
  if (u.1 7) = 17 then
    mM_SqlReaderModel_sizeOf_J26 x1 1 u
  else
    mM_SqlReaderModel_sizeOf_J26 x1 0 u
def mM_SqlReaderModel_sizeOf (x1 : Int32) (u : St) : Option (Int32) :=
  if x1 = 6 then
    mM_SqlReaderModel_sizeOf_J12 x1 u
  else
    if x1 = 9 then
      mM_SqlReaderModel_sizeOf_J12 x1 u
    else
      if x1 = 0 then
        some (u.1 16)
      else
        if x1 = 1 then
          some (u.1 17)
        else
          if x1 = 2 then
            some (u.1 18)
          else
            if x1 = 3 then
              some (u.1 19)
            else
              if x1 = 4 then
                some (u.1 20)
              else
                if x1 = 5 then
                  some (u.1 20)
                else
                  if x1 = 7 then
                    some (u.1 24)
                  else
                    if x1 = 8 then
                      some (u.1 28)
                    else
                      some 0
def mM_SqlReaderModel_count (x1 : Int32) (u : St) : Option (Int32) :=
  if 9 ≤ x1 then
    if 14 ≤ x1 then
      if x1 = 14 then
        some (u.1 8)
      else
        if x1 = 15 then
          some (u.1 9)
        else
          if x1 = 16 then
            some (u.1 25)
          else
            if x1 = 17 then
              if (u.1 27) = 0 then
                some 0
              else
                some 1
            else
              some (-1)
    else
      if x1 = 9 then
        bP (mM_SqlReaderModel_sizeOf 9 u) fun r1 =>
        some r1
      else
        if x1 = 10 then
          some (u.1 11)
        else
          if x1 = 11 then
            if (u.1 14) = 0 then
              some 0
            else
              some 1
          else
            if x1 = 12 then
              some (Int64.toInt32 (u.2.2.1 0))
            else
              some (u.1 15)
  else
    if x1 = 0 then
      some (u.1 4)
    else
      if x1 = 1 then
        some (u.1 16)
      else
        if x1 = 2 then
          some (u.1 17)
        else
          if x1 = 3 then
            some (u.1 18)
          else
            if x1 = 4 then
              some (u.1 19)
            else
              if x1 = 5 then
                some (u.1 20)
              else
                if x1 = 6 then
                  some (u.1 21)
                else
                  if x1 = 7 then
                    some (u.1 24)
                  else
                    if x1 = 8 then
                      some (u.1 28)
                    else
                      some (-1)
def mM_SqlReaderModel_list (x1 : Int32) (x2 : Int32) (u : St) : Option (Int32) :=
  if x2 < 0 then
    some (-1)
  else
    bP (mM_SqlReaderModel_sizeOf x1 u) fun r1 =>
    if x2 < r1 then
      if x1 = 2 then
        gd (inb x2 1000) <|
        if (ga u 23 x2) = 0 then
          gd (inb x2 1000) <|
          some ((Int64.toInt32 (gl u 1 x2)) - 1)
        else
          gd (inb x2 1000) <|
          some (Int64.toInt32 (-(gl u 1 x2)))
      else
        if x1 = 0 then
          gd (inb x2 200) <|
          some (ga u 21 x2)
        else
          if x1 = 1 then
            gd (inb x2 200) <|
            some (ga u 22 x2)
          else
            if x1 = 3 then
              gd (inb x2 1000) <|
              some (ga u 24 x2)
            else
              if x1 = 4 then
                gd (inb x2 1000) <|
                some (ga u 28 x2)
              else
                if x1 = 5 then
                  gd (inb x2 1000) <|
                  some (ga u 29 x2)
                else
                  if x1 = 7 then
                    gd (inb x2 1000) <|
                    some (ga u 32 x2)
                  else
                    if x1 = 8 then
                      gd (inb (x2 + 1) 10) <|
                      some (ga u 33 (x2 + 1))
                    else
                      gd (inb x2 1000) <|
                      some (ga u 30 x2)
    else
      some (-1)
def mM_SqlReaderModel_name_J32 (x1 : Int32) (x2 : Int32) (s0 : Int32) (u : St) : Option (Int32) :=
  if s0 = 0 then
    some (-1)
  else
    gd (inb ((16 * (x1 + 1)) + x2) 144) <|
    some (ga u 35 ((16 * (x1 + 1)) + x2))
def mM_SqlReaderModel_name (x1 : Int32) (x2 : Int32) (u : St) : Option (Int32) :=
  if x1 < (-1) then
    mM_SqlReaderModel_name_J32 x1 x2 0 u
  else
    if 8 ≤ x1 then
      mM_SqlReaderModel_name_J32 x1 x2 0 u
    else
      if x2 < 0 then
        mM_SqlReaderModel_name_J32 x1 x2 0 u
      else
        gd (inb (x1 + 1) 9) <|
        if (ga u 36 (x1 + 1)) ≤ x2 then
          mM_SqlReaderModel_name_J32 x1 x2 0 u
        else
          mM_SqlReaderModel_name_J32 x1 x2 1 u
